/-! THE TONGUE of the reference, whole -/
def xFA (i k : Nat) : Prop := (i = 187 ∧ ((4 ≤ k ∧ k ≤ 10) ∨ (16 ≤ k ∧ k ≤ 20))) ∨ i = 190 ∨ i = 192 ∨ i = 194
theorem xFN_A (i k : Nat) (h : i = 187 ∧ (k = 4 ∨ k = 5 ∨ k = 6 ∨ k = 7 ∨ k = 8)) : xFA i k := Or.inl ⟨h.1, by omega⟩
theorem xFO_A (i k : Nat) (h : i = 187 ∧ (k = 4 ∨ k = 5 ∨ k = 6 ∨ k = 7 ∨ k = 8 ∨ k = 20)) : xFA i k := Or.inl ⟨h.1, by omega⟩
theorem xFV_A (i k : Nat) (h : (i = 187 ∧ k = 16) ∨ (i = 187 ∧ (k = 4 ∨ k = 5 ∨ k = 6 ∨ k = 7 ∨ k = 8))) : xFA i k := h.elim (fun h => Or.inl ⟨h.1, by omega⟩) (xFN_A i k)
theorem xFW_A (i k : Nat) (h : (i = 187 ∧ k = 19) ∨ (i = 187 ∧ (k = 4 ∨ k = 5 ∨ k = 6 ∨ k = 7 ∨ k = 8))) : xFA i k := h.elim (fun h => Or.inl ⟨h.1, by omega⟩) (xFN_A i k)
theorem xFA_9 : xFA 187 9 := Or.inl ⟨rfl, by omega⟩
theorem xFA_10 : xFA 187 10 := Or.inl ⟨rfl, by omega⟩
theorem xFA_19 : xFA 187 19 := Or.inl ⟨rfl, by omega⟩
/-- the rule that begins at p, with its reading -/
def xrl {V : Type} (t : Nat → Nat) (n : Nat) (ws : List (List Nat)) (rule : Nat → Nat → V → Except (Nat × Nat) (Nat × V)) (p seen : Nat) (v : V) : Except (Nat × Nat) (Nat × V) :=
  match xwh t n p ws 0 with
  | none => .error (xfh t n p)
  | some r => if seen.testBit r = true then .error (4, xts t n p) else rule r (xta t n p) v
theorem mvow_loop {n p : Nat} {t : Nat → Nat} {d : Nat} {Q : Option Value → xS → Prop} (h1 : xtk t n p = 1) : ∀ (j m : Nat) (S : xS), m + j = xtz t n p → XC S → xTxM S n t → xTM S n t p → S.2.1 187 16 = nI (xvow t (xts t n p) m) → (∀ S' z, xFl (fun i k => i = 187 ∧ k = 16) S S' → S'.2.2.2 = S.2.2.2 → S'.2.1 187 16 = nI (xvow t (xts t n p) (xtz t n p)) → Wp false (d + 4) 11 cX12_tongueRule (some .boolean) false 79 [.ref 187, .int z] [] S' Q) → Wp false (d + 4) 11 cX12_tongueRule (some .boolean) false 40 [.ref 187, .int (nI m)] [] S Q := by
  intro j
  induction j with
  | zero => ?_
  | succ j ih => ?_
  all_goals
    intro m S hm hX hT hM h16 k
    have hM0 := hM
    obtain ⟨hp, h6, h4, h5, hr⟩ := hM
    have hx := xtk1 h1
    obtain ⟨r1, r2, r3⟩ := hr hx.1
    have hle := hT.2.1
    have hab := xta_b t hp
    have ez : xtz t n p = xte t n p - xts t n p := by unfold xtz; rw [hx.2.2.1]
    have r1' : S.2.1 187 7 = nI (xtz t n p) := by rw [ez]; exact r1
  · have hmz : m = xtz t n p := by omega
    subst hmz
    refine wp_iload_n dX12_tongueRule_40 rfl (wp_aload_n dX12_tongueRule_41 rfl rfl (gv11_31 dX12_tongueRule_42 (xsh hX sh_187) r1' ?_))
    refine wn_icmp_ge dX12_tongueRule_45 rfl (by omega) (by omega) (fun c45 => ?_) (fun c45 => absurd c45 (by omega))
    exact k S _ (xFl.rf S) rfl h16
  · have hc := xsm_b (hx.2.2.2 (xts t n p + m) (by omega) (by omega))
    obtain ⟨q1, q2⟩ := hT.2.2 (xts t n p + m) (by omega)
    rw [xby_lo _ (by omega)] at q2
    have F1 : xFl (fun i k => i = 187 ∧ k = 16) S (xSI S 187 16 (nI (xvow t (xts t n p) (m + 1)))) := (xFl.rf S).SI ⟨rfl, rfl⟩
    refine wp_iload_n dX12_tongueRule_40 rfl (wp_aload_n dX12_tongueRule_41 rfl rfl (gv11_31 dX12_tongueRule_42 (xsh hX sh_187) r1' ?_))
    refine wn_icmp_ge dX12_tongueRule_45 rfl (by omega) (by omega) (fun c45 => absurd c45 (by omega)) (fun c45 => ?_)
    refine wp_aload_n dX12_tongueRule_48 rfl rfl (wp_aload_n dX12_tongueRule_49 rfl rfl (gv11_76 dX12_tongueRule_50 (xsh hX sh_187) h16 (wp_iconst (v := nI 1) dX12_tongueRule_53 rfl (wp_aload_n dX12_tongueRule_54 rfl rfl (g11_14 dX12_tongueRule_55 (xsh hX sh_187) (xrr hX r187_1) (wp_aload_n dX12_tongueRule_58 rfl rfl (gv11_28 dX12_tongueRule_59 (xsh hX sh_187) h6 (wp_iload_n dX12_tongueRule_62 rfl (wv_iadd dX12_tongueRule_63 (nI_add _ _) (wn_baload dX12_tongueRule_64 (xsh hX sh_188) (Or.inl rfl) (by omega) (by decide) q2 (wp_bipush (v := nI 97) dX12_tongueRule_65 rfl (wv_isub dX12_tongueRule_67 (pk_sub (by omega)) (wv_ishl dX12_tongueRule_68 (xsh1 (by omega)) (wv_ior dX12_tongueRule_69 (fa_or _ _) (p11_76 dX12_tongueRule_70 (xsh hX sh_187) (wp_iinc dX12_tongueRule_73 rfl (nI_1 _) ⟨Nat.le_of_ble_eq_true rfl, Or.inr rfl⟩ rfl (wp_goto dX12_tongueRule_76 rfl ?_)))))))))))))))))
    refine ih (m + 1) (xSI S 187 16 (nI (xvow t (xts t n p) (m + 1)))) (by omega) hX (hT.fr F1 (by omega) (fun k => by omega)) (hM0.fr F1 (fun k _ _ => by omega) rfl) (xI_same _ _ _ _) ?_
    intro S' z f hl q
    exact k S' z (F1.tt f) hl q
theorem m_tgRule_none {n p seen : Nat} {t : Nat → Nat} {v : xTg} (d : Nat) {S : xS} (hX : XC S) (hT : xTxM S n t) (hM : xTM S n t p) (hs : S.2.1 187 20 = nI seen) (hs2 : seen < 2 ^ 31) (hV : xTgN S v) (h0 : xiw xw_vowels n t p = false) (h1 : xiw xw_joined n t p = false) (h2 : xiw xw_mute n t p = false) (h3 : xiw xw_strong n t p = false) : ∃ S', xcall false (d + 4) j_X12_tongueRule [.ref 187] S (some (.int (xB false))) S' ∧ xFl xFA S S' ∧ S'.2.1 187 9 = nI (xfh t n p).1 ∧ S'.2.1 187 10 = nI (xfh t n p).2 := by
  have hM0 := hM
  obtain ⟨hp, h6, h4, h5, hr⟩ := hM
  have b4 := xtk_b t n p
  have hab := xta_b t hp
  have hle := hT.2.1
  refine ⟨_, ?_, ((xFl.rf S).SI (a := 187) (k := 9) xFA_9).SI (a := 187) (k := 10) xFA_10, xi (xI_same _ _ _ _) (Or.inr (by decide)), xI_same _ _ _ _⟩
  refine xcall_intro (ls := [.ref 187, .float 0]) q_X12_tongueRule (by decide) rfl (Nat.le_of_ble_eq_true rfl) rfl ?_
  refine wp_aload_n dX12_tongueRule_0 rfl rfl (wp_ldc2 (v := lN 130221116583027) dX12_tongueRule_1 k11_122 rfl (wp_iv2 dX12_tongueRule_4 k11_124 q_X12_isWord (by decide) (xsh hX sh_187) (by decide) (Nat.le_of_ble_eq_true rfl) (m_isWord (d + 3) hX hT hM0 (r := xw_vowels) (W := 130221116583027) ⟨by decide, by decide, by decide, by decide⟩ (by decide)) ?_))
  refine wb_if_eq dX12_tongueRule_7 rfl (fun c7 => ?_) (fun c7 => absurd c7 (by rw [h0]; decide))
  refine wp_aload_n dX12_tongueRule_88 rfl rfl (wp_ldc2 (v := lN 117026742756708) dX12_tongueRule_89 k11_134 rfl (wp_iv2 dX12_tongueRule_92 k11_124 q_X12_isWord (by decide) (xsh hX sh_187) (by decide) (Nat.le_of_ble_eq_true rfl) (m_isWord (d + 3) hX hT hM0 (r := xw_joined) (W := 117026742756708) ⟨by decide, by decide, by decide, by decide⟩ (by decide)) ?_))
  refine wb_if_eq dX12_tongueRule_95 rfl (fun c95 => ?_) (fun c95 => absurd c95 (by rw [h1]; decide))
  refine wp_aload_n dX12_tongueRule_120 rfl rfl (wp_ldc2 (v := lN 1836414053) dX12_tongueRule_121 k11_140 rfl (wp_iv2 dX12_tongueRule_124 k11_124 q_X12_isWord (by decide) (xsh hX sh_187) (by decide) (Nat.le_of_ble_eq_true rfl) (m_isWord (d + 3) hX hT hM0 (r := xw_mute) (W := 1836414053) ⟨by decide, by decide, by decide, by decide⟩ (by decide)) ?_))
  refine wb_if_eq dX12_tongueRule_127 rfl (fun c127 => ?_) (fun c127 => absurd c127 (by rw [h2]; decide))
  refine wp_aload_n dX12_tongueRule_152 rfl rfl (wp_ldc2 (v := lN 126943973305959) dX12_tongueRule_153 k11_142 rfl (wp_iv2 dX12_tongueRule_156 k11_124 q_X12_isWord (by decide) (xsh hX sh_187) (by decide) (Nat.le_of_ble_eq_true rfl) (m_isWord (d + 3) hX hT hM0 (r := xw_strong) (W := 126943973305959) ⟨by decide, by decide, by decide, by decide⟩ (by decide)) ?_))
  refine wb_if_ne dX12_tongueRule_159 rfl (fun c159 => absurd c159 (by rw [h3]; decide)) (fun c159 => ?_)
  exact wp_aload_n dX12_tongueRule_162 rfl rfl (wp_iv1 dX12_tongueRule_163 k11_61 q_X12_cant (by decide) (xsh hX sh_187) (by decide) (Nat.le_of_ble_eq_true rfl) (m_cant (d + 2) hX hT hM0) (wb_ret dX12_tongueRule_166 rfl rfl ⟨rfl, rfl⟩))
theorem m_tgRule_two0 {n p seen : Nat} {t : Nat → Nat} {v : xTg} (d : Nat) {S : xS} (hX : XC S) (hT : xTxM S n t) (hM : xTM S n t p) (hs : S.2.1 187 20 = nI seen) (hs2 : seen < 2 ^ 31) (hV : xTgN S v) (h0 : xiw xw_vowels n t p = true) (hb : seen.testBit 0 = true) : ∃ S', xcall false (d + 4) j_X12_tongueRule [.ref 187] S (some (.int (xB false))) S' ∧ xFl xFA S S' ∧ S'.2.1 187 9 = nI 4 ∧ S'.2.1 187 10 = nI (xts t n p) := by
  have hM0 := hM
  obtain ⟨hp, h6, h4, h5, hr⟩ := hM
  have b4 := xtk_b t n p
  have hab := xta_b t hp
  have hle := hT.2.1
  refine ⟨_, ?_, ((xFl.rf S).SI (a := 187) (k := 9) xFA_9).SI (a := 187) (k := 10) xFA_10, xi (xI_same _ _ _ _) (Or.inr (by decide)), xI_same _ _ _ _⟩
  refine xcall_intro (ls := [.ref 187, .float 0]) q_X12_tongueRule (by decide) rfl (Nat.le_of_ble_eq_true rfl) rfl ?_
  refine wp_aload_n dX12_tongueRule_0 rfl rfl (wp_ldc2 (v := lN 130221116583027) dX12_tongueRule_1 k11_122 rfl (wp_iv2 dX12_tongueRule_4 k11_124 q_X12_isWord (by decide) (xsh hX sh_187) (by decide) (Nat.le_of_ble_eq_true rfl) (m_isWord (d + 3) hX hT hM0 (r := xw_vowels) (W := 130221116583027) ⟨by decide, by decide, by decide, by decide⟩ (by decide)) ?_))
  refine wb_if_eq dX12_tongueRule_7 rfl (fun c7 => absurd c7 (by rw [h0]; decide)) (fun c7 => ?_)
  refine wp_aload_n dX12_tongueRule_10 rfl rfl (wp_iconst (v := nI 0) dX12_tongueRule_11 rfl (wp_iv2 dX12_tongueRule_12 k11_128 q_X12_once (by decide) (xsh hX sh_187) (by decide) (Nat.le_of_ble_eq_true rfl) (m_once_two (d + 1) hX hT hM0 hs hs2 (by decide) hb) ?_))
  refine wb_if_ne dX12_tongueRule_15 rfl (fun c15 => absurd c15 (by decide)) (fun c15 => ?_)
  exact wp_iconst (v := nI 0) dX12_tongueRule_18 rfl (wb_ret dX12_tongueRule_19 rfl rfl ⟨rfl, rfl⟩)
set_option maxHeartbeats 16000000 in
theorem m_tgRule0 {n p seen : Nat} {t : Nat → Nat} {v : xTg} (d : Nat) {S : xS} (hX : XC S) (hT : xTxM S n t) (hM : xTM S n t p) (hs : S.2.1 187 20 = nI seen) (hs2 : seen < 2 ^ 31) (hV : xTgN S v) (h0 : xiw xw_vowels n t p = true) (hb : seen.testBit 0 = false) : ∃ b S', xcall false (d + 4) j_X12_tongueRule [.ref 187] S (some (.int (xB b))) S' ∧ xFl xFA S S' ∧ xMO xTgN n t S S' b (xtrule t n 0 (xta t n p) v) ∧ S'.2.1 187 20 = nI (seen ||| 2 ^ 0) := by
  have hM0 := hM
  obtain ⟨hp, h6, h4, h5, hr⟩ := hM
  have b4 := xtk_b t n p
  have hab := xta_b t hp
  have hle := hT.2.1
  obtain ⟨S1, g1, f1, t1, o1⟩ := m_once (d + 1) hX hT hM0 hs hs2 (r := 0) (by decide) hb
  have X1 := f1.XC hX
  have T1 := hT.fr f1 (by omega) (fun k => by omega)
  have F1 : xFl xFA S S1 := f1.mono xFO_A
  have V1 := hV.fr f1 (fun i k h => by omega)
  have t1' := t1
  obtain ⟨p1, a6, a4, a5, ar⟩ := t1
  have hab1 := xta_b t p1
  have b41 := xtk_b t n (xta t n p)
  have e9 : S1.2.1 187 9 = S.2.1 187 9 := f1.2.2 187 9 (by omega)
  by_cases h1 : xtk t n (xta t n p) = 1
  · have ER : xtrule t n 0 (xta t n p) v = .ok (xta t n (xta t n p), (xvow t (xts t n (xta t n p)) (xtz t n (xta t n p)), v.2)) := by
      unfold xtrule
      rw [if_pos rfl, if_pos h1]
    rw [ER]
    have hx := xtk1 h1
    have G0 : xFl (fun i k => i = 187 ∧ k = 16) S1 (xSI S1 187 16 (nI 0)) := (xFl.rf S1).SI ⟨rfl, rfl⟩
    obtain ⟨r, S', k1, b, rfl, k2⟩ := xcall_some (al := false) (d := d + 4) (ls := [.ref 187, .float 0]) (S := S) (as := [.ref 187]) q_X12_tongueRule (by decide) rfl (Nat.le_of_ble_eq_true rfl) rfl
      (P := fun r S' => ∃ b, r = some (.int (xB b)) ∧ xFl xFA S S' ∧ xMO xTgN n t S S' b (.ok (xta t n (xta t n p), (xvow t (xts t n (xta t n p)) (xtz t n (xta t n p)), v.2))) ∧ S'.2.1 187 20 = nI (seen ||| 2 ^ 0)) (by
        refine wp_aload_n dX12_tongueRule_0 rfl rfl (wp_ldc2 (v := lN 130221116583027) dX12_tongueRule_1 k11_122 rfl (wp_iv2 dX12_tongueRule_4 k11_124 q_X12_isWord (by decide) (xsh hX sh_187) (by decide) (Nat.le_of_ble_eq_true rfl) (m_isWord (d + 3) hX hT hM0 (r := xw_vowels) (W := 130221116583027) ⟨by decide, by decide, by decide, by decide⟩ (by decide)) ?_))
        refine wb_if_eq dX12_tongueRule_7 rfl (fun c7 => absurd c7 (by rw [h0]; decide)) (fun c7 => ?_)
        refine wp_aload_n dX12_tongueRule_10 rfl rfl (wp_iconst (v := nI 0) dX12_tongueRule_11 rfl (wp_iv2 dX12_tongueRule_12 k11_128 q_X12_once (by decide) (xsh hX sh_187) (by decide) (Nat.le_of_ble_eq_true rfl) g1 ?_))
        refine wb_if_ne dX12_tongueRule_15 rfl (fun c15 => ?_) (fun c15 => absurd c15 (by decide))
        refine wp_aload_n dX12_tongueRule_20 rfl rfl (gv11_34 dX12_tongueRule_21 (xsh X1 sh_187) a5 (wp_iconst (v := nI 1) dX12_tongueRule_24 rfl ?_))
        refine wn_icmp_eq dX12_tongueRule_25 rfl (by omega) (by omega) (fun c25 => ?_) (fun c25 => absurd c25 (by omega))
        refine wp_aload_n dX12_tongueRule_33 rfl rfl (wp_iconst (v := nI 0) dX12_tongueRule_34 rfl (p11_76 dX12_tongueRule_35 (xsh X1 sh_187) (wp_iconst (v := nI 0) dX12_tongueRule_38 rfl (wp_istore_n dX12_tongueRule_39 ⟨Nat.le_of_ble_eq_true rfl, Or.inr rfl⟩ rfl ?_))))
        refine mvow_loop h1 (xtz t n (xta t n p)) 0 (xSI S1 187 16 (nI 0)) (by omega) X1 (T1.fr G0 (by omega) (fun k => by omega)) (t1'.fr G0 (fun k _ _ => by omega) rfl) (xI_same _ _ _ _) ?_
        intro S2 z f2 l2 q2
        have f2' := G0.tt f2
        have X2 := f2'.XC X1
        have T2 := T1.fr f2' (by omega) (fun k => by omega)
        obtain ⟨S3, g3, f3, t3⟩ := m_next (d + 2) X2 T2 (f2'.i a4 (by omega)) hab1.2.1
        have X3 := f3.XC X2
        have T3 := T2.fr f3 (by omega) (fun k => by omega)
        have F3 : xFl xFA S S3 := F1.tt ((f2'.tr f3).mono xFV_A)
        have V3 : xTgN S3 (xvow t (xts t n (xta t n p)) (xtz t n (xta t n p)), v.2) := by
          obtain ⟨v1, v2, v3, v4, v5⟩ := V1
          have ff := f2'.tr f3
          exact ⟨⟨f3.i q2 (by omega), xvow_lt _ (fun k hk => hx.2.2.2 _ (by omega) (by unfold xtz at hk; omega))⟩, ⟨ff.i v2.1 (by omega), v2.2.1, fun i hi => ff.i (v2.2.2.1 i hi) (by omega), v2.2.2.2⟩, ⟨ff.i v3.1 (by omega), v3.2.1, fun i hi => ⟨ff.i (v3.2.2.1 i hi).1 (by omega), ff.i (v3.2.2.1 i hi).2 (by omega)⟩, v3.2.2.2⟩, ff.i v4 (by omega), v5⟩
        have o3 : S3.2.1 187 20 = nI (seen ||| 2 ^ 0) := (f2'.tr f3).i o1 (by omega)
        have e3 : S3.2.1 187 9 = S.2.1 187 9 := ((f2'.tr f3).2.2 187 9 (by omega)).trans e9
        by_cases h3 : xtk t n (xta t n (xta t n p)) = 3
        · obtain ⟨S4, g4, f4, t4⟩ := m_semi (d + 1) X3 T3 t3 h3
          have F4 : xFl xFA S S4 := F3.tt (f4.mono xFN_A)
          have e4 : S4.2.1 187 9 = S.2.1 187 9 := (f4.2.2 187 9 (by omega)).trans e3
          have V4 := V3.fr f4 (fun i k h => by omega)
          have M4 : xMO xTgN n t S S4 true (.ok (xta t n (xta t n p), (xvow t (xts t n (xta t n p)) (xtz t n (xta t n p)), v.2))) := by
            refine ⟨fun e he => (by cases he), fun p' v' he => ?_⟩
            cases he
            exact ⟨fun _ => ⟨rfl, e4, t4, V4⟩, fun q => absurd h3 q⟩
          have O4 : S4.2.1 187 20 = nI (seen ||| 2 ^ 0) := f4.i o3 (by omega)
          exact wp_aload_n dX12_tongueRule_79 rfl rfl (wp_iv1 dX12_tongueRule_80 k11_65 q_X12_next (by decide) (xsh X2 sh_187) (by decide) (Nat.le_of_ble_eq_true rfl) g3 (wp_aload_n dX12_tongueRule_83 rfl rfl (wp_iv1 dX12_tongueRule_84 k11_131 q_X12_semi (by decide) (xsh X3 sh_187) (by decide) (Nat.le_of_ble_eq_true rfl) g4 (wb_ret dX12_tongueRule_87 rfl rfl ⟨true, rfl, F4, M4, O4⟩))))
        · have g4 := m_semi_no (d + 1) X3 T3 t3 h3
          have F4 := (F3.SI (a := 187) (k := 9) (v := nI (if xtk t n (xta t n (xta t n p)) = 4 then 1 else 2)) xFA_9).SI (a := 187) (k := 10) (v := nI (xts t n (xta t n (xta t n p)))) xFA_10
          have M4 : xMO xTgN n t S (xSI (xSI S3 187 9 (nI (if xtk t n (xta t n (xta t n p)) = 4 then 1 else 2))) 187 10 (nI (xts t n (xta t n (xta t n p))))) false (.ok (xta t n (xta t n p), (xvow t (xts t n (xta t n p)) (xtz t n (xta t n p)), v.2))) := by
            refine ⟨fun e he => (by cases he), fun p' v' he => ?_⟩
            cases he
            exact ⟨fun q => absurd q h3, fun _ => ⟨rfl, xi (xI_same _ _ _ _) (Or.inr (by decide)), xI_same _ _ _ _⟩⟩
          have O4 : (xSI (xSI S3 187 9 (nI (if xtk t n (xta t n (xta t n p)) = 4 then 1 else 2))) 187 10 (nI (xts t n (xta t n (xta t n p))))).2.1 187 20 = nI (seen ||| 2 ^ 0) := xi (xi o3 (Or.inr (by decide))) (Or.inr (by decide))
          exact wp_aload_n dX12_tongueRule_79 rfl rfl (wp_iv1 dX12_tongueRule_80 k11_65 q_X12_next (by decide) (xsh X2 sh_187) (by decide) (Nat.le_of_ble_eq_true rfl) g3 (wp_aload_n dX12_tongueRule_83 rfl rfl (wp_iv1 dX12_tongueRule_84 k11_131 q_X12_semi (by decide) (xsh X3 sh_187) (by decide) (Nat.le_of_ble_eq_true rfl) g4 (wb_ret dX12_tongueRule_87 rfl rfl ⟨false, rfl, F4, M4, O4⟩)))))
    exact ⟨b, S', k1, k2⟩
  · have ER : xtrule t n 0 (xta t n p) v = .error (xfh t n (xta t n p)) := by
      unfold xtrule
      rw [if_pos rfl, if_neg h1]
    rw [ER]
    refine ⟨false, _, ?_, (F1.SI (a := 187) (k := 9) xFA_9).SI (a := 187) (k := 10) xFA_10, ⟨fun e he => (by cases he; exact ⟨rfl, xi (xI_same _ _ _ _) (Or.inr (by decide)), xI_same _ _ _ _⟩), fun p' v' he => (by cases he)⟩, xi (xi o1 (Or.inr (by decide))) (Or.inr (by decide))⟩
    refine xcall_intro (ls := [.ref 187, .float 0]) q_X12_tongueRule (by decide) rfl (Nat.le_of_ble_eq_true rfl) rfl ?_
    refine wp_aload_n dX12_tongueRule_0 rfl rfl (wp_ldc2 (v := lN 130221116583027) dX12_tongueRule_1 k11_122 rfl (wp_iv2 dX12_tongueRule_4 k11_124 q_X12_isWord (by decide) (xsh hX sh_187) (by decide) (Nat.le_of_ble_eq_true rfl) (m_isWord (d + 3) hX hT hM0 (r := xw_vowels) (W := 130221116583027) ⟨by decide, by decide, by decide, by decide⟩ (by decide)) ?_))
    refine wb_if_eq dX12_tongueRule_7 rfl (fun c7 => absurd c7 (by rw [h0]; decide)) (fun c7 => ?_)
    refine wp_aload_n dX12_tongueRule_10 rfl rfl (wp_iconst (v := nI 0) dX12_tongueRule_11 rfl (wp_iv2 dX12_tongueRule_12 k11_128 q_X12_once (by decide) (xsh hX sh_187) (by decide) (Nat.le_of_ble_eq_true rfl) g1 ?_))
    refine wb_if_ne dX12_tongueRule_15 rfl (fun c15 => ?_) (fun c15 => absurd c15 (by decide))
    refine wp_aload_n dX12_tongueRule_20 rfl rfl (gv11_34 dX12_tongueRule_21 (xsh X1 sh_187) a5 (wp_iconst (v := nI 1) dX12_tongueRule_24 rfl ?_))
    refine wn_icmp_eq dX12_tongueRule_25 rfl (by omega) (by omega) (fun c25 => absurd c25 (by omega)) (fun c25 => ?_)
    exact wp_aload_n dX12_tongueRule_28 rfl rfl (wp_iv1 dX12_tongueRule_29 k11_61 q_X12_cant (by decide) (xsh X1 sh_187) (by decide) (Nat.le_of_ble_eq_true rfl) (m_cant (d + 2) X1 T1 t1') (wb_ret dX12_tongueRule_32 rfl rfl ⟨rfl, rfl⟩))
theorem m_tgRule_two1 {n p seen : Nat} {t : Nat → Nat} {v : xTg} (d : Nat) {S : xS} (hX : XC S) (hT : xTxM S n t) (hM : xTM S n t p) (hs : S.2.1 187 20 = nI seen) (hs2 : seen < 2 ^ 31) (hV : xTgN S v) (h0 : xiw xw_vowels n t p = false) (h1 : xiw xw_joined n t p = true) (hb : seen.testBit 1 = true) : ∃ S', xcall false (d + 4) j_X12_tongueRule [.ref 187] S (some (.int (xB false))) S' ∧ xFl xFA S S' ∧ S'.2.1 187 9 = nI 4 ∧ S'.2.1 187 10 = nI (xts t n p) := by
  have hM0 := hM
  obtain ⟨hp, h6, h4, h5, hr⟩ := hM
  have b4 := xtk_b t n p
  have hab := xta_b t hp
  have hle := hT.2.1
  refine ⟨_, ?_, ((xFl.rf S).SI (a := 187) (k := 9) xFA_9).SI (a := 187) (k := 10) xFA_10, xi (xI_same _ _ _ _) (Or.inr (by decide)), xI_same _ _ _ _⟩
  refine xcall_intro (ls := [.ref 187, .float 0]) q_X12_tongueRule (by decide) rfl (Nat.le_of_ble_eq_true rfl) rfl ?_
  refine wp_aload_n dX12_tongueRule_0 rfl rfl (wp_ldc2 (v := lN 130221116583027) dX12_tongueRule_1 k11_122 rfl (wp_iv2 dX12_tongueRule_4 k11_124 q_X12_isWord (by decide) (xsh hX sh_187) (by decide) (Nat.le_of_ble_eq_true rfl) (m_isWord (d + 3) hX hT hM0 (r := xw_vowels) (W := 130221116583027) ⟨by decide, by decide, by decide, by decide⟩ (by decide)) ?_))
  refine wb_if_eq dX12_tongueRule_7 rfl (fun c7 => ?_) (fun c7 => absurd c7 (by rw [h0]; decide))
  refine wp_aload_n dX12_tongueRule_88 rfl rfl (wp_ldc2 (v := lN 117026742756708) dX12_tongueRule_89 k11_134 rfl (wp_iv2 dX12_tongueRule_92 k11_124 q_X12_isWord (by decide) (xsh hX sh_187) (by decide) (Nat.le_of_ble_eq_true rfl) (m_isWord (d + 3) hX hT hM0 (r := xw_joined) (W := 117026742756708) ⟨by decide, by decide, by decide, by decide⟩ (by decide)) ?_))
  refine wb_if_eq dX12_tongueRule_95 rfl (fun c95 => absurd c95 (by rw [h1]; decide)) (fun c95 => ?_)
  refine wp_aload_n dX12_tongueRule_98 rfl rfl (wp_iconst (v := nI 1) dX12_tongueRule_99 rfl (wp_iv2 dX12_tongueRule_100 k11_128 q_X12_once (by decide) (xsh hX sh_187) (by decide) (Nat.le_of_ble_eq_true rfl) (m_once_two (d + 1) hX hT hM0 hs hs2 (by decide) hb) ?_))
  refine wb_if_eq dX12_tongueRule_103 rfl (fun c103 => ?_) (fun c103 => absurd c103 (by decide))
  exact wp_iconst (v := nI 0) dX12_tongueRule_118 rfl (wb_ret dX12_tongueRule_119 rfl rfl ⟨rfl, rfl⟩)
theorem m_tgRule1 {n p seen : Nat} {t : Nat → Nat} {v : xTg} (d : Nat) {S : xS} (hX : XC S) (hT : xTxM S n t) (hM : xTM S n t p) (hs : S.2.1 187 20 = nI seen) (hs2 : seen < 2 ^ 31) (hV : xTgN S v) (h0 : xiw xw_vowels n t p = false) (h1 : xiw xw_joined n t p = true) (hb : seen.testBit 1 = false) : ∃ b S', xcall false (d + 4) j_X12_tongueRule [.ref 187] S (some (.int (xB b))) S' ∧ xFl xFA S S' ∧ xMO xTgN n t S S' b (xtrule t n 1 (xta t n p) v) ∧ S'.2.1 187 20 = nI (seen ||| 2 ^ 1) := by
  have hM0 := hM
  obtain ⟨hp, h6, h4, h5, hr⟩ := hM
  have b4 := xtk_b t n p
  have hab := xta_b t hp
  have hle := hT.2.1
  obtain ⟨S1, g1, f1, t1, o1⟩ := m_once (d + 1) hX hT hM0 hs hs2 (r := 1) (by decide) hb
  have X1 := f1.XC hX
  have T1 := hT.fr f1 (by omega) (fun k => by omega)
  have F1 : xFl xFA S S1 := f1.mono xFO_A
  have V1 := hV.fr f1 (fun i k h => by omega)
  have t1' := t1
  obtain ⟨p1, a6, a4, a5, ar⟩ := t1
  have hab1 := xta_b t p1
  have b41 := xtk_b t n (xta t n p)
  have e9 : S1.2.1 187 9 = S.2.1 187 9 := f1.2.2 187 9 (by omega)
  obtain ⟨b, S2, g2, f2, m1, m2⟩ := m_words_1 d X1 T1 t1'
  have F2 : xFl xFA S S2 := F1.tt (f2.mono (fun i k h => by unfold xFA; omega))
  refine ⟨b, S2, ?_, F2, ?_, f2.i o1 (by omega)⟩
  · cases b with
    | true =>
      refine xcall_intro (ls := [.ref 187, .float 0]) q_X12_tongueRule (by decide) rfl (Nat.le_of_ble_eq_true rfl) rfl ?_
      refine wp_aload_n dX12_tongueRule_0 rfl rfl (wp_ldc2 (v := lN 130221116583027) dX12_tongueRule_1 k11_122 rfl (wp_iv2 dX12_tongueRule_4 k11_124 q_X12_isWord (by decide) (xsh hX sh_187) (by decide) (Nat.le_of_ble_eq_true rfl) (m_isWord (d + 3) hX hT hM0 (r := xw_vowels) (W := 130221116583027) ⟨by decide, by decide, by decide, by decide⟩ (by decide)) ?_))
      refine wb_if_eq dX12_tongueRule_7 rfl (fun c7 => ?_) (fun c7 => absurd c7 (by rw [h0]; decide))
      refine wp_aload_n dX12_tongueRule_88 rfl rfl (wp_ldc2 (v := lN 117026742756708) dX12_tongueRule_89 k11_134 rfl (wp_iv2 dX12_tongueRule_92 k11_124 q_X12_isWord (by decide) (xsh hX sh_187) (by decide) (Nat.le_of_ble_eq_true rfl) (m_isWord (d + 3) hX hT hM0 (r := xw_joined) (W := 117026742756708) ⟨by decide, by decide, by decide, by decide⟩ (by decide)) ?_))
      refine wb_if_eq dX12_tongueRule_95 rfl (fun c95 => absurd c95 (by rw [h1]; decide)) (fun c95 => ?_)
      refine wp_aload_n dX12_tongueRule_98 rfl rfl (wp_iconst (v := nI 1) dX12_tongueRule_99 rfl (wp_iv2 dX12_tongueRule_100 k11_128 q_X12_once (by decide) (xsh hX sh_187) (by decide) (Nat.le_of_ble_eq_true rfl) g1 ?_))
      refine wb_if_eq dX12_tongueRule_103 rfl (fun c103 => absurd c103 (by decide)) (fun c103 => ?_)
      refine wp_aload_n dX12_tongueRule_106 rfl rfl (wp_iconst (v := nI 1) dX12_tongueRule_107 rfl (wp_iv2 dX12_tongueRule_108 k11_136 q_X12_words (by decide) (xsh X1 sh_187) (by decide) (Nat.le_of_ble_eq_true rfl) g2 ?_))
      refine wb_if_eq dX12_tongueRule_111 rfl (fun c111 => absurd c111 (by decide)) (fun c111 => ?_)
      exact wp_iconst (v := nI 1) dX12_tongueRule_114 rfl (wp_goto dX12_tongueRule_115 rfl (wb_ret dX12_tongueRule_119 rfl rfl ⟨rfl, rfl⟩))
    | false =>
      refine xcall_intro (ls := [.ref 187, .float 0]) q_X12_tongueRule (by decide) rfl (Nat.le_of_ble_eq_true rfl) rfl ?_
      refine wp_aload_n dX12_tongueRule_0 rfl rfl (wp_ldc2 (v := lN 130221116583027) dX12_tongueRule_1 k11_122 rfl (wp_iv2 dX12_tongueRule_4 k11_124 q_X12_isWord (by decide) (xsh hX sh_187) (by decide) (Nat.le_of_ble_eq_true rfl) (m_isWord (d + 3) hX hT hM0 (r := xw_vowels) (W := 130221116583027) ⟨by decide, by decide, by decide, by decide⟩ (by decide)) ?_))
      refine wb_if_eq dX12_tongueRule_7 rfl (fun c7 => ?_) (fun c7 => absurd c7 (by rw [h0]; decide))
      refine wp_aload_n dX12_tongueRule_88 rfl rfl (wp_ldc2 (v := lN 117026742756708) dX12_tongueRule_89 k11_134 rfl (wp_iv2 dX12_tongueRule_92 k11_124 q_X12_isWord (by decide) (xsh hX sh_187) (by decide) (Nat.le_of_ble_eq_true rfl) (m_isWord (d + 3) hX hT hM0 (r := xw_joined) (W := 117026742756708) ⟨by decide, by decide, by decide, by decide⟩ (by decide)) ?_))
      refine wb_if_eq dX12_tongueRule_95 rfl (fun c95 => absurd c95 (by rw [h1]; decide)) (fun c95 => ?_)
      refine wp_aload_n dX12_tongueRule_98 rfl rfl (wp_iconst (v := nI 1) dX12_tongueRule_99 rfl (wp_iv2 dX12_tongueRule_100 k11_128 q_X12_once (by decide) (xsh hX sh_187) (by decide) (Nat.le_of_ble_eq_true rfl) g1 ?_))
      refine wb_if_eq dX12_tongueRule_103 rfl (fun c103 => absurd c103 (by decide)) (fun c103 => ?_)
      refine wp_aload_n dX12_tongueRule_106 rfl rfl (wp_iconst (v := nI 1) dX12_tongueRule_107 rfl (wp_iv2 dX12_tongueRule_108 k11_136 q_X12_words (by decide) (xsh X1 sh_187) (by decide) (Nat.le_of_ble_eq_true rfl) g2 ?_))
      refine wb_if_eq dX12_tongueRule_111 rfl (fun c111 => ?_) (fun c111 => absurd c111 (by decide))
      exact wp_iconst (v := nI 0) dX12_tongueRule_118 rfl (wb_ret dX12_tongueRule_119 rfl rfl ⟨rfl, rfl⟩)
  · have ER : xtrule t n 1 (xta t n p) v = match xparts t n 2 2 12 (12 + 1) (xta t n p) [] with
      | .error e => .error e
      | .ok q => .ok (q.1, (v.1, q.2, v.2.2)) := by
      unfold xtrule
      rw [if_neg (by decide), if_pos rfl]
      all_goals rfl
    rw [ER]
    cases hx : xparts t n 2 2 12 (12 + 1) (xta t n p) [] with
    | error e => exact ⟨fun e' he => (by cases he; exact m1 e hx), fun p' v' he => (by cases he)⟩
    | ok q =>
      obtain ⟨p', l'⟩ := q
      obtain ⟨q1, q2⟩ := m2 p' l' hx
      have hin := xparts_in (by decide) (by decide) _ _ _ p' l' hx (fun x hx => by cases hx)
      refine ⟨fun e he => (by cases he), fun p2 v2 he => ?_⟩
      cases he
      refine ⟨fun h3 => ?_, q2⟩
      obtain ⟨w1, w2, w3, w4, w5, w6, w7⟩ := q1 h3
      obtain ⟨v1, v2, v3, v4, v5⟩ := V1
      exact ⟨w1, w2.trans e9, w3, ⟨f2.i v1.1 (by omega), v1.2⟩, ⟨w4, w6, w7, hin⟩, ⟨f2.i v3.1 (by omega), v3.2.1, fun i hi => ⟨f2.i (v3.2.2.1 i hi).1 (by omega), f2.i (v3.2.2.1 i hi).2 (by omega)⟩, v3.2.2.2⟩, f2.i v4 (by omega), v5⟩
theorem m_tgRule_two2 {n p seen : Nat} {t : Nat → Nat} {v : xTg} (d : Nat) {S : xS} (hX : XC S) (hT : xTxM S n t) (hM : xTM S n t p) (hs : S.2.1 187 20 = nI seen) (hs2 : seen < 2 ^ 31) (hV : xTgN S v) (h0 : xiw xw_vowels n t p = false) (h1 : xiw xw_joined n t p = false) (h2 : xiw xw_mute n t p = true) (hb : seen.testBit 2 = true) : ∃ S', xcall false (d + 4) j_X12_tongueRule [.ref 187] S (some (.int (xB false))) S' ∧ xFl xFA S S' ∧ S'.2.1 187 9 = nI 4 ∧ S'.2.1 187 10 = nI (xts t n p) := by
  have hM0 := hM
  obtain ⟨hp, h6, h4, h5, hr⟩ := hM
  have b4 := xtk_b t n p
  have hab := xta_b t hp
  have hle := hT.2.1
  refine ⟨_, ?_, ((xFl.rf S).SI (a := 187) (k := 9) xFA_9).SI (a := 187) (k := 10) xFA_10, xi (xI_same _ _ _ _) (Or.inr (by decide)), xI_same _ _ _ _⟩
  refine xcall_intro (ls := [.ref 187, .float 0]) q_X12_tongueRule (by decide) rfl (Nat.le_of_ble_eq_true rfl) rfl ?_
  refine wp_aload_n dX12_tongueRule_0 rfl rfl (wp_ldc2 (v := lN 130221116583027) dX12_tongueRule_1 k11_122 rfl (wp_iv2 dX12_tongueRule_4 k11_124 q_X12_isWord (by decide) (xsh hX sh_187) (by decide) (Nat.le_of_ble_eq_true rfl) (m_isWord (d + 3) hX hT hM0 (r := xw_vowels) (W := 130221116583027) ⟨by decide, by decide, by decide, by decide⟩ (by decide)) ?_))
  refine wb_if_eq dX12_tongueRule_7 rfl (fun c7 => ?_) (fun c7 => absurd c7 (by rw [h0]; decide))
  refine wp_aload_n dX12_tongueRule_88 rfl rfl (wp_ldc2 (v := lN 117026742756708) dX12_tongueRule_89 k11_134 rfl (wp_iv2 dX12_tongueRule_92 k11_124 q_X12_isWord (by decide) (xsh hX sh_187) (by decide) (Nat.le_of_ble_eq_true rfl) (m_isWord (d + 3) hX hT hM0 (r := xw_joined) (W := 117026742756708) ⟨by decide, by decide, by decide, by decide⟩ (by decide)) ?_))
  refine wb_if_eq dX12_tongueRule_95 rfl (fun c95 => ?_) (fun c95 => absurd c95 (by rw [h1]; decide))
  refine wp_aload_n dX12_tongueRule_120 rfl rfl (wp_ldc2 (v := lN 1836414053) dX12_tongueRule_121 k11_140 rfl (wp_iv2 dX12_tongueRule_124 k11_124 q_X12_isWord (by decide) (xsh hX sh_187) (by decide) (Nat.le_of_ble_eq_true rfl) (m_isWord (d + 3) hX hT hM0 (r := xw_mute) (W := 1836414053) ⟨by decide, by decide, by decide, by decide⟩ (by decide)) ?_))
  refine wb_if_eq dX12_tongueRule_127 rfl (fun c127 => absurd c127 (by rw [h2]; decide)) (fun c127 => ?_)
  refine wp_aload_n dX12_tongueRule_130 rfl rfl (wp_iconst (v := nI 2) dX12_tongueRule_131 rfl (wp_iv2 dX12_tongueRule_132 k11_128 q_X12_once (by decide) (xsh hX sh_187) (by decide) (Nat.le_of_ble_eq_true rfl) (m_once_two (d + 1) hX hT hM0 hs hs2 (by decide) hb) ?_))
  refine wb_if_eq dX12_tongueRule_135 rfl (fun c135 => ?_) (fun c135 => absurd c135 (by decide))
  exact wp_iconst (v := nI 0) dX12_tongueRule_150 rfl (wb_ret dX12_tongueRule_151 rfl rfl ⟨rfl, rfl⟩)
theorem m_tgRule2 {n p seen : Nat} {t : Nat → Nat} {v : xTg} (d : Nat) {S : xS} (hX : XC S) (hT : xTxM S n t) (hM : xTM S n t p) (hs : S.2.1 187 20 = nI seen) (hs2 : seen < 2 ^ 31) (hV : xTgN S v) (h0 : xiw xw_vowels n t p = false) (h1 : xiw xw_joined n t p = false) (h2 : xiw xw_mute n t p = true) (hb : seen.testBit 2 = false) : ∃ b S', xcall false (d + 4) j_X12_tongueRule [.ref 187] S (some (.int (xB b))) S' ∧ xFl xFA S S' ∧ xMO xTgN n t S S' b (xtrule t n 2 (xta t n p) v) ∧ S'.2.1 187 20 = nI (seen ||| 2 ^ 2) := by
  have hM0 := hM
  obtain ⟨hp, h6, h4, h5, hr⟩ := hM
  have b4 := xtk_b t n p
  have hab := xta_b t hp
  have hle := hT.2.1
  obtain ⟨S1, g1, f1, t1, o1⟩ := m_once (d + 1) hX hT hM0 hs hs2 (r := 2) (by decide) hb
  have X1 := f1.XC hX
  have T1 := hT.fr f1 (by omega) (fun k => by omega)
  have F1 : xFl xFA S S1 := f1.mono xFO_A
  have V1 := hV.fr f1 (fun i k h => by omega)
  have t1' := t1
  obtain ⟨p1, a6, a4, a5, ar⟩ := t1
  have hab1 := xta_b t p1
  have b41 := xtk_b t n (xta t n p)
  have e9 : S1.2.1 187 9 = S.2.1 187 9 := f1.2.2 187 9 (by omega)
  obtain ⟨b, S2, g2, f2, m1, m2⟩ := m_words_0 d X1 T1 t1'
  have F2 : xFl xFA S S2 := F1.tt (f2.mono (fun i k h => by unfold xFA; omega))
  refine ⟨b, S2, ?_, F2, ?_, f2.i o1 (by omega)⟩
  · cases b with
    | true =>
      refine xcall_intro (ls := [.ref 187, .float 0]) q_X12_tongueRule (by decide) rfl (Nat.le_of_ble_eq_true rfl) rfl ?_
      refine wp_aload_n dX12_tongueRule_0 rfl rfl (wp_ldc2 (v := lN 130221116583027) dX12_tongueRule_1 k11_122 rfl (wp_iv2 dX12_tongueRule_4 k11_124 q_X12_isWord (by decide) (xsh hX sh_187) (by decide) (Nat.le_of_ble_eq_true rfl) (m_isWord (d + 3) hX hT hM0 (r := xw_vowels) (W := 130221116583027) ⟨by decide, by decide, by decide, by decide⟩ (by decide)) ?_))
      refine wb_if_eq dX12_tongueRule_7 rfl (fun c7 => ?_) (fun c7 => absurd c7 (by rw [h0]; decide))
      refine wp_aload_n dX12_tongueRule_88 rfl rfl (wp_ldc2 (v := lN 117026742756708) dX12_tongueRule_89 k11_134 rfl (wp_iv2 dX12_tongueRule_92 k11_124 q_X12_isWord (by decide) (xsh hX sh_187) (by decide) (Nat.le_of_ble_eq_true rfl) (m_isWord (d + 3) hX hT hM0 (r := xw_joined) (W := 117026742756708) ⟨by decide, by decide, by decide, by decide⟩ (by decide)) ?_))
      refine wb_if_eq dX12_tongueRule_95 rfl (fun c95 => ?_) (fun c95 => absurd c95 (by rw [h1]; decide))
      refine wp_aload_n dX12_tongueRule_120 rfl rfl (wp_ldc2 (v := lN 1836414053) dX12_tongueRule_121 k11_140 rfl (wp_iv2 dX12_tongueRule_124 k11_124 q_X12_isWord (by decide) (xsh hX sh_187) (by decide) (Nat.le_of_ble_eq_true rfl) (m_isWord (d + 3) hX hT hM0 (r := xw_mute) (W := 1836414053) ⟨by decide, by decide, by decide, by decide⟩ (by decide)) ?_))
      refine wb_if_eq dX12_tongueRule_127 rfl (fun c127 => absurd c127 (by rw [h2]; decide)) (fun c127 => ?_)
      refine wp_aload_n dX12_tongueRule_130 rfl rfl (wp_iconst (v := nI 2) dX12_tongueRule_131 rfl (wp_iv2 dX12_tongueRule_132 k11_128 q_X12_once (by decide) (xsh hX sh_187) (by decide) (Nat.le_of_ble_eq_true rfl) g1 ?_))
      refine wb_if_eq dX12_tongueRule_135 rfl (fun c135 => absurd c135 (by decide)) (fun c135 => ?_)
      refine wp_aload_n dX12_tongueRule_138 rfl rfl (wp_iconst (v := nI 0) dX12_tongueRule_139 rfl (wp_iv2 dX12_tongueRule_140 k11_136 q_X12_words (by decide) (xsh X1 sh_187) (by decide) (Nat.le_of_ble_eq_true rfl) g2 ?_))
      refine wb_if_eq dX12_tongueRule_143 rfl (fun c143 => absurd c143 (by decide)) (fun c143 => ?_)
      exact wp_iconst (v := nI 1) dX12_tongueRule_146 rfl (wp_goto dX12_tongueRule_147 rfl (wb_ret dX12_tongueRule_151 rfl rfl ⟨rfl, rfl⟩))
    | false =>
      refine xcall_intro (ls := [.ref 187, .float 0]) q_X12_tongueRule (by decide) rfl (Nat.le_of_ble_eq_true rfl) rfl ?_
      refine wp_aload_n dX12_tongueRule_0 rfl rfl (wp_ldc2 (v := lN 130221116583027) dX12_tongueRule_1 k11_122 rfl (wp_iv2 dX12_tongueRule_4 k11_124 q_X12_isWord (by decide) (xsh hX sh_187) (by decide) (Nat.le_of_ble_eq_true rfl) (m_isWord (d + 3) hX hT hM0 (r := xw_vowels) (W := 130221116583027) ⟨by decide, by decide, by decide, by decide⟩ (by decide)) ?_))
      refine wb_if_eq dX12_tongueRule_7 rfl (fun c7 => ?_) (fun c7 => absurd c7 (by rw [h0]; decide))
      refine wp_aload_n dX12_tongueRule_88 rfl rfl (wp_ldc2 (v := lN 117026742756708) dX12_tongueRule_89 k11_134 rfl (wp_iv2 dX12_tongueRule_92 k11_124 q_X12_isWord (by decide) (xsh hX sh_187) (by decide) (Nat.le_of_ble_eq_true rfl) (m_isWord (d + 3) hX hT hM0 (r := xw_joined) (W := 117026742756708) ⟨by decide, by decide, by decide, by decide⟩ (by decide)) ?_))
      refine wb_if_eq dX12_tongueRule_95 rfl (fun c95 => ?_) (fun c95 => absurd c95 (by rw [h1]; decide))
      refine wp_aload_n dX12_tongueRule_120 rfl rfl (wp_ldc2 (v := lN 1836414053) dX12_tongueRule_121 k11_140 rfl (wp_iv2 dX12_tongueRule_124 k11_124 q_X12_isWord (by decide) (xsh hX sh_187) (by decide) (Nat.le_of_ble_eq_true rfl) (m_isWord (d + 3) hX hT hM0 (r := xw_mute) (W := 1836414053) ⟨by decide, by decide, by decide, by decide⟩ (by decide)) ?_))
      refine wb_if_eq dX12_tongueRule_127 rfl (fun c127 => absurd c127 (by rw [h2]; decide)) (fun c127 => ?_)
      refine wp_aload_n dX12_tongueRule_130 rfl rfl (wp_iconst (v := nI 2) dX12_tongueRule_131 rfl (wp_iv2 dX12_tongueRule_132 k11_128 q_X12_once (by decide) (xsh hX sh_187) (by decide) (Nat.le_of_ble_eq_true rfl) g1 ?_))
      refine wb_if_eq dX12_tongueRule_135 rfl (fun c135 => absurd c135 (by decide)) (fun c135 => ?_)
      refine wp_aload_n dX12_tongueRule_138 rfl rfl (wp_iconst (v := nI 0) dX12_tongueRule_139 rfl (wp_iv2 dX12_tongueRule_140 k11_136 q_X12_words (by decide) (xsh X1 sh_187) (by decide) (Nat.le_of_ble_eq_true rfl) g2 ?_))
      refine wb_if_eq dX12_tongueRule_143 rfl (fun c143 => ?_) (fun c143 => absurd c143 (by decide))
      exact wp_iconst (v := nI 0) dX12_tongueRule_150 rfl (wb_ret dX12_tongueRule_151 rfl rfl ⟨rfl, rfl⟩)
  · have ER : xtrule t n 2 (xta t n p) v = match xparts t n 1 3 6 (6 + 1) (xta t n p) [] with
      | .error e => .error e
      | .ok q => .ok (q.1, (v.1, v.2.1, q.2, v.2.2.2)) := by
      unfold xtrule
      rw [if_neg (by decide), if_neg (by decide), if_pos rfl]
      all_goals rfl
    rw [ER]
    cases hx : xparts t n 1 3 6 (6 + 1) (xta t n p) [] with
    | error e => exact ⟨fun e' he => (by cases he; exact m1 e hx), fun p' v' he => (by cases he)⟩
    | ok q =>
      obtain ⟨p', l'⟩ := q
      obtain ⟨q1, q2⟩ := m2 p' l' hx
      have hin := xparts_in (by decide) (by decide) _ _ _ p' l' hx (fun x hx => by cases hx)
      refine ⟨fun e he => (by cases he), fun p2 v2 he => ?_⟩
      cases he
      refine ⟨fun h3 => ?_, q2⟩
      obtain ⟨w1, w2, w3, w4, w5, w6, w7⟩ := q1 h3
      obtain ⟨v1, v2, v3, v4, v5⟩ := V1
      exact ⟨w1, w2.trans e9, w3, ⟨f2.i v1.1 (by omega), v1.2⟩, ⟨f2.i v2.1 (by omega), v2.2.1, fun i hi => f2.i (v2.2.2.1 i hi) (by omega), v2.2.2.2⟩, ⟨w4, w6, w7, hin⟩, f2.i v4 (by omega), v5⟩
theorem m_tgRule_two3 {n p seen : Nat} {t : Nat → Nat} {v : xTg} (d : Nat) {S : xS} (hX : XC S) (hT : xTxM S n t) (hM : xTM S n t p) (hs : S.2.1 187 20 = nI seen) (hs2 : seen < 2 ^ 31) (hV : xTgN S v) (h0 : xiw xw_vowels n t p = false) (h1 : xiw xw_joined n t p = false) (h2 : xiw xw_mute n t p = false) (h3 : xiw xw_strong n t p = true) (hb : seen.testBit 3 = true) : ∃ S', xcall false (d + 4) j_X12_tongueRule [.ref 187] S (some (.int (xB false))) S' ∧ xFl xFA S S' ∧ S'.2.1 187 9 = nI 4 ∧ S'.2.1 187 10 = nI (xts t n p) := by
  have hM0 := hM
  obtain ⟨hp, h6, h4, h5, hr⟩ := hM
  have b4 := xtk_b t n p
  have hab := xta_b t hp
  have hle := hT.2.1
  refine ⟨_, ?_, ((xFl.rf S).SI (a := 187) (k := 9) xFA_9).SI (a := 187) (k := 10) xFA_10, xi (xI_same _ _ _ _) (Or.inr (by decide)), xI_same _ _ _ _⟩
  refine xcall_intro (ls := [.ref 187, .float 0]) q_X12_tongueRule (by decide) rfl (Nat.le_of_ble_eq_true rfl) rfl ?_
  refine wp_aload_n dX12_tongueRule_0 rfl rfl (wp_ldc2 (v := lN 130221116583027) dX12_tongueRule_1 k11_122 rfl (wp_iv2 dX12_tongueRule_4 k11_124 q_X12_isWord (by decide) (xsh hX sh_187) (by decide) (Nat.le_of_ble_eq_true rfl) (m_isWord (d + 3) hX hT hM0 (r := xw_vowels) (W := 130221116583027) ⟨by decide, by decide, by decide, by decide⟩ (by decide)) ?_))
  refine wb_if_eq dX12_tongueRule_7 rfl (fun c7 => ?_) (fun c7 => absurd c7 (by rw [h0]; decide))
  refine wp_aload_n dX12_tongueRule_88 rfl rfl (wp_ldc2 (v := lN 117026742756708) dX12_tongueRule_89 k11_134 rfl (wp_iv2 dX12_tongueRule_92 k11_124 q_X12_isWord (by decide) (xsh hX sh_187) (by decide) (Nat.le_of_ble_eq_true rfl) (m_isWord (d + 3) hX hT hM0 (r := xw_joined) (W := 117026742756708) ⟨by decide, by decide, by decide, by decide⟩ (by decide)) ?_))
  refine wb_if_eq dX12_tongueRule_95 rfl (fun c95 => ?_) (fun c95 => absurd c95 (by rw [h1]; decide))
  refine wp_aload_n dX12_tongueRule_120 rfl rfl (wp_ldc2 (v := lN 1836414053) dX12_tongueRule_121 k11_140 rfl (wp_iv2 dX12_tongueRule_124 k11_124 q_X12_isWord (by decide) (xsh hX sh_187) (by decide) (Nat.le_of_ble_eq_true rfl) (m_isWord (d + 3) hX hT hM0 (r := xw_mute) (W := 1836414053) ⟨by decide, by decide, by decide, by decide⟩ (by decide)) ?_))
  refine wb_if_eq dX12_tongueRule_127 rfl (fun c127 => ?_) (fun c127 => absurd c127 (by rw [h2]; decide))
  refine wp_aload_n dX12_tongueRule_152 rfl rfl (wp_ldc2 (v := lN 126943973305959) dX12_tongueRule_153 k11_142 rfl (wp_iv2 dX12_tongueRule_156 k11_124 q_X12_isWord (by decide) (xsh hX sh_187) (by decide) (Nat.le_of_ble_eq_true rfl) (m_isWord (d + 3) hX hT hM0 (r := xw_strong) (W := 126943973305959) ⟨by decide, by decide, by decide, by decide⟩ (by decide)) ?_))
  refine wb_if_ne dX12_tongueRule_159 rfl (fun c159 => ?_) (fun c159 => absurd c159 (by rw [h3]; decide))
  refine wp_aload_n dX12_tongueRule_167 rfl rfl (wp_iconst (v := nI 3) dX12_tongueRule_168 rfl (wp_iv2 dX12_tongueRule_169 k11_128 q_X12_once (by decide) (xsh hX sh_187) (by decide) (Nat.le_of_ble_eq_true rfl) (m_once_two (d + 1) hX hT hM0 hs hs2 (by decide) hb) ?_))
  refine wb_if_ne dX12_tongueRule_172 rfl (fun c172 => absurd c172 (by decide)) (fun c172 => ?_)
  exact wp_iconst (v := nI 0) dX12_tongueRule_175 rfl (wb_ret dX12_tongueRule_176 rfl rfl ⟨rfl, rfl⟩)
set_option maxHeartbeats 16000000 in
theorem m_tgRule3 {n p seen : Nat} {t : Nat → Nat} {v : xTg} (d : Nat) {S : xS} (hX : XC S) (hT : xTxM S n t) (hM : xTM S n t p) (hs : S.2.1 187 20 = nI seen) (hs2 : seen < 2 ^ 31) (hV : xTgN S v) (h0 : xiw xw_vowels n t p = false) (h1 : xiw xw_joined n t p = false) (h2 : xiw xw_mute n t p = false) (h3 : xiw xw_strong n t p = true) (hb : seen.testBit 3 = false) : ∃ b S', xcall false (d + 4) j_X12_tongueRule [.ref 187] S (some (.int (xB b))) S' ∧ xFl xFA S S' ∧ xMO xTgN n t S S' b (xtrule t n 3 (xta t n p) v) ∧ S'.2.1 187 20 = nI (seen ||| 2 ^ 3) := by
  have hM0 := hM
  obtain ⟨hp, h6, h4, h5, hr⟩ := hM
  have b4 := xtk_b t n p
  have hab := xta_b t hp
  have hle := hT.2.1
  obtain ⟨S1, g1, f1, t1, o1⟩ := m_once (d + 1) hX hT hM0 hs hs2 (r := 3) (by decide) hb
  have X1 := f1.XC hX
  have T1 := hT.fr f1 (by omega) (fun k => by omega)
  have F1 : xFl xFA S S1 := f1.mono xFO_A
  have V1 := hV.fr f1 (fun i k h => by omega)
  have t1' := t1
  obtain ⟨p1, a6, a4, a5, ar⟩ := t1
  have hab1 := xta_b t p1
  have b41 := xtk_b t n (xta t n p)
  have e9 : S1.2.1 187 9 = S.2.1 187 9 := f1.2.2 187 9 (by omega)
  cases k0 : xiw xw_first n t (xta t n p) with
  | true =>
    have G0 : xFl (fun i k => i = 187 ∧ k = 19) S1 (xSI S1 187 19 (nI 0)) := (xFl.rf S1).SI ⟨rfl, rfl⟩
    obtain ⟨S3, g3, f3, t3⟩ := m_next (d + 2) (S := xSI S1 187 19 (nI 0)) X1 (T1.fr G0 (by omega) (fun k => by omega)) (xi a4 (Or.inr (by decide))) hab1.2.1
    have ff := G0.tr f3
    have X3 := ff.XC X1
    have T3 := T1.fr ff (by omega) (fun k => by omega)
    have F3 : xFl xFA S S3 := F1.tt (ff.mono xFW_A)
    have V3 : xTgN S3 (v.1, v.2.1, v.2.2.1, 0) := by
      obtain ⟨v1, v2, v3, v4, v5⟩ := V1
      exact ⟨⟨ff.i v1.1 (by omega), v1.2⟩, ⟨ff.i v2.1 (by omega), v2.2.1, fun i hi => ff.i (v2.2.2.1 i hi) (by omega), v2.2.2.2⟩, ⟨ff.i v3.1 (by omega), v3.2.1, fun i hi => ⟨ff.i (v3.2.2.1 i hi).1 (by omega), ff.i (v3.2.2.1 i hi).2 (by omega)⟩, v3.2.2.2⟩, f3.i (xI_same _ _ _ _) (by omega), by show 0 < 3; decide⟩
    have o3 : S3.2.1 187 20 = nI (seen ||| 2 ^ 3) := ff.i o1 (by omega)
    have e3 : S3.2.1 187 9 = S.2.1 187 9 := (ff.2.2 187 9 (by omega)).trans e9
    rw [show xtrule t n 3 (xta t n p) v = .ok (xta t n (xta t n p), (v.1, v.2.1, v.2.2.1, 0)) by unfold xtrule; rw [if_neg (by decide), if_neg (by decide), if_neg (by decide)]; simp only [xwh, k0, if_true, Bool.false_eq_true, if_false]]
    by_cases hz3 : xtk t n (xta t n (xta t n p)) = 3
    · obtain ⟨S4, g4, f4, t4⟩ := m_semi (d + 1) X3 T3 t3 hz3
      refine ⟨true, S4, ?_, F3.tt (f4.mono xFN_A), ⟨fun e he => (by cases he), fun p' v' he => (by cases he; exact ⟨fun _ => ⟨rfl, (f4.2.2 187 9 (by omega)).trans e3, t4, V3.fr f4 (fun i k h => by omega)⟩, fun q => absurd hz3 q⟩)⟩, f4.i o3 (by omega)⟩
      refine xcall_intro (ls := [.ref 187, .float 0]) q_X12_tongueRule (by decide) rfl (Nat.le_of_ble_eq_true rfl) rfl ?_
      refine wp_aload_n dX12_tongueRule_0 rfl rfl (wp_ldc2 (v := lN 130221116583027) dX12_tongueRule_1 k11_122 rfl (wp_iv2 dX12_tongueRule_4 k11_124 q_X12_isWord (by decide) (xsh hX sh_187) (by decide) (Nat.le_of_ble_eq_true rfl) (m_isWord (d + 3) hX hT hM0 (r := xw_vowels) (W := 130221116583027) ⟨by decide, by decide, by decide, by decide⟩ (by decide)) ?_))
      refine wb_if_eq dX12_tongueRule_7 rfl (fun c7 => ?_) (fun c7 => absurd c7 (by rw [h0]; decide))
      refine wp_aload_n dX12_tongueRule_88 rfl rfl (wp_ldc2 (v := lN 117026742756708) dX12_tongueRule_89 k11_134 rfl (wp_iv2 dX12_tongueRule_92 k11_124 q_X12_isWord (by decide) (xsh hX sh_187) (by decide) (Nat.le_of_ble_eq_true rfl) (m_isWord (d + 3) hX hT hM0 (r := xw_joined) (W := 117026742756708) ⟨by decide, by decide, by decide, by decide⟩ (by decide)) ?_))
      refine wb_if_eq dX12_tongueRule_95 rfl (fun c95 => ?_) (fun c95 => absurd c95 (by rw [h1]; decide))
      refine wp_aload_n dX12_tongueRule_120 rfl rfl (wp_ldc2 (v := lN 1836414053) dX12_tongueRule_121 k11_140 rfl (wp_iv2 dX12_tongueRule_124 k11_124 q_X12_isWord (by decide) (xsh hX sh_187) (by decide) (Nat.le_of_ble_eq_true rfl) (m_isWord (d + 3) hX hT hM0 (r := xw_mute) (W := 1836414053) ⟨by decide, by decide, by decide, by decide⟩ (by decide)) ?_))
      refine wb_if_eq dX12_tongueRule_127 rfl (fun c127 => ?_) (fun c127 => absurd c127 (by rw [h2]; decide))
      refine wp_aload_n dX12_tongueRule_152 rfl rfl (wp_ldc2 (v := lN 126943973305959) dX12_tongueRule_153 k11_142 rfl (wp_iv2 dX12_tongueRule_156 k11_124 q_X12_isWord (by decide) (xsh hX sh_187) (by decide) (Nat.le_of_ble_eq_true rfl) (m_isWord (d + 3) hX hT hM0 (r := xw_strong) (W := 126943973305959) ⟨by decide, by decide, by decide, by decide⟩ (by decide)) ?_))
      refine wb_if_ne dX12_tongueRule_159 rfl (fun c159 => ?_) (fun c159 => absurd c159 (by rw [h3]; decide))
      refine wp_aload_n dX12_tongueRule_167 rfl rfl (wp_iconst (v := nI 3) dX12_tongueRule_168 rfl (wp_iv2 dX12_tongueRule_169 k11_128 q_X12_once (by decide) (xsh hX sh_187) (by decide) (Nat.le_of_ble_eq_true rfl) g1 ?_))
      refine wb_if_ne dX12_tongueRule_172 rfl (fun c172 => ?_) (fun c172 => absurd c172 (by decide))
      refine wp_aload_n dX12_tongueRule_177 rfl rfl (wp_aload_n dX12_tongueRule_178 rfl rfl (wp_ldc2 (v := lN 439855772532) dX12_tongueRule_179 k11_144 rfl (wp_iv2 dX12_tongueRule_182 k11_124 q_X12_isWord (by decide) (xsh X1 sh_187) (by decide) (Nat.le_of_ble_eq_true rfl) (m_isWord (d + 3) X1 T1 t1' (r := xw_first) (W := 439855772532) ⟨by decide, by decide, by decide, by decide⟩ (by decide)) ?_)))
      refine wb_if_eq dX12_tongueRule_185 rfl (fun c185 => absurd c185 (by rw [k0]; decide)) (fun c185 => ?_)
      refine wp_iconst (v := nI 0) dX12_tongueRule_188 rfl (wp_goto dX12_tongueRule_189 rfl (p11_85 dX12_tongueRule_221 (xsh X1 sh_187) (wp_aload_n dX12_tongueRule_224 rfl rfl (gv11_85 dX12_tongueRule_225 (xsh X1 sh_187) (xI_same _ _ _ _) ?_))))
      refine wn_if_ge dX12_tongueRule_228 rfl (by omega) ?_
      exact wp_aload_n dX12_tongueRule_236 rfl rfl (wp_iv1 dX12_tongueRule_237 k11_65 q_X12_next (by decide) (xsh X1 sh_187) (by decide) (Nat.le_of_ble_eq_true rfl) g3 (wp_aload_n dX12_tongueRule_240 rfl rfl (wp_iv1 dX12_tongueRule_241 k11_131 q_X12_semi (by decide) (xsh X3 sh_187) (by decide) (Nat.le_of_ble_eq_true rfl) g4 (wb_ret dX12_tongueRule_244 rfl rfl ⟨rfl, rfl⟩))))
    · have g4 := m_semi_no (d + 1) X3 T3 t3 hz3
      refine ⟨false, _, ?_, (F3.SI (a := 187) (k := 9) xFA_9).SI (a := 187) (k := 10) xFA_10, ⟨fun e he => (by cases he), fun p' v' he => (by cases he; exact ⟨fun q => absurd q hz3, fun _ => ⟨rfl, xi (xI_same _ _ _ _) (Or.inr (by decide)), xI_same _ _ _ _⟩⟩)⟩, xi (xi o3 (Or.inr (by decide))) (Or.inr (by decide))⟩
      refine xcall_intro (ls := [.ref 187, .float 0]) q_X12_tongueRule (by decide) rfl (Nat.le_of_ble_eq_true rfl) rfl ?_
      refine wp_aload_n dX12_tongueRule_0 rfl rfl (wp_ldc2 (v := lN 130221116583027) dX12_tongueRule_1 k11_122 rfl (wp_iv2 dX12_tongueRule_4 k11_124 q_X12_isWord (by decide) (xsh hX sh_187) (by decide) (Nat.le_of_ble_eq_true rfl) (m_isWord (d + 3) hX hT hM0 (r := xw_vowels) (W := 130221116583027) ⟨by decide, by decide, by decide, by decide⟩ (by decide)) ?_))
      refine wb_if_eq dX12_tongueRule_7 rfl (fun c7 => ?_) (fun c7 => absurd c7 (by rw [h0]; decide))
      refine wp_aload_n dX12_tongueRule_88 rfl rfl (wp_ldc2 (v := lN 117026742756708) dX12_tongueRule_89 k11_134 rfl (wp_iv2 dX12_tongueRule_92 k11_124 q_X12_isWord (by decide) (xsh hX sh_187) (by decide) (Nat.le_of_ble_eq_true rfl) (m_isWord (d + 3) hX hT hM0 (r := xw_joined) (W := 117026742756708) ⟨by decide, by decide, by decide, by decide⟩ (by decide)) ?_))
      refine wb_if_eq dX12_tongueRule_95 rfl (fun c95 => ?_) (fun c95 => absurd c95 (by rw [h1]; decide))
      refine wp_aload_n dX12_tongueRule_120 rfl rfl (wp_ldc2 (v := lN 1836414053) dX12_tongueRule_121 k11_140 rfl (wp_iv2 dX12_tongueRule_124 k11_124 q_X12_isWord (by decide) (xsh hX sh_187) (by decide) (Nat.le_of_ble_eq_true rfl) (m_isWord (d + 3) hX hT hM0 (r := xw_mute) (W := 1836414053) ⟨by decide, by decide, by decide, by decide⟩ (by decide)) ?_))
      refine wb_if_eq dX12_tongueRule_127 rfl (fun c127 => ?_) (fun c127 => absurd c127 (by rw [h2]; decide))
      refine wp_aload_n dX12_tongueRule_152 rfl rfl (wp_ldc2 (v := lN 126943973305959) dX12_tongueRule_153 k11_142 rfl (wp_iv2 dX12_tongueRule_156 k11_124 q_X12_isWord (by decide) (xsh hX sh_187) (by decide) (Nat.le_of_ble_eq_true rfl) (m_isWord (d + 3) hX hT hM0 (r := xw_strong) (W := 126943973305959) ⟨by decide, by decide, by decide, by decide⟩ (by decide)) ?_))
      refine wb_if_ne dX12_tongueRule_159 rfl (fun c159 => ?_) (fun c159 => absurd c159 (by rw [h3]; decide))
      refine wp_aload_n dX12_tongueRule_167 rfl rfl (wp_iconst (v := nI 3) dX12_tongueRule_168 rfl (wp_iv2 dX12_tongueRule_169 k11_128 q_X12_once (by decide) (xsh hX sh_187) (by decide) (Nat.le_of_ble_eq_true rfl) g1 ?_))
      refine wb_if_ne dX12_tongueRule_172 rfl (fun c172 => ?_) (fun c172 => absurd c172 (by decide))
      refine wp_aload_n dX12_tongueRule_177 rfl rfl (wp_aload_n dX12_tongueRule_178 rfl rfl (wp_ldc2 (v := lN 439855772532) dX12_tongueRule_179 k11_144 rfl (wp_iv2 dX12_tongueRule_182 k11_124 q_X12_isWord (by decide) (xsh X1 sh_187) (by decide) (Nat.le_of_ble_eq_true rfl) (m_isWord (d + 3) X1 T1 t1' (r := xw_first) (W := 439855772532) ⟨by decide, by decide, by decide, by decide⟩ (by decide)) ?_)))
      refine wb_if_eq dX12_tongueRule_185 rfl (fun c185 => absurd c185 (by rw [k0]; decide)) (fun c185 => ?_)
      refine wp_iconst (v := nI 0) dX12_tongueRule_188 rfl (wp_goto dX12_tongueRule_189 rfl (p11_85 dX12_tongueRule_221 (xsh X1 sh_187) (wp_aload_n dX12_tongueRule_224 rfl rfl (gv11_85 dX12_tongueRule_225 (xsh X1 sh_187) (xI_same _ _ _ _) ?_))))
      refine wn_if_ge dX12_tongueRule_228 rfl (by omega) ?_
      exact wp_aload_n dX12_tongueRule_236 rfl rfl (wp_iv1 dX12_tongueRule_237 k11_65 q_X12_next (by decide) (xsh X1 sh_187) (by decide) (Nat.le_of_ble_eq_true rfl) g3 (wp_aload_n dX12_tongueRule_240 rfl rfl (wp_iv1 dX12_tongueRule_241 k11_131 q_X12_semi (by decide) (xsh X3 sh_187) (by decide) (Nat.le_of_ble_eq_true rfl) g4 (wb_ret dX12_tongueRule_244 rfl rfl ⟨rfl, rfl⟩))))
  | false =>
    cases k1 : xiw xw_second n t (xta t n p) with
    | true =>
      have G0 : xFl (fun i k => i = 187 ∧ k = 19) S1 (xSI S1 187 19 (nI 1)) := (xFl.rf S1).SI ⟨rfl, rfl⟩
      obtain ⟨S3, g3, f3, t3⟩ := m_next (d + 2) (S := xSI S1 187 19 (nI 1)) X1 (T1.fr G0 (by omega) (fun k => by omega)) (xi a4 (Or.inr (by decide))) hab1.2.1
      have ff := G0.tr f3
      have X3 := ff.XC X1
      have T3 := T1.fr ff (by omega) (fun k => by omega)
      have F3 : xFl xFA S S3 := F1.tt (ff.mono xFW_A)
      have V3 : xTgN S3 (v.1, v.2.1, v.2.2.1, 1) := by
        obtain ⟨v1, v2, v3, v4, v5⟩ := V1
        exact ⟨⟨ff.i v1.1 (by omega), v1.2⟩, ⟨ff.i v2.1 (by omega), v2.2.1, fun i hi => ff.i (v2.2.2.1 i hi) (by omega), v2.2.2.2⟩, ⟨ff.i v3.1 (by omega), v3.2.1, fun i hi => ⟨ff.i (v3.2.2.1 i hi).1 (by omega), ff.i (v3.2.2.1 i hi).2 (by omega)⟩, v3.2.2.2⟩, f3.i (xI_same _ _ _ _) (by omega), by show 1 < 3; decide⟩
      have o3 : S3.2.1 187 20 = nI (seen ||| 2 ^ 3) := ff.i o1 (by omega)
      have e3 : S3.2.1 187 9 = S.2.1 187 9 := (ff.2.2 187 9 (by omega)).trans e9
      rw [show xtrule t n 3 (xta t n p) v = .ok (xta t n (xta t n p), (v.1, v.2.1, v.2.2.1, 1)) by unfold xtrule; rw [if_neg (by decide), if_neg (by decide), if_neg (by decide)]; simp only [xwh, k0, k1, if_true, Bool.false_eq_true, if_false]]
      by_cases hz3 : xtk t n (xta t n (xta t n p)) = 3
      · obtain ⟨S4, g4, f4, t4⟩ := m_semi (d + 1) X3 T3 t3 hz3
        refine ⟨true, S4, ?_, F3.tt (f4.mono xFN_A), ⟨fun e he => (by cases he), fun p' v' he => (by cases he; exact ⟨fun _ => ⟨rfl, (f4.2.2 187 9 (by omega)).trans e3, t4, V3.fr f4 (fun i k h => by omega)⟩, fun q => absurd hz3 q⟩)⟩, f4.i o3 (by omega)⟩
        refine xcall_intro (ls := [.ref 187, .float 0]) q_X12_tongueRule (by decide) rfl (Nat.le_of_ble_eq_true rfl) rfl ?_
        refine wp_aload_n dX12_tongueRule_0 rfl rfl (wp_ldc2 (v := lN 130221116583027) dX12_tongueRule_1 k11_122 rfl (wp_iv2 dX12_tongueRule_4 k11_124 q_X12_isWord (by decide) (xsh hX sh_187) (by decide) (Nat.le_of_ble_eq_true rfl) (m_isWord (d + 3) hX hT hM0 (r := xw_vowels) (W := 130221116583027) ⟨by decide, by decide, by decide, by decide⟩ (by decide)) ?_))
        refine wb_if_eq dX12_tongueRule_7 rfl (fun c7 => ?_) (fun c7 => absurd c7 (by rw [h0]; decide))
        refine wp_aload_n dX12_tongueRule_88 rfl rfl (wp_ldc2 (v := lN 117026742756708) dX12_tongueRule_89 k11_134 rfl (wp_iv2 dX12_tongueRule_92 k11_124 q_X12_isWord (by decide) (xsh hX sh_187) (by decide) (Nat.le_of_ble_eq_true rfl) (m_isWord (d + 3) hX hT hM0 (r := xw_joined) (W := 117026742756708) ⟨by decide, by decide, by decide, by decide⟩ (by decide)) ?_))
        refine wb_if_eq dX12_tongueRule_95 rfl (fun c95 => ?_) (fun c95 => absurd c95 (by rw [h1]; decide))
        refine wp_aload_n dX12_tongueRule_120 rfl rfl (wp_ldc2 (v := lN 1836414053) dX12_tongueRule_121 k11_140 rfl (wp_iv2 dX12_tongueRule_124 k11_124 q_X12_isWord (by decide) (xsh hX sh_187) (by decide) (Nat.le_of_ble_eq_true rfl) (m_isWord (d + 3) hX hT hM0 (r := xw_mute) (W := 1836414053) ⟨by decide, by decide, by decide, by decide⟩ (by decide)) ?_))
        refine wb_if_eq dX12_tongueRule_127 rfl (fun c127 => ?_) (fun c127 => absurd c127 (by rw [h2]; decide))
        refine wp_aload_n dX12_tongueRule_152 rfl rfl (wp_ldc2 (v := lN 126943973305959) dX12_tongueRule_153 k11_142 rfl (wp_iv2 dX12_tongueRule_156 k11_124 q_X12_isWord (by decide) (xsh hX sh_187) (by decide) (Nat.le_of_ble_eq_true rfl) (m_isWord (d + 3) hX hT hM0 (r := xw_strong) (W := 126943973305959) ⟨by decide, by decide, by decide, by decide⟩ (by decide)) ?_))
        refine wb_if_ne dX12_tongueRule_159 rfl (fun c159 => ?_) (fun c159 => absurd c159 (by rw [h3]; decide))
        refine wp_aload_n dX12_tongueRule_167 rfl rfl (wp_iconst (v := nI 3) dX12_tongueRule_168 rfl (wp_iv2 dX12_tongueRule_169 k11_128 q_X12_once (by decide) (xsh hX sh_187) (by decide) (Nat.le_of_ble_eq_true rfl) g1 ?_))
        refine wb_if_ne dX12_tongueRule_172 rfl (fun c172 => ?_) (fun c172 => absurd c172 (by decide))
        refine wp_aload_n dX12_tongueRule_177 rfl rfl (wp_aload_n dX12_tongueRule_178 rfl rfl (wp_ldc2 (v := lN 439855772532) dX12_tongueRule_179 k11_144 rfl (wp_iv2 dX12_tongueRule_182 k11_124 q_X12_isWord (by decide) (xsh X1 sh_187) (by decide) (Nat.le_of_ble_eq_true rfl) (m_isWord (d + 3) X1 T1 t1' (r := xw_first) (W := 439855772532) ⟨by decide, by decide, by decide, by decide⟩ (by decide)) ?_)))
        refine wb_if_eq dX12_tongueRule_185 rfl (fun c185 => ?_) (fun c185 => absurd c185 (by rw [k0]; decide))
        refine wp_aload_n dX12_tongueRule_192 rfl rfl (wp_ldc2 (v := lN 126879297138276) dX12_tongueRule_193 k11_146 rfl (wp_iv2 dX12_tongueRule_196 k11_124 q_X12_isWord (by decide) (xsh X1 sh_187) (by decide) (Nat.le_of_ble_eq_true rfl) (m_isWord (d + 3) X1 T1 t1' (r := xw_second) (W := 126879297138276) ⟨by decide, by decide, by decide, by decide⟩ (by decide)) ?_))
        refine wb_if_eq dX12_tongueRule_199 rfl (fun c199 => absurd c199 (by rw [k1]; decide)) (fun c199 => ?_)
        refine wp_iconst (v := nI 1) dX12_tongueRule_202 rfl (wp_goto dX12_tongueRule_203 rfl (p11_85 dX12_tongueRule_221 (xsh X1 sh_187) (wp_aload_n dX12_tongueRule_224 rfl rfl (gv11_85 dX12_tongueRule_225 (xsh X1 sh_187) (xI_same _ _ _ _) ?_))))
        refine wn_if_ge dX12_tongueRule_228 rfl (by omega) ?_
        exact wp_aload_n dX12_tongueRule_236 rfl rfl (wp_iv1 dX12_tongueRule_237 k11_65 q_X12_next (by decide) (xsh X1 sh_187) (by decide) (Nat.le_of_ble_eq_true rfl) g3 (wp_aload_n dX12_tongueRule_240 rfl rfl (wp_iv1 dX12_tongueRule_241 k11_131 q_X12_semi (by decide) (xsh X3 sh_187) (by decide) (Nat.le_of_ble_eq_true rfl) g4 (wb_ret dX12_tongueRule_244 rfl rfl ⟨rfl, rfl⟩))))
      · have g4 := m_semi_no (d + 1) X3 T3 t3 hz3
        refine ⟨false, _, ?_, (F3.SI (a := 187) (k := 9) xFA_9).SI (a := 187) (k := 10) xFA_10, ⟨fun e he => (by cases he), fun p' v' he => (by cases he; exact ⟨fun q => absurd q hz3, fun _ => ⟨rfl, xi (xI_same _ _ _ _) (Or.inr (by decide)), xI_same _ _ _ _⟩⟩)⟩, xi (xi o3 (Or.inr (by decide))) (Or.inr (by decide))⟩
        refine xcall_intro (ls := [.ref 187, .float 0]) q_X12_tongueRule (by decide) rfl (Nat.le_of_ble_eq_true rfl) rfl ?_
        refine wp_aload_n dX12_tongueRule_0 rfl rfl (wp_ldc2 (v := lN 130221116583027) dX12_tongueRule_1 k11_122 rfl (wp_iv2 dX12_tongueRule_4 k11_124 q_X12_isWord (by decide) (xsh hX sh_187) (by decide) (Nat.le_of_ble_eq_true rfl) (m_isWord (d + 3) hX hT hM0 (r := xw_vowels) (W := 130221116583027) ⟨by decide, by decide, by decide, by decide⟩ (by decide)) ?_))
        refine wb_if_eq dX12_tongueRule_7 rfl (fun c7 => ?_) (fun c7 => absurd c7 (by rw [h0]; decide))
        refine wp_aload_n dX12_tongueRule_88 rfl rfl (wp_ldc2 (v := lN 117026742756708) dX12_tongueRule_89 k11_134 rfl (wp_iv2 dX12_tongueRule_92 k11_124 q_X12_isWord (by decide) (xsh hX sh_187) (by decide) (Nat.le_of_ble_eq_true rfl) (m_isWord (d + 3) hX hT hM0 (r := xw_joined) (W := 117026742756708) ⟨by decide, by decide, by decide, by decide⟩ (by decide)) ?_))
        refine wb_if_eq dX12_tongueRule_95 rfl (fun c95 => ?_) (fun c95 => absurd c95 (by rw [h1]; decide))
        refine wp_aload_n dX12_tongueRule_120 rfl rfl (wp_ldc2 (v := lN 1836414053) dX12_tongueRule_121 k11_140 rfl (wp_iv2 dX12_tongueRule_124 k11_124 q_X12_isWord (by decide) (xsh hX sh_187) (by decide) (Nat.le_of_ble_eq_true rfl) (m_isWord (d + 3) hX hT hM0 (r := xw_mute) (W := 1836414053) ⟨by decide, by decide, by decide, by decide⟩ (by decide)) ?_))
        refine wb_if_eq dX12_tongueRule_127 rfl (fun c127 => ?_) (fun c127 => absurd c127 (by rw [h2]; decide))
        refine wp_aload_n dX12_tongueRule_152 rfl rfl (wp_ldc2 (v := lN 126943973305959) dX12_tongueRule_153 k11_142 rfl (wp_iv2 dX12_tongueRule_156 k11_124 q_X12_isWord (by decide) (xsh hX sh_187) (by decide) (Nat.le_of_ble_eq_true rfl) (m_isWord (d + 3) hX hT hM0 (r := xw_strong) (W := 126943973305959) ⟨by decide, by decide, by decide, by decide⟩ (by decide)) ?_))
        refine wb_if_ne dX12_tongueRule_159 rfl (fun c159 => ?_) (fun c159 => absurd c159 (by rw [h3]; decide))
        refine wp_aload_n dX12_tongueRule_167 rfl rfl (wp_iconst (v := nI 3) dX12_tongueRule_168 rfl (wp_iv2 dX12_tongueRule_169 k11_128 q_X12_once (by decide) (xsh hX sh_187) (by decide) (Nat.le_of_ble_eq_true rfl) g1 ?_))
        refine wb_if_ne dX12_tongueRule_172 rfl (fun c172 => ?_) (fun c172 => absurd c172 (by decide))
        refine wp_aload_n dX12_tongueRule_177 rfl rfl (wp_aload_n dX12_tongueRule_178 rfl rfl (wp_ldc2 (v := lN 439855772532) dX12_tongueRule_179 k11_144 rfl (wp_iv2 dX12_tongueRule_182 k11_124 q_X12_isWord (by decide) (xsh X1 sh_187) (by decide) (Nat.le_of_ble_eq_true rfl) (m_isWord (d + 3) X1 T1 t1' (r := xw_first) (W := 439855772532) ⟨by decide, by decide, by decide, by decide⟩ (by decide)) ?_)))
        refine wb_if_eq dX12_tongueRule_185 rfl (fun c185 => ?_) (fun c185 => absurd c185 (by rw [k0]; decide))
        refine wp_aload_n dX12_tongueRule_192 rfl rfl (wp_ldc2 (v := lN 126879297138276) dX12_tongueRule_193 k11_146 rfl (wp_iv2 dX12_tongueRule_196 k11_124 q_X12_isWord (by decide) (xsh X1 sh_187) (by decide) (Nat.le_of_ble_eq_true rfl) (m_isWord (d + 3) X1 T1 t1' (r := xw_second) (W := 126879297138276) ⟨by decide, by decide, by decide, by decide⟩ (by decide)) ?_))
        refine wb_if_eq dX12_tongueRule_199 rfl (fun c199 => absurd c199 (by rw [k1]; decide)) (fun c199 => ?_)
        refine wp_iconst (v := nI 1) dX12_tongueRule_202 rfl (wp_goto dX12_tongueRule_203 rfl (p11_85 dX12_tongueRule_221 (xsh X1 sh_187) (wp_aload_n dX12_tongueRule_224 rfl rfl (gv11_85 dX12_tongueRule_225 (xsh X1 sh_187) (xI_same _ _ _ _) ?_))))
        refine wn_if_ge dX12_tongueRule_228 rfl (by omega) ?_
        exact wp_aload_n dX12_tongueRule_236 rfl rfl (wp_iv1 dX12_tongueRule_237 k11_65 q_X12_next (by decide) (xsh X1 sh_187) (by decide) (Nat.le_of_ble_eq_true rfl) g3 (wp_aload_n dX12_tongueRule_240 rfl rfl (wp_iv1 dX12_tongueRule_241 k11_131 q_X12_semi (by decide) (xsh X3 sh_187) (by decide) (Nat.le_of_ble_eq_true rfl) g4 (wb_ret dX12_tongueRule_244 rfl rfl ⟨rfl, rfl⟩))))
    | false =>
      cases k2 : xiw xw_last n t (xta t n p) with
      | true =>
        have G0 : xFl (fun i k => i = 187 ∧ k = 19) S1 (xSI S1 187 19 (nI 2)) := (xFl.rf S1).SI ⟨rfl, rfl⟩
        obtain ⟨S3, g3, f3, t3⟩ := m_next (d + 2) (S := xSI S1 187 19 (nI 2)) X1 (T1.fr G0 (by omega) (fun k => by omega)) (xi a4 (Or.inr (by decide))) hab1.2.1
        have ff := G0.tr f3
        have X3 := ff.XC X1
        have T3 := T1.fr ff (by omega) (fun k => by omega)
        have F3 : xFl xFA S S3 := F1.tt (ff.mono xFW_A)
        have V3 : xTgN S3 (v.1, v.2.1, v.2.2.1, 2) := by
          obtain ⟨v1, v2, v3, v4, v5⟩ := V1
          exact ⟨⟨ff.i v1.1 (by omega), v1.2⟩, ⟨ff.i v2.1 (by omega), v2.2.1, fun i hi => ff.i (v2.2.2.1 i hi) (by omega), v2.2.2.2⟩, ⟨ff.i v3.1 (by omega), v3.2.1, fun i hi => ⟨ff.i (v3.2.2.1 i hi).1 (by omega), ff.i (v3.2.2.1 i hi).2 (by omega)⟩, v3.2.2.2⟩, f3.i (xI_same _ _ _ _) (by omega), by show 2 < 3; decide⟩
        have o3 : S3.2.1 187 20 = nI (seen ||| 2 ^ 3) := ff.i o1 (by omega)
        have e3 : S3.2.1 187 9 = S.2.1 187 9 := (ff.2.2 187 9 (by omega)).trans e9
        rw [show xtrule t n 3 (xta t n p) v = .ok (xta t n (xta t n p), (v.1, v.2.1, v.2.2.1, 2)) by unfold xtrule; rw [if_neg (by decide), if_neg (by decide), if_neg (by decide)]; simp only [xwh, k0, k1, k2, if_true, Bool.false_eq_true, if_false]]
        by_cases hz3 : xtk t n (xta t n (xta t n p)) = 3
        · obtain ⟨S4, g4, f4, t4⟩ := m_semi (d + 1) X3 T3 t3 hz3
          refine ⟨true, S4, ?_, F3.tt (f4.mono xFN_A), ⟨fun e he => (by cases he), fun p' v' he => (by cases he; exact ⟨fun _ => ⟨rfl, (f4.2.2 187 9 (by omega)).trans e3, t4, V3.fr f4 (fun i k h => by omega)⟩, fun q => absurd hz3 q⟩)⟩, f4.i o3 (by omega)⟩
          refine xcall_intro (ls := [.ref 187, .float 0]) q_X12_tongueRule (by decide) rfl (Nat.le_of_ble_eq_true rfl) rfl ?_
          refine wp_aload_n dX12_tongueRule_0 rfl rfl (wp_ldc2 (v := lN 130221116583027) dX12_tongueRule_1 k11_122 rfl (wp_iv2 dX12_tongueRule_4 k11_124 q_X12_isWord (by decide) (xsh hX sh_187) (by decide) (Nat.le_of_ble_eq_true rfl) (m_isWord (d + 3) hX hT hM0 (r := xw_vowels) (W := 130221116583027) ⟨by decide, by decide, by decide, by decide⟩ (by decide)) ?_))
          refine wb_if_eq dX12_tongueRule_7 rfl (fun c7 => ?_) (fun c7 => absurd c7 (by rw [h0]; decide))
          refine wp_aload_n dX12_tongueRule_88 rfl rfl (wp_ldc2 (v := lN 117026742756708) dX12_tongueRule_89 k11_134 rfl (wp_iv2 dX12_tongueRule_92 k11_124 q_X12_isWord (by decide) (xsh hX sh_187) (by decide) (Nat.le_of_ble_eq_true rfl) (m_isWord (d + 3) hX hT hM0 (r := xw_joined) (W := 117026742756708) ⟨by decide, by decide, by decide, by decide⟩ (by decide)) ?_))
          refine wb_if_eq dX12_tongueRule_95 rfl (fun c95 => ?_) (fun c95 => absurd c95 (by rw [h1]; decide))
          refine wp_aload_n dX12_tongueRule_120 rfl rfl (wp_ldc2 (v := lN 1836414053) dX12_tongueRule_121 k11_140 rfl (wp_iv2 dX12_tongueRule_124 k11_124 q_X12_isWord (by decide) (xsh hX sh_187) (by decide) (Nat.le_of_ble_eq_true rfl) (m_isWord (d + 3) hX hT hM0 (r := xw_mute) (W := 1836414053) ⟨by decide, by decide, by decide, by decide⟩ (by decide)) ?_))
          refine wb_if_eq dX12_tongueRule_127 rfl (fun c127 => ?_) (fun c127 => absurd c127 (by rw [h2]; decide))
          refine wp_aload_n dX12_tongueRule_152 rfl rfl (wp_ldc2 (v := lN 126943973305959) dX12_tongueRule_153 k11_142 rfl (wp_iv2 dX12_tongueRule_156 k11_124 q_X12_isWord (by decide) (xsh hX sh_187) (by decide) (Nat.le_of_ble_eq_true rfl) (m_isWord (d + 3) hX hT hM0 (r := xw_strong) (W := 126943973305959) ⟨by decide, by decide, by decide, by decide⟩ (by decide)) ?_))
          refine wb_if_ne dX12_tongueRule_159 rfl (fun c159 => ?_) (fun c159 => absurd c159 (by rw [h3]; decide))
          refine wp_aload_n dX12_tongueRule_167 rfl rfl (wp_iconst (v := nI 3) dX12_tongueRule_168 rfl (wp_iv2 dX12_tongueRule_169 k11_128 q_X12_once (by decide) (xsh hX sh_187) (by decide) (Nat.le_of_ble_eq_true rfl) g1 ?_))
          refine wb_if_ne dX12_tongueRule_172 rfl (fun c172 => ?_) (fun c172 => absurd c172 (by decide))
          refine wp_aload_n dX12_tongueRule_177 rfl rfl (wp_aload_n dX12_tongueRule_178 rfl rfl (wp_ldc2 (v := lN 439855772532) dX12_tongueRule_179 k11_144 rfl (wp_iv2 dX12_tongueRule_182 k11_124 q_X12_isWord (by decide) (xsh X1 sh_187) (by decide) (Nat.le_of_ble_eq_true rfl) (m_isWord (d + 3) X1 T1 t1' (r := xw_first) (W := 439855772532) ⟨by decide, by decide, by decide, by decide⟩ (by decide)) ?_)))
          refine wb_if_eq dX12_tongueRule_185 rfl (fun c185 => ?_) (fun c185 => absurd c185 (by rw [k0]; decide))
          refine wp_aload_n dX12_tongueRule_192 rfl rfl (wp_ldc2 (v := lN 126879297138276) dX12_tongueRule_193 k11_146 rfl (wp_iv2 dX12_tongueRule_196 k11_124 q_X12_isWord (by decide) (xsh X1 sh_187) (by decide) (Nat.le_of_ble_eq_true rfl) (m_isWord (d + 3) X1 T1 t1' (r := xw_second) (W := 126879297138276) ⟨by decide, by decide, by decide, by decide⟩ (by decide)) ?_))
          refine wb_if_eq dX12_tongueRule_199 rfl (fun c199 => ?_) (fun c199 => absurd c199 (by rw [k1]; decide))
          refine wp_aload_n dX12_tongueRule_206 rfl rfl (wp_ldc2 (v := lN 1818325876) dX12_tongueRule_207 k11_148 rfl (wp_iv2 dX12_tongueRule_210 k11_124 q_X12_isWord (by decide) (xsh X1 sh_187) (by decide) (Nat.le_of_ble_eq_true rfl) (m_isWord (d + 3) X1 T1 t1' (r := xw_last) (W := 1818325876) ⟨by decide, by decide, by decide, by decide⟩ (by decide)) ?_))
          refine wb_if_eq dX12_tongueRule_213 rfl (fun c213 => absurd c213 (by rw [k2]; decide)) (fun c213 => ?_)
          refine wp_iconst (v := nI 2) dX12_tongueRule_216 rfl (wp_goto dX12_tongueRule_217 rfl (p11_85 dX12_tongueRule_221 (xsh X1 sh_187) (wp_aload_n dX12_tongueRule_224 rfl rfl (gv11_85 dX12_tongueRule_225 (xsh X1 sh_187) (xI_same _ _ _ _) ?_))))
          refine wn_if_ge dX12_tongueRule_228 rfl (by omega) ?_
          exact wp_aload_n dX12_tongueRule_236 rfl rfl (wp_iv1 dX12_tongueRule_237 k11_65 q_X12_next (by decide) (xsh X1 sh_187) (by decide) (Nat.le_of_ble_eq_true rfl) g3 (wp_aload_n dX12_tongueRule_240 rfl rfl (wp_iv1 dX12_tongueRule_241 k11_131 q_X12_semi (by decide) (xsh X3 sh_187) (by decide) (Nat.le_of_ble_eq_true rfl) g4 (wb_ret dX12_tongueRule_244 rfl rfl ⟨rfl, rfl⟩))))
        · have g4 := m_semi_no (d + 1) X3 T3 t3 hz3
          refine ⟨false, _, ?_, (F3.SI (a := 187) (k := 9) xFA_9).SI (a := 187) (k := 10) xFA_10, ⟨fun e he => (by cases he), fun p' v' he => (by cases he; exact ⟨fun q => absurd q hz3, fun _ => ⟨rfl, xi (xI_same _ _ _ _) (Or.inr (by decide)), xI_same _ _ _ _⟩⟩)⟩, xi (xi o3 (Or.inr (by decide))) (Or.inr (by decide))⟩
          refine xcall_intro (ls := [.ref 187, .float 0]) q_X12_tongueRule (by decide) rfl (Nat.le_of_ble_eq_true rfl) rfl ?_
          refine wp_aload_n dX12_tongueRule_0 rfl rfl (wp_ldc2 (v := lN 130221116583027) dX12_tongueRule_1 k11_122 rfl (wp_iv2 dX12_tongueRule_4 k11_124 q_X12_isWord (by decide) (xsh hX sh_187) (by decide) (Nat.le_of_ble_eq_true rfl) (m_isWord (d + 3) hX hT hM0 (r := xw_vowels) (W := 130221116583027) ⟨by decide, by decide, by decide, by decide⟩ (by decide)) ?_))
          refine wb_if_eq dX12_tongueRule_7 rfl (fun c7 => ?_) (fun c7 => absurd c7 (by rw [h0]; decide))
          refine wp_aload_n dX12_tongueRule_88 rfl rfl (wp_ldc2 (v := lN 117026742756708) dX12_tongueRule_89 k11_134 rfl (wp_iv2 dX12_tongueRule_92 k11_124 q_X12_isWord (by decide) (xsh hX sh_187) (by decide) (Nat.le_of_ble_eq_true rfl) (m_isWord (d + 3) hX hT hM0 (r := xw_joined) (W := 117026742756708) ⟨by decide, by decide, by decide, by decide⟩ (by decide)) ?_))
          refine wb_if_eq dX12_tongueRule_95 rfl (fun c95 => ?_) (fun c95 => absurd c95 (by rw [h1]; decide))
          refine wp_aload_n dX12_tongueRule_120 rfl rfl (wp_ldc2 (v := lN 1836414053) dX12_tongueRule_121 k11_140 rfl (wp_iv2 dX12_tongueRule_124 k11_124 q_X12_isWord (by decide) (xsh hX sh_187) (by decide) (Nat.le_of_ble_eq_true rfl) (m_isWord (d + 3) hX hT hM0 (r := xw_mute) (W := 1836414053) ⟨by decide, by decide, by decide, by decide⟩ (by decide)) ?_))
          refine wb_if_eq dX12_tongueRule_127 rfl (fun c127 => ?_) (fun c127 => absurd c127 (by rw [h2]; decide))
          refine wp_aload_n dX12_tongueRule_152 rfl rfl (wp_ldc2 (v := lN 126943973305959) dX12_tongueRule_153 k11_142 rfl (wp_iv2 dX12_tongueRule_156 k11_124 q_X12_isWord (by decide) (xsh hX sh_187) (by decide) (Nat.le_of_ble_eq_true rfl) (m_isWord (d + 3) hX hT hM0 (r := xw_strong) (W := 126943973305959) ⟨by decide, by decide, by decide, by decide⟩ (by decide)) ?_))
          refine wb_if_ne dX12_tongueRule_159 rfl (fun c159 => ?_) (fun c159 => absurd c159 (by rw [h3]; decide))
          refine wp_aload_n dX12_tongueRule_167 rfl rfl (wp_iconst (v := nI 3) dX12_tongueRule_168 rfl (wp_iv2 dX12_tongueRule_169 k11_128 q_X12_once (by decide) (xsh hX sh_187) (by decide) (Nat.le_of_ble_eq_true rfl) g1 ?_))
          refine wb_if_ne dX12_tongueRule_172 rfl (fun c172 => ?_) (fun c172 => absurd c172 (by decide))
          refine wp_aload_n dX12_tongueRule_177 rfl rfl (wp_aload_n dX12_tongueRule_178 rfl rfl (wp_ldc2 (v := lN 439855772532) dX12_tongueRule_179 k11_144 rfl (wp_iv2 dX12_tongueRule_182 k11_124 q_X12_isWord (by decide) (xsh X1 sh_187) (by decide) (Nat.le_of_ble_eq_true rfl) (m_isWord (d + 3) X1 T1 t1' (r := xw_first) (W := 439855772532) ⟨by decide, by decide, by decide, by decide⟩ (by decide)) ?_)))
          refine wb_if_eq dX12_tongueRule_185 rfl (fun c185 => ?_) (fun c185 => absurd c185 (by rw [k0]; decide))
          refine wp_aload_n dX12_tongueRule_192 rfl rfl (wp_ldc2 (v := lN 126879297138276) dX12_tongueRule_193 k11_146 rfl (wp_iv2 dX12_tongueRule_196 k11_124 q_X12_isWord (by decide) (xsh X1 sh_187) (by decide) (Nat.le_of_ble_eq_true rfl) (m_isWord (d + 3) X1 T1 t1' (r := xw_second) (W := 126879297138276) ⟨by decide, by decide, by decide, by decide⟩ (by decide)) ?_))
          refine wb_if_eq dX12_tongueRule_199 rfl (fun c199 => ?_) (fun c199 => absurd c199 (by rw [k1]; decide))
          refine wp_aload_n dX12_tongueRule_206 rfl rfl (wp_ldc2 (v := lN 1818325876) dX12_tongueRule_207 k11_148 rfl (wp_iv2 dX12_tongueRule_210 k11_124 q_X12_isWord (by decide) (xsh X1 sh_187) (by decide) (Nat.le_of_ble_eq_true rfl) (m_isWord (d + 3) X1 T1 t1' (r := xw_last) (W := 1818325876) ⟨by decide, by decide, by decide, by decide⟩ (by decide)) ?_))
          refine wb_if_eq dX12_tongueRule_213 rfl (fun c213 => absurd c213 (by rw [k2]; decide)) (fun c213 => ?_)
          refine wp_iconst (v := nI 2) dX12_tongueRule_216 rfl (wp_goto dX12_tongueRule_217 rfl (p11_85 dX12_tongueRule_221 (xsh X1 sh_187) (wp_aload_n dX12_tongueRule_224 rfl rfl (gv11_85 dX12_tongueRule_225 (xsh X1 sh_187) (xI_same _ _ _ _) ?_))))
          refine wn_if_ge dX12_tongueRule_228 rfl (by omega) ?_
          exact wp_aload_n dX12_tongueRule_236 rfl rfl (wp_iv1 dX12_tongueRule_237 k11_65 q_X12_next (by decide) (xsh X1 sh_187) (by decide) (Nat.le_of_ble_eq_true rfl) g3 (wp_aload_n dX12_tongueRule_240 rfl rfl (wp_iv1 dX12_tongueRule_241 k11_131 q_X12_semi (by decide) (xsh X3 sh_187) (by decide) (Nat.le_of_ble_eq_true rfl) g4 (wb_ret dX12_tongueRule_244 rfl rfl ⟨rfl, rfl⟩))))
      | false =>
        have G0 : xFl (fun i k => i = 187 ∧ k = 19) S1 (xSI S1 187 19 (-1)) := (xFl.rf S1).SI ⟨rfl, rfl⟩
        have F2 : xFl xFA S (xSI S1 187 19 (-1)) := F1.SI xFA_19
        rw [show xtrule t n 3 (xta t n p) v = .error (xfh t n (xta t n p)) by unfold xtrule; rw [if_neg (by decide), if_neg (by decide), if_neg (by decide)]; simp only [xwh, k0, k1, k2, Bool.false_eq_true, if_false]]
        refine ⟨false, _, ?_, (F2.SI (a := 187) (k := 9) xFA_9).SI (a := 187) (k := 10) xFA_10, ⟨fun e he => (by cases he; exact ⟨rfl, xi (xI_same _ _ _ _) (Or.inr (by decide)), xI_same _ _ _ _⟩), fun p' v' he => (by cases he)⟩, xi (xi (xi o1 (Or.inr (by decide))) (Or.inr (by decide))) (Or.inr (by decide))⟩
        refine xcall_intro (ls := [.ref 187, .float 0]) q_X12_tongueRule (by decide) rfl (Nat.le_of_ble_eq_true rfl) rfl ?_
        refine wp_aload_n dX12_tongueRule_0 rfl rfl (wp_ldc2 (v := lN 130221116583027) dX12_tongueRule_1 k11_122 rfl (wp_iv2 dX12_tongueRule_4 k11_124 q_X12_isWord (by decide) (xsh hX sh_187) (by decide) (Nat.le_of_ble_eq_true rfl) (m_isWord (d + 3) hX hT hM0 (r := xw_vowels) (W := 130221116583027) ⟨by decide, by decide, by decide, by decide⟩ (by decide)) ?_))
        refine wb_if_eq dX12_tongueRule_7 rfl (fun c7 => ?_) (fun c7 => absurd c7 (by rw [h0]; decide))
        refine wp_aload_n dX12_tongueRule_88 rfl rfl (wp_ldc2 (v := lN 117026742756708) dX12_tongueRule_89 k11_134 rfl (wp_iv2 dX12_tongueRule_92 k11_124 q_X12_isWord (by decide) (xsh hX sh_187) (by decide) (Nat.le_of_ble_eq_true rfl) (m_isWord (d + 3) hX hT hM0 (r := xw_joined) (W := 117026742756708) ⟨by decide, by decide, by decide, by decide⟩ (by decide)) ?_))
        refine wb_if_eq dX12_tongueRule_95 rfl (fun c95 => ?_) (fun c95 => absurd c95 (by rw [h1]; decide))
        refine wp_aload_n dX12_tongueRule_120 rfl rfl (wp_ldc2 (v := lN 1836414053) dX12_tongueRule_121 k11_140 rfl (wp_iv2 dX12_tongueRule_124 k11_124 q_X12_isWord (by decide) (xsh hX sh_187) (by decide) (Nat.le_of_ble_eq_true rfl) (m_isWord (d + 3) hX hT hM0 (r := xw_mute) (W := 1836414053) ⟨by decide, by decide, by decide, by decide⟩ (by decide)) ?_))
        refine wb_if_eq dX12_tongueRule_127 rfl (fun c127 => ?_) (fun c127 => absurd c127 (by rw [h2]; decide))
        refine wp_aload_n dX12_tongueRule_152 rfl rfl (wp_ldc2 (v := lN 126943973305959) dX12_tongueRule_153 k11_142 rfl (wp_iv2 dX12_tongueRule_156 k11_124 q_X12_isWord (by decide) (xsh hX sh_187) (by decide) (Nat.le_of_ble_eq_true rfl) (m_isWord (d + 3) hX hT hM0 (r := xw_strong) (W := 126943973305959) ⟨by decide, by decide, by decide, by decide⟩ (by decide)) ?_))
        refine wb_if_ne dX12_tongueRule_159 rfl (fun c159 => ?_) (fun c159 => absurd c159 (by rw [h3]; decide))
        refine wp_aload_n dX12_tongueRule_167 rfl rfl (wp_iconst (v := nI 3) dX12_tongueRule_168 rfl (wp_iv2 dX12_tongueRule_169 k11_128 q_X12_once (by decide) (xsh hX sh_187) (by decide) (Nat.le_of_ble_eq_true rfl) g1 ?_))
        refine wb_if_ne dX12_tongueRule_172 rfl (fun c172 => ?_) (fun c172 => absurd c172 (by decide))
        refine wp_aload_n dX12_tongueRule_177 rfl rfl (wp_aload_n dX12_tongueRule_178 rfl rfl (wp_ldc2 (v := lN 439855772532) dX12_tongueRule_179 k11_144 rfl (wp_iv2 dX12_tongueRule_182 k11_124 q_X12_isWord (by decide) (xsh X1 sh_187) (by decide) (Nat.le_of_ble_eq_true rfl) (m_isWord (d + 3) X1 T1 t1' (r := xw_first) (W := 439855772532) ⟨by decide, by decide, by decide, by decide⟩ (by decide)) ?_)))
        refine wb_if_eq dX12_tongueRule_185 rfl (fun c185 => ?_) (fun c185 => absurd c185 (by rw [k0]; decide))
        refine wp_aload_n dX12_tongueRule_192 rfl rfl (wp_ldc2 (v := lN 126879297138276) dX12_tongueRule_193 k11_146 rfl (wp_iv2 dX12_tongueRule_196 k11_124 q_X12_isWord (by decide) (xsh X1 sh_187) (by decide) (Nat.le_of_ble_eq_true rfl) (m_isWord (d + 3) X1 T1 t1' (r := xw_second) (W := 126879297138276) ⟨by decide, by decide, by decide, by decide⟩ (by decide)) ?_))
        refine wb_if_eq dX12_tongueRule_199 rfl (fun c199 => ?_) (fun c199 => absurd c199 (by rw [k1]; decide))
        refine wp_aload_n dX12_tongueRule_206 rfl rfl (wp_ldc2 (v := lN 1818325876) dX12_tongueRule_207 k11_148 rfl (wp_iv2 dX12_tongueRule_210 k11_124 q_X12_isWord (by decide) (xsh X1 sh_187) (by decide) (Nat.le_of_ble_eq_true rfl) (m_isWord (d + 3) X1 T1 t1' (r := xw_last) (W := 1818325876) ⟨by decide, by decide, by decide, by decide⟩ (by decide)) ?_))
        refine wb_if_eq dX12_tongueRule_213 rfl (fun c213 => ?_) (fun c213 => absurd c213 (by rw [k2]; decide))
        exact wp_iconst (v := -1) dX12_tongueRule_220 rfl (p11_85 dX12_tongueRule_221 (xsh X1 sh_187) (wp_aload_n dX12_tongueRule_224 rfl rfl (gv11_85 dX12_tongueRule_225 (xsh X1 sh_187) (xI_same _ _ _ _) (wp_if_ge dX12_tongueRule_228 rfl (fun cz => absurd cz (by decide)) (fun cz => (wp_aload_n dX12_tongueRule_231 rfl rfl (wp_iv1 dX12_tongueRule_232 k11_61 q_X12_cant (by decide) (xsh X1 sh_187) (by decide) (Nat.le_of_ble_eq_true rfl) (m_cant (d + 2) (S := xSI S1 187 19 (-1)) X1 (T1.fr G0 (by omega) (fun k => by omega)) (t1'.fr G0 (fun k _ _ => by omega) rfl)) (wb_ret dX12_tongueRule_235 rfl rfl ⟨rfl, rfl⟩))))))))
