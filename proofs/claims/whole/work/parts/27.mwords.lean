/-! THE TONGUE of the reference: a rule read -/
theorem xby_lo : ∀ c, c < 128 → xby c = nI c := by decide +kernel
def xcdl (c : Nat) : Nat := if c < 256 then 1 else if c < 65536 then 2 else 3
theorem xcdl_wd {t : Nat → Nat} {s z : Nat} (hz : 0 < z ∧ z ≤ 3) (h : ∀ i, i < z → xsm (t (s + i)) = true) : xcdl (xwd t s z) = z := by
  rcases (show z = 1 ∨ z = 2 ∨ z = 3 by omega) with rfl | rfl | rfl
  · have h0 := xsm_b (h 0 (by omega))
    have e : xwd t s 1 = (0 * 2 ^ 8 + t (s + 0)) := rfl
    unfold xcdl
    rw [if_pos (by rw [e]; omega)]
  · have h0 := xsm_b (h 0 (by omega))
    have h1 := xsm_b (h 1 (by omega))
    have e : xwd t s 2 = (0 * 2 ^ 8 + t (s + 0)) * 2 ^ 8 + t (s + 1) := rfl
    unfold xcdl
    rw [if_neg (by rw [e]; omega), if_pos (by rw [e]; omega)]
  · have h0 := xsm_b (h 0 (by omega))
    have h1 := xsm_b (h 1 (by omega))
    have h2 := xsm_b (h 2 (by omega))
    have e : xwd t s 3 = ((0 * 2 ^ 8 + t (s + 0)) * 2 ^ 8 + t (s + 1)) * 2 ^ 8 + t (s + 2) := rfl
    unfold xcdl
    rw [if_neg (by rw [e]; omega), if_neg (by rw [e]; omega)]
/-- what a rule's reading by the reference does: with its STOP -/
def xMO {V : Type} (VP : xS → V → Prop) (n : Nat) (t : Nat → Nat) (S S' : xS) (b : Bool) (X : Except (Nat × Nat) (Nat × V)) : Prop :=
  (∀ e, X = .error e → b = false ∧ S'.2.1 187 9 = nI e.1 ∧ S'.2.1 187 10 = nI e.2) ∧
  (∀ p' v', X = .ok (p', v') → (xtk t n p' = 3 → b = true ∧ S'.2.1 187 9 = S.2.1 187 9 ∧ xTM S' n t (xta t n p') ∧ VP S' v') ∧ (xtk t n p' ≠ 3 → b = false ∧ S'.2.1 187 9 = nI (xfh t n p').1 ∧ S'.2.1 187 10 = nI (xfh t n p').2))
def xTgN (S : xS) (v : xTg) : Prop :=
  (S.2.1 187 16 = nI v.1 ∧ v.1 < 2 ^ 26) ∧ (S.2.1 187 17 = nI v.2.1.length ∧ v.2.1.length ≤ 12 ∧ (∀ i, i < v.2.1.length → S.2.1 190 i = nI (v.2.1.getD i 0)) ∧ ∀ x ∈ v.2.1, 97 ≤ x ∧ x < 2 ^ 24) ∧
  (S.2.1 187 18 = nI v.2.2.1.length ∧ v.2.2.1.length ≤ 6 ∧ (∀ i, i < v.2.2.1.length → S.2.1 192 i = nI (v.2.2.1.getD i 0) ∧ S.2.1 194 i = nI (xcdl (v.2.2.1.getD i 0))) ∧ ∀ x ∈ v.2.2.1, 97 ≤ x ∧ x < 2 ^ 24) ∧ S.2.1 187 19 = nI v.2.2.2 ∧ v.2.2.2 < 3
theorem xTM.fr {S S' : xS} {n p : Nat} {t : Nat → Nat} {P : Nat → Nat → Prop} (h : xTM S n t p) (hf : xFl P S S') (hn : ∀ k, 4 ≤ k → k ≤ 8 → ¬ P 187 k) (hL : S'.2.2.2 187 11 = S.2.2.2 187 11) : xTM S' n t p := by
  obtain ⟨h1, h2, h3, h4, h5⟩ := h
  exact ⟨h1, hf.i h2 (hn _ (by decide) (by decide)), hf.i h3 (hn _ (by decide) (by decide)), hf.i h4 (hn _ (by decide) (by decide)), fun q => ⟨hf.i (h5 q).1 (hn _ (by decide) (by decide)), hf.i (h5 q).2.1 (hn _ (by decide) (by decide)), hL.trans (h5 q).2.2⟩⟩
theorem xTgN.fr {S S' : xS} {P : Nat → Nat → Prop} {v : xTg} (h : xTgN S v) (hf : xFl P S S') (hn : ∀ i k, ((i = 187 ∧ 16 ≤ k ∧ k ≤ 19) ∨ i = 190 ∨ i = 192 ∨ i = 194) → ¬ P i k) : xTgN S' v := by
  obtain ⟨h1, ⟨h2, h3, h4, h5⟩, ⟨h6, h7, h8, h9⟩, h10, h11⟩ := h
  exact ⟨⟨hf.i h1.1 (hn _ _ (by omega)), h1.2⟩, ⟨hf.i h2 (hn _ _ (by omega)), h3, fun i hi => hf.i (h4 i hi) (hn _ _ (by omega)), h5⟩, ⟨hf.i h6 (hn _ _ (by omega)), h7, fun i hi => ⟨hf.i (h8 i hi).1 (hn _ _ (by omega)), hf.i (h8 i hi).2 (hn _ _ (by omega))⟩, h9⟩, hf.i h10 (hn _ _ (by omega)), h11⟩
theorem words_in {jb : Bool} {cn n p : Nat} {t : Nat → Nat} {d : Nat} {S : xS} {Q : Option Value → xS → Prop} (hX : XC S) (hT : xTxM S n t) (hM : xTM S n t p) (h1 : xtk t n p = 1) (hz : xtz t n p ≤ 3) : ∀ (j m : Nat), m + j = xtz t n p → Wp false (d + 3) 11 cX12_words (some .boolean) false 109 [.ref 187, .int (xB jb), .int (nI cn), .int (nI (xwd t (xts t n p) (xtz t n p))), .int (nI (xtz t n p))] [] S Q → Wp false (d + 3) 11 cX12_words (some .boolean) false 76 [.ref 187, .int (xB jb), .int (nI cn), .int (nI (xwd t (xts t n p) m)), .int (nI m)] [] S Q := by
  obtain ⟨hp, h6, h4, h5, hr⟩ := hM
  have hx := xtk1 h1
  obtain ⟨r1, r2, r3⟩ := hr hx.1
  have hle := hT.2.1
  have hab := xta_b t hp
  have ez : xtz t n p = xte t n p - xts t n p := by unfold xtz; rw [hx.2.2.1]
  have r1' : S.2.1 187 7 = nI (xtz t n p) := by rw [ez]; exact r1
  intro j
  induction j with
  | zero =>
    intro m hm k
    have : m = xtz t n p := by omega
    subst this
    refine wp_iload dX12_words_76 rfl (wp_aload_n dX12_words_78 rfl rfl (gv11_31 dX12_words_79 (xsh hX sh_187) r1' ?_))
    refine wn_icmp_ge dX12_words_82 rfl (by omega) (by omega) (fun c82 => ?_) (fun c82 => absurd c82 (by omega))
    exact k
  | succ j ih =>
    intro m hm k
    have hc := xsm_b (hx.2.2.2 (xts t n p + m) (by omega) (by omega))
    obtain ⟨q1, q2⟩ := hT.2.2 (xts t n p + m) (by omega)
    rw [xby_lo _ (by omega)] at q2
    have hw : xwd t (xts t n p) m < 2 ^ 24 := by
      have e := xwd_lt t (xts t n p) m (fun i hi => (hT.2.2 _ (by omega)).1)
      have : 256 ^ m ≤ 256 ^ 2 := Nat.pow_le_pow_right (by decide) (by omega)
      omega
    refine wp_iload dX12_words_76 rfl (wp_aload_n dX12_words_78 rfl rfl (gv11_31 dX12_words_79 (xsh hX sh_187) r1' ?_))
    refine wn_icmp_ge dX12_words_82 rfl (by omega) (by omega) (fun c82 => absurd c82 (by omega)) (fun c82 => ?_)
    exact wp_iload_n dX12_words_85 rfl (wp_bipush (v := nI 8) dX12_words_86 rfl (wp_ishl dX12_words_88 (wp_aload_n dX12_words_89 rfl rfl (g11_14 dX12_words_90 (xsh hX sh_187) (xrr hX r187_1) (wp_aload_n dX12_words_93 rfl rfl (gv11_28 dX12_words_94 (xsh hX sh_187) h6 (wp_iload dX12_words_97 rfl (wv_iadd dX12_words_99 (nI_add _ _) (wn_baload dX12_words_100 (xsh hX sh_188) (Or.inl rfl) (by omega) (by decide) q2 (wv_ior dX12_words_101 (xshor hw q1) (wp_istore_n dX12_words_102 ⟨Nat.le_of_ble_eq_true rfl, Or.inr rfl⟩ rfl (wp_iinc dX12_words_103 rfl (nI_1 _) ⟨Nat.le_of_ble_eq_true rfl, Or.inr rfl⟩ rfl (wp_goto dX12_words_106 rfl (ih (m + 1) (by omega) k))))))))))))))
theorem words_loop_1 {n : Nat} {t : Nat → Nat} (d : Nat) : ∀ (j : Nat) (v0 k0 : Value) (p : Nat) (l : List Nat) (S : xS), l.length + j = 12 → XC S → xTxM S n t → xTM S n t p → (∀ i, i < l.length → S.2.1 190 i = nI (l.getD i 0)) → (0 < l.length ∨ xtk t n p = 1) → Wp false (d + 3) 11 cX12_words (some .boolean) false 15 [.ref 187, .int (xB true), .int (nI l.length), v0, k0] [] S (fun r S' => ∃ b, r = some (.int (xB b)) ∧ xFl (fun i k => (i = 187 ∧ ((4 ≤ k ∧ k ≤ 10) ∨ k = 17)) ∨ i = 190) S S' ∧ xMO (fun S l => S.2.1 187 17 = nI l.length ∧ 0 < l.length ∧ l.length ≤ 12 ∧ (∀ i, i < l.length → S.2.1 190 i = nI (l.getD i 0))) n t S S' b (xparts t n 2 2 12 (j + 1) p l)) := by
  intro j
  induction j with
  | zero => ?_
  | succ j ih => ?_
  all_goals
    intro v0 k0
    intro p l S hl hX hT hM hrow hpos'
    have hM0 := hM
    obtain ⟨hp, h6, h4, h5, hr⟩ := hM
    have b4 := xtk_b t n p
    have hab := xta_b t hp
    have hle := hT.2.1
    have hxz : xtk t n p = 1 → S.2.1 187 7 = nI (xtz t n p) ∧ xtz t n p = xte t n p - xts t n p ∧ xtz t n p ≤ 12 ∧ 0 < xtz t n p := fun h1 => by
      have hx := xtk1 h1
      have ez : xtz t n p = xte t n p - xts t n p := by unfold xtz; rw [hx.2.2.1]
      exact ⟨by rw [ez]; exact (hr hx.1).1, ez, by omega, by omega⟩
    by_cases h1 : xtk t n p = 1
  · obtain ⟨r1', ez, z12, z0⟩ := hxz h1
    have hx := xtk1 h1
    rw [show xparts t n 2 2 12 (0 + 1) p l = .error (3, xts t n p) by rw [xparts, if_pos h1, if_pos (by omega)]]
    refine wp_aload_n dX12_words_15 rfl rfl (gv11_34 dX12_words_16 (xsh hX sh_187) h5 (wp_iconst (v := nI 1) dX12_words_19 rfl ?_))
    refine wn_icmp_ne dX12_words_20 rfl (by omega) (by omega) (fun c20 => absurd c20 (by omega)) (fun c20 => ?_)
    refine wp_iload_n dX12_words_23 rfl (wp_iload_n dX12_words_24 rfl ?_)
    refine wb_if_eq dX12_words_25 rfl (fun c25 => absurd c25 (by decide)) (fun c25 => ?_)
    refine wp_bipush (v := nI 12) dX12_words_28 rfl (wp_goto dX12_words_30 rfl ?_)
    refine wn_icmp_eq dX12_words_35 rfl (by omega) (by omega) (fun c35 => ?_) (fun c35 => absurd c35 (by omega))
    exact wp_aload_n dX12_words_61 rfl rfl (wp_iconst (v := nI 3) dX12_words_62 rfl (wp_aload_n dX12_words_63 rfl rfl (gv11_28 dX12_words_64 (xsh hX sh_187) h6 (wp_iv3 dX12_words_67 k11_57 q_X12_wrong (by decide) (xsh hX sh_187) (by decide) (Nat.le_of_ble_eq_true rfl) (m_wrong 3 _ (d + 2) hX) (wb_ret dX12_words_70 rfl rfl ⟨false, rfl, ((xFl.rf S).SI (by omega)).SI (by omega), fun e he => (by cases he; exact ⟨rfl, xi (xI_same _ _ _ _) (Or.inr (by decide)), xI_same _ _ _ _⟩), fun p' v' he => (by cases he)⟩)))))
  · have hpos : 0 < l.length := by omega
    have EX : xparts t n 2 2 12 (0 + 1) p l = .ok (p, l) := by rw [xparts, if_neg h1, if_neg (by intro e; rw [e] at hpos; exact absurd hpos (by simp))]
    rw [EX]
    by_cases h3 : xtk t n p = 3
    · have F1 : xFl (fun i k => (i = 187 ∧ ((4 ≤ k ∧ k ≤ 10) ∨ k = 17)) ∨ i = 190) S (xSI S 187 17 (nI l.length)) := (xFl.rf S).SI (by omega)
      obtain ⟨S2, g2, f2, t2⟩ := m_semi d (S := xSI S 187 17 (nI l.length)) hX (hT.fr F1 (by omega) (fun k => by omega)) (hM0.fr ((xFl.rf (P := fun i k => i = 187 ∧ k = 17) S).SI ⟨rfl, rfl⟩) (fun k _ _ => by omega) rfl) h3
      refine wp_aload_n dX12_words_15 rfl rfl (gv11_34 dX12_words_16 (xsh hX sh_187) h5 (wp_iconst (v := nI 1) dX12_words_19 rfl ?_))
      refine wn_icmp_ne dX12_words_20 rfl (by omega) (by omega) (fun c20 => ?_) (fun c20 => absurd c20 (by omega))
      refine wp_iload_n dX12_words_150 rfl ?_
      refine wb_if_eq dX12_words_151 rfl (fun c151 => absurd c151 (by decide)) (fun c151 => ?_)
      exact wp_aload_n dX12_words_154 rfl rfl (wp_iload_n dX12_words_155 rfl (p11_79 dX12_words_156 (xsh hX sh_187) (wp_goto dX12_words_159 rfl (wp_aload_n dX12_words_167 rfl rfl (wp_iv1 dX12_words_168 k11_131 q_X12_semi (by decide) (xsh hX sh_187) (by decide) (Nat.le_of_ble_eq_true rfl) g2 (wb_ret dX12_words_171 rfl rfl ⟨true, rfl, F1.tt (f2.mono (fun i k h => by omega)), fun e he => (by cases he), fun p' v' he => (by cases he; exact ⟨fun _ => ⟨rfl, (f2.i (xi rfl (Or.inr (by decide))) (by omega)), t2, f2.i (xI_same _ _ _ _) (by omega), hpos, by omega, fun i hi => f2.i (xi (hrow i hi) (Or.inl (by decide))) (by omega)⟩, fun q => absurd h3 q⟩)⟩))))))
    · have F1 : xFl (fun i k => (i = 187 ∧ ((4 ≤ k ∧ k ≤ 10) ∨ k = 17)) ∨ i = 190) S (xSI S 187 17 (nI l.length)) := (xFl.rf S).SI (by omega)
      have g2 := m_semi_no d (S := xSI S 187 17 (nI l.length)) hX (hT.fr F1 (by omega) (fun k => by omega)) (hM0.fr ((xFl.rf (P := fun i k => i = 187 ∧ k = 17) S).SI ⟨rfl, rfl⟩) (fun k _ _ => by omega) rfl) h3
      refine wp_aload_n dX12_words_15 rfl rfl (gv11_34 dX12_words_16 (xsh hX sh_187) h5 (wp_iconst (v := nI 1) dX12_words_19 rfl ?_))
      refine wn_icmp_ne dX12_words_20 rfl (by omega) (by omega) (fun c20 => ?_) (fun c20 => absurd c20 (by omega))
      refine wp_iload_n dX12_words_150 rfl ?_
      refine wb_if_eq dX12_words_151 rfl (fun c151 => absurd c151 (by decide)) (fun c151 => ?_)
      exact wp_aload_n dX12_words_154 rfl rfl (wp_iload_n dX12_words_155 rfl (p11_79 dX12_words_156 (xsh hX sh_187) (wp_goto dX12_words_159 rfl (wp_aload_n dX12_words_167 rfl rfl (wp_iv1 dX12_words_168 k11_131 q_X12_semi (by decide) (xsh hX sh_187) (by decide) (Nat.le_of_ble_eq_true rfl) g2 (wb_ret dX12_words_171 rfl rfl ⟨false, rfl, (F1.SI (by omega)).SI (by omega), fun e he => (by cases he), fun p' v' he => (by cases he; exact ⟨fun q => absurd q h3, fun _ => ⟨rfl, xi (xI_same _ _ _ _) (Or.inr (by decide)), xI_same _ _ _ _⟩⟩)⟩))))))
  · obtain ⟨r1', ez, z12, z0⟩ := hxz h1
    have hx := xtk1 h1
    by_cases hbad : xtz t n p < 2 ∨ 2 < xtz t n p
    · rw [show xparts t n 2 2 12 (j + 1 + 1) p l = .error (3, xts t n p) by rw [xparts, if_pos h1, if_pos (by omega)]]
      refine wp_aload_n dX12_words_15 rfl rfl (gv11_34 dX12_words_16 (xsh hX sh_187) h5 (wp_iconst (v := nI 1) dX12_words_19 rfl ?_))
      refine wn_icmp_ne dX12_words_20 rfl (by omega) (by omega) (fun c20 => absurd c20 (by omega)) (fun c20 => ?_)
      refine wp_iload_n dX12_words_23 rfl (wp_iload_n dX12_words_24 rfl ?_)
      refine wb_if_eq dX12_words_25 rfl (fun c25 => absurd c25 (by decide)) (fun c25 => ?_)
      refine wp_bipush (v := nI 12) dX12_words_28 rfl (wp_goto dX12_words_30 rfl ?_)
      refine wn_icmp_eq dX12_words_35 rfl (by omega) (by omega) (fun c35 => absurd c35 (by omega)) (fun c35 => ?_)
      refine wp_iload_n dX12_words_38 rfl ?_
      refine wb_if_eq dX12_words_39 rfl (fun c39 => absurd c39 (by decide)) (fun c39 => ?_)
      refine wp_aload_n dX12_words_42 rfl rfl (gv11_31 dX12_words_43 (xsh hX sh_187) r1' (wp_iconst (v := nI 2) dX12_words_46 rfl ?_))
      refine wn_icmp_eq dX12_words_47 rfl (by omega) (by omega) (fun c47 => absurd c47 (by omega)) (fun c47 => ?_)
      exact wp_goto dX12_words_50 rfl (wp_aload_n dX12_words_61 rfl rfl (wp_iconst (v := nI 3) dX12_words_62 rfl (wp_aload_n dX12_words_63 rfl rfl (gv11_28 dX12_words_64 (xsh hX sh_187) h6 (wp_iv3 dX12_words_67 k11_57 q_X12_wrong (by decide) (xsh hX sh_187) (by decide) (Nat.le_of_ble_eq_true rfl) (m_wrong 3 _ (d + 2) hX) (wb_ret dX12_words_70 rfl rfl ⟨false, rfl, ((xFl.rf S).SI (by omega)).SI (by omega), fun e he => (by cases he; exact ⟨rfl, xi (xI_same _ _ _ _) (Or.inr (by decide)), xI_same _ _ _ _⟩), fun p' v' he => (by cases he)⟩))))))
    · rw [show xparts t n 2 2 12 (j + 1 + 1) p l = xparts t n 2 2 12 (j + 1) (xta t n p) (l ++ [xwd t (xts t n p) (xtz t n p)]) by rw [xparts, if_pos h1, if_neg (by omega)]]
      have F1 : xFl (fun i k => (i = 187 ∧ ((4 ≤ k ∧ k ≤ 10) ∨ k = 17)) ∨ i = 190) S (xSI S 190 l.length (nI (xwd t (xts t n p) (xtz t n p)))) := (xFl.rf S).SI (by omega)
      have T1 := hT.fr F1 (by omega) (fun k => by omega)
      obtain ⟨S2, g2, f2, t2⟩ := m_next (d + 1) (S := xSI S 190 l.length (nI (xwd t (xts t n p) (xtz t n p)))) hX T1 (xi h4 (Or.inl (by decide))) hab.2.1
      have F2 : xFl (fun i k => (i = 187 ∧ ((4 ≤ k ∧ k ≤ 10) ∨ k = 17)) ∨ i = 190) S S2 := F1.tt (f2.mono (fun a k h => by omega))
      have X2 := F2.XC hX
      refine wp_aload_n dX12_words_15 rfl rfl (gv11_34 dX12_words_16 (xsh hX sh_187) h5 (wp_iconst (v := nI 1) dX12_words_19 rfl ?_))
      refine wn_icmp_ne dX12_words_20 rfl (by omega) (by omega) (fun c20 => absurd c20 (by omega)) (fun c20 => ?_)
      refine wp_iload_n dX12_words_23 rfl (wp_iload_n dX12_words_24 rfl ?_)
      refine wb_if_eq dX12_words_25 rfl (fun c25 => absurd c25 (by decide)) (fun c25 => ?_)
      refine wp_bipush (v := nI 12) dX12_words_28 rfl (wp_goto dX12_words_30 rfl ?_)
      refine wn_icmp_eq dX12_words_35 rfl (by omega) (by omega) (fun c35 => absurd c35 (by omega)) (fun c35 => ?_)
      refine wp_iload_n dX12_words_38 rfl ?_
      refine wb_if_eq dX12_words_39 rfl (fun c39 => absurd c39 (by decide)) (fun c39 => ?_)
      refine wp_aload_n dX12_words_42 rfl rfl (gv11_31 dX12_words_43 (xsh hX sh_187) r1' (wp_iconst (v := nI 2) dX12_words_46 rfl ?_))
      refine wn_icmp_eq dX12_words_47 rfl (by omega) (by omega) (fun c47 => ?_) (fun c47 => absurd c47 (by omega))
      refine wp_iconst (v := nI 0) dX12_words_71 rfl (wp_istore_n dX12_words_72 ⟨Nat.le_of_ble_eq_true rfl, Or.inr rfl⟩ rfl (wp_iconst (v := nI 0) dX12_words_73 rfl (wp_istore dX12_words_74 ⟨Nat.le_of_ble_eq_true rfl, Or.inr rfl⟩ rfl ?_)))
      refine words_in hX hT hM0 h1 (by omega) (xtz t n p) 0 (by omega) ?_
      refine wp_iload_n dX12_words_109 rfl ?_
      refine wb_if_eq dX12_words_110 rfl (fun c110 => absurd c110 (by decide)) (fun c110 => ?_)
      refine wp_aload_n dX12_words_113 rfl rfl (g11_107 dX12_words_114 (xsh hX sh_187) (xrr hX r187_22) (wp_iload_n dX12_words_117 rfl (wp_iload_n dX12_words_118 rfl (wn_iastore dX12_words_119 (xsh hX sh_190) rfl (by omega) (by decide) (wp_goto dX12_words_120 rfl (wp_iinc dX12_words_140 rfl (nI_1 _) ⟨Nat.le_of_ble_eq_true rfl, Or.inr rfl⟩ rfl (wp_aload_n dX12_words_143 rfl rfl (wp_iv1 dX12_words_144 k11_65 q_X12_next (by decide) (xsh hX sh_187) (by decide) (Nat.le_of_ble_eq_true rfl) g2 (wp_goto dX12_words_147 rfl ?_)))))))))
      refine wp_locals (ls' := [.ref 187, .int (xB true), .int (nI (l ++ [xwd t (xts t n p) (xtz t n p)]).length), .int (nI (xwd t (xts t n p) (xtz t n p))), .int (nI (xtz t n p))]) (by rw [List.length_append]; rfl) ?_
      refine (ih _ _ (xta t n p) (l ++ [xwd t (xts t n p) (xtz t n p)]) S2 (by rw [List.length_append, List.length_singleton]; omega) X2 (hT.fr F2 (by omega) (fun k => by omega)) t2 ?_ (by rw [List.length_append, List.length_singleton]; omega)).mono ?_
      · intro i hi
        rw [List.length_append, List.length_singleton] at hi
        rcases Nat.lt_or_ge i l.length with q | q
        · rw [f2.2.2 190 i (by omega), xI_ne _ _ (Or.inr (by omega)), hrow i q, xga q]
        · rw [show i = l.length by omega, f2.2.2 190 _ (by omega), xI_same, xgb]
      · rintro r S' ⟨k, e1, e2, e3, e4⟩
        refine ⟨k, e1, F2.tt e2, e3, fun p' l' he => ?_⟩
        obtain ⟨q1, q2⟩ := e4 p' l' he
        exact ⟨fun q => ⟨(q1 q).1, (q1 q).2.1.trans (f2.i (xi rfl (Or.inl (by decide))) (by omega)), (q1 q).2.2⟩, q2⟩
  · have hpos : 0 < l.length := by rcases hpos' with q | q; exact q; exact absurd q h1
    have EX : xparts t n 2 2 12 (j + 1 + 1) p l = .ok (p, l) := by rw [xparts, if_neg h1, if_neg (by intro e; rw [e] at hpos; exact absurd hpos (by simp))]
    rw [EX]
    by_cases h3 : xtk t n p = 3
    · have F1 : xFl (fun i k => (i = 187 ∧ ((4 ≤ k ∧ k ≤ 10) ∨ k = 17)) ∨ i = 190) S (xSI S 187 17 (nI l.length)) := (xFl.rf S).SI (by omega)
      obtain ⟨S2, g2, f2, t2⟩ := m_semi d (S := xSI S 187 17 (nI l.length)) hX (hT.fr F1 (by omega) (fun k => by omega)) (hM0.fr ((xFl.rf (P := fun i k => i = 187 ∧ k = 17) S).SI ⟨rfl, rfl⟩) (fun k _ _ => by omega) rfl) h3
      refine wp_aload_n dX12_words_15 rfl rfl (gv11_34 dX12_words_16 (xsh hX sh_187) h5 (wp_iconst (v := nI 1) dX12_words_19 rfl ?_))
      refine wn_icmp_ne dX12_words_20 rfl (by omega) (by omega) (fun c20 => ?_) (fun c20 => absurd c20 (by omega))
      refine wp_iload_n dX12_words_150 rfl ?_
      refine wb_if_eq dX12_words_151 rfl (fun c151 => absurd c151 (by decide)) (fun c151 => ?_)
      exact wp_aload_n dX12_words_154 rfl rfl (wp_iload_n dX12_words_155 rfl (p11_79 dX12_words_156 (xsh hX sh_187) (wp_goto dX12_words_159 rfl (wp_aload_n dX12_words_167 rfl rfl (wp_iv1 dX12_words_168 k11_131 q_X12_semi (by decide) (xsh hX sh_187) (by decide) (Nat.le_of_ble_eq_true rfl) g2 (wb_ret dX12_words_171 rfl rfl ⟨true, rfl, F1.tt (f2.mono (fun i k h => by omega)), fun e he => (by cases he), fun p' v' he => (by cases he; exact ⟨fun _ => ⟨rfl, (f2.i (xi rfl (Or.inr (by decide))) (by omega)), t2, f2.i (xI_same _ _ _ _) (by omega), hpos, by omega, fun i hi => f2.i (xi (hrow i hi) (Or.inl (by decide))) (by omega)⟩, fun q => absurd h3 q⟩)⟩))))))
    · have F1 : xFl (fun i k => (i = 187 ∧ ((4 ≤ k ∧ k ≤ 10) ∨ k = 17)) ∨ i = 190) S (xSI S 187 17 (nI l.length)) := (xFl.rf S).SI (by omega)
      have g2 := m_semi_no d (S := xSI S 187 17 (nI l.length)) hX (hT.fr F1 (by omega) (fun k => by omega)) (hM0.fr ((xFl.rf (P := fun i k => i = 187 ∧ k = 17) S).SI ⟨rfl, rfl⟩) (fun k _ _ => by omega) rfl) h3
      refine wp_aload_n dX12_words_15 rfl rfl (gv11_34 dX12_words_16 (xsh hX sh_187) h5 (wp_iconst (v := nI 1) dX12_words_19 rfl ?_))
      refine wn_icmp_ne dX12_words_20 rfl (by omega) (by omega) (fun c20 => ?_) (fun c20 => absurd c20 (by omega))
      refine wp_iload_n dX12_words_150 rfl ?_
      refine wb_if_eq dX12_words_151 rfl (fun c151 => absurd c151 (by decide)) (fun c151 => ?_)
      exact wp_aload_n dX12_words_154 rfl rfl (wp_iload_n dX12_words_155 rfl (p11_79 dX12_words_156 (xsh hX sh_187) (wp_goto dX12_words_159 rfl (wp_aload_n dX12_words_167 rfl rfl (wp_iv1 dX12_words_168 k11_131 q_X12_semi (by decide) (xsh hX sh_187) (by decide) (Nat.le_of_ble_eq_true rfl) g2 (wb_ret dX12_words_171 rfl rfl ⟨false, rfl, (F1.SI (by omega)).SI (by omega), fun e he => (by cases he), fun p' v' he => (by cases he; exact ⟨fun q => absurd q h3, fun _ => ⟨rfl, xi (xI_same _ _ _ _) (Or.inr (by decide)), xI_same _ _ _ _⟩⟩)⟩))))))
theorem m_words_1 {n p : Nat} {t : Nat → Nat} (d : Nat) {S : xS} (hX : XC S) (hT : xTxM S n t) (hM : xTM S n t p) : ∃ b S', xcall false (d + 3) j_X12_words [.ref 187, .int (xB true)] S (some (.int (xB b))) S' ∧ xFl (fun i k => (i = 187 ∧ ((4 ≤ k ∧ k ≤ 10) ∨ k = 17)) ∨ i = 190) S S' ∧ xMO (fun S l => S.2.1 187 17 = nI l.length ∧ 0 < l.length ∧ l.length ≤ 12 ∧ (∀ i, i < l.length → S.2.1 190 i = nI (l.getD i 0))) n t S S' b (xparts t n 2 2 12 (12 + 1) p []) := by
  have hM0 := hM
  obtain ⟨hp, h6, h4, h5, hr⟩ := hM
  have b4 := xtk_b t n p
  obtain ⟨r, S', h1, b, h2, h3⟩ := xcall_some (al := false) (d := d + 3) (ls := [.ref 187, .int (xB true), .float 0, .float 0, .float 0]) (S := S) (as := [.ref 187, .int (xB true)]) q_X12_words (by decide) rfl (Nat.le_of_ble_eq_true rfl) rfl
    (P := (fun r S' => ∃ b, r = some (.int (xB b)) ∧ xFl (fun i k => (i = 187 ∧ ((4 ≤ k ∧ k ≤ 10) ∨ k = 17)) ∨ i = 190) S S' ∧ xMO (fun S l => S.2.1 187 17 = nI l.length ∧ 0 < l.length ∧ l.length ≤ 12 ∧ (∀ i, i < l.length → S.2.1 190 i = nI (l.getD i 0))) n t S S' b (xparts t n 2 2 12 (12 + 1) p []))) (by
      by_cases h1 : xtk t n p = 1
      · refine wp_iconst (v := nI 0) dX12_words_0 rfl (wp_istore_n dX12_words_1 ⟨Nat.le_of_ble_eq_true rfl, Or.inr rfl⟩ rfl (wp_aload_n dX12_words_2 rfl rfl (gv11_34 dX12_words_3 (xsh hX sh_187) h5 (wp_iconst (v := nI 1) dX12_words_6 rfl ?_))))
        refine wn_icmp_eq dX12_words_7 rfl (by omega) (by omega) (fun c7 => ?_) (fun c7 => absurd c7 (by omega))
        exact words_loop_1 d 12 _ _ p [] S rfl hX hT hM0 (fun i hi => absurd hi (Nat.not_lt_zero i)) (Or.inr h1)
      · rw [show xparts t n 2 2 12 (12 + 1) p [] = .error (xfh t n p) by rw [xparts, if_neg h1, if_pos rfl]]
        refine wp_iconst (v := nI 0) dX12_words_0 rfl (wp_istore_n dX12_words_1 ⟨Nat.le_of_ble_eq_true rfl, Or.inr rfl⟩ rfl (wp_aload_n dX12_words_2 rfl rfl (gv11_34 dX12_words_3 (xsh hX sh_187) h5 (wp_iconst (v := nI 1) dX12_words_6 rfl ?_))))
        refine wn_icmp_eq dX12_words_7 rfl (by omega) (by omega) (fun c7 => absurd c7 (by omega)) (fun c7 => ?_)
        exact wp_aload_n dX12_words_10 rfl rfl (wp_iv1 dX12_words_11 k11_61 q_X12_cant (by decide) (xsh hX sh_187) (by decide) (Nat.le_of_ble_eq_true rfl) (m_cant (d + 1) hX hT hM0) (wb_ret dX12_words_14 rfl rfl ⟨false, rfl, ((xFl.rf S).SI (by omega)).SI (by omega), fun e he => (by cases he; exact ⟨rfl, xi (xI_same _ _ _ _) (Or.inr (by decide)), xI_same _ _ _ _⟩), fun p' v' he => (by cases he)⟩)))
  subst h2
  exact ⟨b, S', h1, h3⟩
theorem words_loop_0 {n : Nat} {t : Nat → Nat} (d : Nat) : ∀ (j : Nat) (v0 k0 : Value) (p : Nat) (l : List Nat) (S : xS), l.length + j = 6 → XC S → xTxM S n t → xTM S n t p → (∀ i, i < l.length → S.2.1 192 i = nI (l.getD i 0) ∧ S.2.1 194 i = nI (xcdl (l.getD i 0))) → (0 < l.length ∨ xtk t n p = 1) → Wp false (d + 3) 11 cX12_words (some .boolean) false 15 [.ref 187, .int (xB false), .int (nI l.length), v0, k0] [] S (fun r S' => ∃ b, r = some (.int (xB b)) ∧ xFl (fun i k => (i = 187 ∧ ((4 ≤ k ∧ k ≤ 10) ∨ k = 18)) ∨ i = 192 ∨ i = 194) S S' ∧ xMO (fun S l => S.2.1 187 18 = nI l.length ∧ 0 < l.length ∧ l.length ≤ 6 ∧ (∀ i, i < l.length → S.2.1 192 i = nI (l.getD i 0) ∧ S.2.1 194 i = nI (xcdl (l.getD i 0)))) n t S S' b (xparts t n 1 3 6 (j + 1) p l)) := by
  intro j
  induction j with
  | zero => ?_
  | succ j ih => ?_
  all_goals
    intro v0 k0
    intro p l S hl hX hT hM hrow hpos'
    have hM0 := hM
    obtain ⟨hp, h6, h4, h5, hr⟩ := hM
    have b4 := xtk_b t n p
    have hab := xta_b t hp
    have hle := hT.2.1
    have hxz : xtk t n p = 1 → S.2.1 187 7 = nI (xtz t n p) ∧ xtz t n p = xte t n p - xts t n p ∧ xtz t n p ≤ 12 ∧ 0 < xtz t n p := fun h1 => by
      have hx := xtk1 h1
      have ez : xtz t n p = xte t n p - xts t n p := by unfold xtz; rw [hx.2.2.1]
      exact ⟨by rw [ez]; exact (hr hx.1).1, ez, by omega, by omega⟩
    by_cases h1 : xtk t n p = 1
  · obtain ⟨r1', ez, z12, z0⟩ := hxz h1
    have hx := xtk1 h1
    rw [show xparts t n 1 3 6 (0 + 1) p l = .error (3, xts t n p) by rw [xparts, if_pos h1, if_pos (by omega)]]
    refine wp_aload_n dX12_words_15 rfl rfl (gv11_34 dX12_words_16 (xsh hX sh_187) h5 (wp_iconst (v := nI 1) dX12_words_19 rfl ?_))
    refine wn_icmp_ne dX12_words_20 rfl (by omega) (by omega) (fun c20 => absurd c20 (by omega)) (fun c20 => ?_)
    refine wp_iload_n dX12_words_23 rfl (wp_iload_n dX12_words_24 rfl ?_)
    refine wb_if_eq dX12_words_25 rfl (fun c25 => ?_) (fun c25 => absurd c25 (by decide))
    refine wp_bipush (v := nI 6) dX12_words_33 rfl ?_
    refine wn_icmp_eq dX12_words_35 rfl (by omega) (by omega) (fun c35 => ?_) (fun c35 => absurd c35 (by omega))
    exact wp_aload_n dX12_words_61 rfl rfl (wp_iconst (v := nI 3) dX12_words_62 rfl (wp_aload_n dX12_words_63 rfl rfl (gv11_28 dX12_words_64 (xsh hX sh_187) h6 (wp_iv3 dX12_words_67 k11_57 q_X12_wrong (by decide) (xsh hX sh_187) (by decide) (Nat.le_of_ble_eq_true rfl) (m_wrong 3 _ (d + 2) hX) (wb_ret dX12_words_70 rfl rfl ⟨false, rfl, ((xFl.rf S).SI (by omega)).SI (by omega), fun e he => (by cases he; exact ⟨rfl, xi (xI_same _ _ _ _) (Or.inr (by decide)), xI_same _ _ _ _⟩), fun p' v' he => (by cases he)⟩)))))
  · have hpos : 0 < l.length := by omega
    have EX : xparts t n 1 3 6 (0 + 1) p l = .ok (p, l) := by rw [xparts, if_neg h1, if_neg (by intro e; rw [e] at hpos; exact absurd hpos (by simp))]
    rw [EX]
    by_cases h3 : xtk t n p = 3
    · have F1 : xFl (fun i k => (i = 187 ∧ ((4 ≤ k ∧ k ≤ 10) ∨ k = 18)) ∨ i = 192 ∨ i = 194) S (xSI S 187 18 (nI l.length)) := (xFl.rf S).SI (by omega)
      obtain ⟨S2, g2, f2, t2⟩ := m_semi d (S := xSI S 187 18 (nI l.length)) hX (hT.fr F1 (by omega) (fun k => by omega)) (hM0.fr ((xFl.rf (P := fun i k => i = 187 ∧ k = 18) S).SI ⟨rfl, rfl⟩) (fun k _ _ => by omega) rfl) h3
      refine wp_aload_n dX12_words_15 rfl rfl (gv11_34 dX12_words_16 (xsh hX sh_187) h5 (wp_iconst (v := nI 1) dX12_words_19 rfl ?_))
      refine wn_icmp_ne dX12_words_20 rfl (by omega) (by omega) (fun c20 => ?_) (fun c20 => absurd c20 (by omega))
      refine wp_iload_n dX12_words_150 rfl ?_
      refine wb_if_eq dX12_words_151 rfl (fun c151 => ?_) (fun c151 => absurd c151 (by decide))
      exact wp_aload_n dX12_words_162 rfl rfl (wp_iload_n dX12_words_163 rfl (p11_82 dX12_words_164 (xsh hX sh_187) (wp_aload_n dX12_words_167 rfl rfl (wp_iv1 dX12_words_168 k11_131 q_X12_semi (by decide) (xsh hX sh_187) (by decide) (Nat.le_of_ble_eq_true rfl) g2 (wb_ret dX12_words_171 rfl rfl ⟨true, rfl, F1.tt (f2.mono (fun i k h => by omega)), fun e he => (by cases he), fun p' v' he => (by cases he; exact ⟨fun _ => ⟨rfl, (f2.i (xi rfl (Or.inr (by decide))) (by omega)), t2, f2.i (xI_same _ _ _ _) (by omega), hpos, by omega, fun i hi => ⟨f2.i (xi (hrow i hi).1 (Or.inl (by decide))) (by omega), f2.i (xi (hrow i hi).2 (Or.inl (by decide))) (by omega)⟩⟩, fun q => absurd h3 q⟩)⟩)))))
    · have F1 : xFl (fun i k => (i = 187 ∧ ((4 ≤ k ∧ k ≤ 10) ∨ k = 18)) ∨ i = 192 ∨ i = 194) S (xSI S 187 18 (nI l.length)) := (xFl.rf S).SI (by omega)
      have g2 := m_semi_no d (S := xSI S 187 18 (nI l.length)) hX (hT.fr F1 (by omega) (fun k => by omega)) (hM0.fr ((xFl.rf (P := fun i k => i = 187 ∧ k = 18) S).SI ⟨rfl, rfl⟩) (fun k _ _ => by omega) rfl) h3
      refine wp_aload_n dX12_words_15 rfl rfl (gv11_34 dX12_words_16 (xsh hX sh_187) h5 (wp_iconst (v := nI 1) dX12_words_19 rfl ?_))
      refine wn_icmp_ne dX12_words_20 rfl (by omega) (by omega) (fun c20 => ?_) (fun c20 => absurd c20 (by omega))
      refine wp_iload_n dX12_words_150 rfl ?_
      refine wb_if_eq dX12_words_151 rfl (fun c151 => ?_) (fun c151 => absurd c151 (by decide))
      exact wp_aload_n dX12_words_162 rfl rfl (wp_iload_n dX12_words_163 rfl (p11_82 dX12_words_164 (xsh hX sh_187) (wp_aload_n dX12_words_167 rfl rfl (wp_iv1 dX12_words_168 k11_131 q_X12_semi (by decide) (xsh hX sh_187) (by decide) (Nat.le_of_ble_eq_true rfl) g2 (wb_ret dX12_words_171 rfl rfl ⟨false, rfl, (F1.SI (by omega)).SI (by omega), fun e he => (by cases he), fun p' v' he => (by cases he; exact ⟨fun q => absurd q h3, fun _ => ⟨rfl, xi (xI_same _ _ _ _) (Or.inr (by decide)), xI_same _ _ _ _⟩⟩)⟩)))))
  · obtain ⟨r1', ez, z12, z0⟩ := hxz h1
    have hx := xtk1 h1
    by_cases hbad : xtz t n p < 1 ∨ 3 < xtz t n p
    · rw [show xparts t n 1 3 6 (j + 1 + 1) p l = .error (3, xts t n p) by rw [xparts, if_pos h1, if_pos (by omega)]]
      refine wp_aload_n dX12_words_15 rfl rfl (gv11_34 dX12_words_16 (xsh hX sh_187) h5 (wp_iconst (v := nI 1) dX12_words_19 rfl ?_))
      refine wn_icmp_ne dX12_words_20 rfl (by omega) (by omega) (fun c20 => absurd c20 (by omega)) (fun c20 => ?_)
      refine wp_iload_n dX12_words_23 rfl (wp_iload_n dX12_words_24 rfl ?_)
      refine wb_if_eq dX12_words_25 rfl (fun c25 => ?_) (fun c25 => absurd c25 (by decide))
      refine wp_bipush (v := nI 6) dX12_words_33 rfl ?_
      refine wn_icmp_eq dX12_words_35 rfl (by omega) (by omega) (fun c35 => absurd c35 (by omega)) (fun c35 => ?_)
      refine wp_iload_n dX12_words_38 rfl ?_
      refine wb_if_eq dX12_words_39 rfl (fun c39 => ?_) (fun c39 => absurd c39 (by decide))
      refine wp_aload_n dX12_words_53 rfl rfl (gv11_31 dX12_words_54 (xsh hX sh_187) r1' (wp_iconst (v := nI 3) dX12_words_57 rfl ?_))
      refine wn_icmp_le dX12_words_58 rfl (by omega) (by omega) (fun c58 => absurd c58 (by omega)) (fun c58 => ?_)
      exact wp_aload_n dX12_words_61 rfl rfl (wp_iconst (v := nI 3) dX12_words_62 rfl (wp_aload_n dX12_words_63 rfl rfl (gv11_28 dX12_words_64 (xsh hX sh_187) h6 (wp_iv3 dX12_words_67 k11_57 q_X12_wrong (by decide) (xsh hX sh_187) (by decide) (Nat.le_of_ble_eq_true rfl) (m_wrong 3 _ (d + 2) hX) (wb_ret dX12_words_70 rfl rfl ⟨false, rfl, ((xFl.rf S).SI (by omega)).SI (by omega), fun e he => (by cases he; exact ⟨rfl, xi (xI_same _ _ _ _) (Or.inr (by decide)), xI_same _ _ _ _⟩), fun p' v' he => (by cases he)⟩)))))
    · rw [show xparts t n 1 3 6 (j + 1 + 1) p l = xparts t n 1 3 6 (j + 1) (xta t n p) (l ++ [xwd t (xts t n p) (xtz t n p)]) by rw [xparts, if_pos h1, if_neg (by omega)]]
      have F1 : xFl (fun i k => (i = 187 ∧ ((4 ≤ k ∧ k ≤ 10) ∨ k = 18)) ∨ i = 192 ∨ i = 194) S (xSI (xSI S 192 l.length (nI (xwd t (xts t n p) (xtz t n p)))) 194 l.length (nI (xtz t n p))) := ((xFl.rf S).SI (by omega)).SI (by omega)
      have T1 := hT.fr F1 (by omega) (fun k => by omega)
      obtain ⟨S2, g2, f2, t2⟩ := m_next (d + 1) (S := xSI (xSI S 192 l.length (nI (xwd t (xts t n p) (xtz t n p)))) 194 l.length (nI (xtz t n p))) hX T1 (xi (xi h4 (Or.inl (by decide))) (Or.inl (by decide))) hab.2.1
      have F2 : xFl (fun i k => (i = 187 ∧ ((4 ≤ k ∧ k ≤ 10) ∨ k = 18)) ∨ i = 192 ∨ i = 194) S S2 := F1.tt (f2.mono (fun a k h => by omega))
      have X2 := F2.XC hX
      refine wp_aload_n dX12_words_15 rfl rfl (gv11_34 dX12_words_16 (xsh hX sh_187) h5 (wp_iconst (v := nI 1) dX12_words_19 rfl ?_))
      refine wn_icmp_ne dX12_words_20 rfl (by omega) (by omega) (fun c20 => absurd c20 (by omega)) (fun c20 => ?_)
      refine wp_iload_n dX12_words_23 rfl (wp_iload_n dX12_words_24 rfl ?_)
      refine wb_if_eq dX12_words_25 rfl (fun c25 => ?_) (fun c25 => absurd c25 (by decide))
      refine wp_bipush (v := nI 6) dX12_words_33 rfl ?_
      refine wn_icmp_eq dX12_words_35 rfl (by omega) (by omega) (fun c35 => absurd c35 (by omega)) (fun c35 => ?_)
      refine wp_iload_n dX12_words_38 rfl ?_
      refine wb_if_eq dX12_words_39 rfl (fun c39 => ?_) (fun c39 => absurd c39 (by decide))
      refine wp_aload_n dX12_words_53 rfl rfl (gv11_31 dX12_words_54 (xsh hX sh_187) r1' (wp_iconst (v := nI 3) dX12_words_57 rfl ?_))
      refine wn_icmp_le dX12_words_58 rfl (by omega) (by omega) (fun c58 => ?_) (fun c58 => absurd c58 (by omega))
      refine wp_iconst (v := nI 0) dX12_words_71 rfl (wp_istore_n dX12_words_72 ⟨Nat.le_of_ble_eq_true rfl, Or.inr rfl⟩ rfl (wp_iconst (v := nI 0) dX12_words_73 rfl (wp_istore dX12_words_74 ⟨Nat.le_of_ble_eq_true rfl, Or.inr rfl⟩ rfl ?_)))
      refine words_in hX hT hM0 h1 (by omega) (xtz t n p) 0 (by omega) ?_
      refine wp_iload_n dX12_words_109 rfl ?_
      refine wb_if_eq dX12_words_110 rfl (fun c110 => ?_) (fun c110 => absurd c110 (by decide))
      refine wp_aload_n dX12_words_123 rfl rfl (g11_113 dX12_words_124 (xsh hX sh_187) (xrr hX r187_24) (wp_iload_n dX12_words_127 rfl (wp_iload_n dX12_words_128 rfl (wn_iastore dX12_words_129 (xsh hX sh_192) rfl (by omega) (by decide) (wp_aload_n dX12_words_130 rfl rfl (g11_119 dX12_words_131 (xsh hX sh_187) (xrr hX r187_26) (wp_iload_n dX12_words_134 rfl (wp_aload_n dX12_words_135 rfl rfl (gv11_31 dX12_words_136 (xsh hX sh_187) (xi r1' (Or.inl (by decide))) (wn_iastore dX12_words_139 (xsh hX sh_194) rfl (by omega) (by decide) (wp_iinc dX12_words_140 rfl (nI_1 _) ⟨Nat.le_of_ble_eq_true rfl, Or.inr rfl⟩ rfl (wp_aload_n dX12_words_143 rfl rfl (wp_iv1 dX12_words_144 k11_65 q_X12_next (by decide) (xsh hX sh_187) (by decide) (Nat.le_of_ble_eq_true rfl) g2 (wp_goto dX12_words_147 rfl ?_))))))))))))))
      refine wp_locals (ls' := [.ref 187, .int (xB false), .int (nI (l ++ [xwd t (xts t n p) (xtz t n p)]).length), .int (nI (xwd t (xts t n p) (xtz t n p))), .int (nI (xtz t n p))]) (by rw [List.length_append]; rfl) ?_
      refine (ih _ _ (xta t n p) (l ++ [xwd t (xts t n p) (xtz t n p)]) S2 (by rw [List.length_append, List.length_singleton]; omega) X2 (hT.fr F2 (by omega) (fun k => by omega)) t2 ?_ (by rw [List.length_append, List.length_singleton]; omega)).mono ?_
      · intro i hi
        rw [List.length_append, List.length_singleton] at hi
        rcases Nat.lt_or_ge i l.length with q | q
        · rw [f2.2.2 192 i (by omega), f2.2.2 194 i (by omega), xga q]
          exact ⟨xi (xi (hrow i q).1 (Or.inr (by omega))) (Or.inl (by decide)), xi (xi (hrow i q).2 (Or.inl (by decide))) (Or.inr (by omega))⟩
        · rw [show i = l.length by omega, f2.2.2 192 _ (by omega), f2.2.2 194 _ (by omega), xgb, xcdl_wd (by omega) (fun i hi => hx.2.2.2 _ (by omega) (by omega))]
          exact ⟨xi (xI_same _ _ _ _) (Or.inl (by decide)), xI_same _ _ _ _⟩
      · rintro r S' ⟨k, e1, e2, e3, e4⟩
        refine ⟨k, e1, F2.tt e2, e3, fun p' l' he => ?_⟩
        obtain ⟨q1, q2⟩ := e4 p' l' he
        exact ⟨fun q => ⟨(q1 q).1, (q1 q).2.1.trans (f2.i (xi (xi rfl (Or.inl (by decide))) (Or.inl (by decide))) (by omega)), (q1 q).2.2⟩, q2⟩
  · have hpos : 0 < l.length := by rcases hpos' with q | q; exact q; exact absurd q h1
    have EX : xparts t n 1 3 6 (j + 1 + 1) p l = .ok (p, l) := by rw [xparts, if_neg h1, if_neg (by intro e; rw [e] at hpos; exact absurd hpos (by simp))]
    rw [EX]
    by_cases h3 : xtk t n p = 3
    · have F1 : xFl (fun i k => (i = 187 ∧ ((4 ≤ k ∧ k ≤ 10) ∨ k = 18)) ∨ i = 192 ∨ i = 194) S (xSI S 187 18 (nI l.length)) := (xFl.rf S).SI (by omega)
      obtain ⟨S2, g2, f2, t2⟩ := m_semi d (S := xSI S 187 18 (nI l.length)) hX (hT.fr F1 (by omega) (fun k => by omega)) (hM0.fr ((xFl.rf (P := fun i k => i = 187 ∧ k = 18) S).SI ⟨rfl, rfl⟩) (fun k _ _ => by omega) rfl) h3
      refine wp_aload_n dX12_words_15 rfl rfl (gv11_34 dX12_words_16 (xsh hX sh_187) h5 (wp_iconst (v := nI 1) dX12_words_19 rfl ?_))
      refine wn_icmp_ne dX12_words_20 rfl (by omega) (by omega) (fun c20 => ?_) (fun c20 => absurd c20 (by omega))
      refine wp_iload_n dX12_words_150 rfl ?_
      refine wb_if_eq dX12_words_151 rfl (fun c151 => ?_) (fun c151 => absurd c151 (by decide))
      exact wp_aload_n dX12_words_162 rfl rfl (wp_iload_n dX12_words_163 rfl (p11_82 dX12_words_164 (xsh hX sh_187) (wp_aload_n dX12_words_167 rfl rfl (wp_iv1 dX12_words_168 k11_131 q_X12_semi (by decide) (xsh hX sh_187) (by decide) (Nat.le_of_ble_eq_true rfl) g2 (wb_ret dX12_words_171 rfl rfl ⟨true, rfl, F1.tt (f2.mono (fun i k h => by omega)), fun e he => (by cases he), fun p' v' he => (by cases he; exact ⟨fun _ => ⟨rfl, (f2.i (xi rfl (Or.inr (by decide))) (by omega)), t2, f2.i (xI_same _ _ _ _) (by omega), hpos, by omega, fun i hi => ⟨f2.i (xi (hrow i hi).1 (Or.inl (by decide))) (by omega), f2.i (xi (hrow i hi).2 (Or.inl (by decide))) (by omega)⟩⟩, fun q => absurd h3 q⟩)⟩)))))
    · have F1 : xFl (fun i k => (i = 187 ∧ ((4 ≤ k ∧ k ≤ 10) ∨ k = 18)) ∨ i = 192 ∨ i = 194) S (xSI S 187 18 (nI l.length)) := (xFl.rf S).SI (by omega)
      have g2 := m_semi_no d (S := xSI S 187 18 (nI l.length)) hX (hT.fr F1 (by omega) (fun k => by omega)) (hM0.fr ((xFl.rf (P := fun i k => i = 187 ∧ k = 18) S).SI ⟨rfl, rfl⟩) (fun k _ _ => by omega) rfl) h3
      refine wp_aload_n dX12_words_15 rfl rfl (gv11_34 dX12_words_16 (xsh hX sh_187) h5 (wp_iconst (v := nI 1) dX12_words_19 rfl ?_))
      refine wn_icmp_ne dX12_words_20 rfl (by omega) (by omega) (fun c20 => ?_) (fun c20 => absurd c20 (by omega))
      refine wp_iload_n dX12_words_150 rfl ?_
      refine wb_if_eq dX12_words_151 rfl (fun c151 => ?_) (fun c151 => absurd c151 (by decide))
      exact wp_aload_n dX12_words_162 rfl rfl (wp_iload_n dX12_words_163 rfl (p11_82 dX12_words_164 (xsh hX sh_187) (wp_aload_n dX12_words_167 rfl rfl (wp_iv1 dX12_words_168 k11_131 q_X12_semi (by decide) (xsh hX sh_187) (by decide) (Nat.le_of_ble_eq_true rfl) g2 (wb_ret dX12_words_171 rfl rfl ⟨false, rfl, (F1.SI (by omega)).SI (by omega), fun e he => (by cases he), fun p' v' he => (by cases he; exact ⟨fun q => absurd q h3, fun _ => ⟨rfl, xi (xI_same _ _ _ _) (Or.inr (by decide)), xI_same _ _ _ _⟩⟩)⟩)))))
theorem m_words_0 {n p : Nat} {t : Nat → Nat} (d : Nat) {S : xS} (hX : XC S) (hT : xTxM S n t) (hM : xTM S n t p) : ∃ b S', xcall false (d + 3) j_X12_words [.ref 187, .int (xB false)] S (some (.int (xB b))) S' ∧ xFl (fun i k => (i = 187 ∧ ((4 ≤ k ∧ k ≤ 10) ∨ k = 18)) ∨ i = 192 ∨ i = 194) S S' ∧ xMO (fun S l => S.2.1 187 18 = nI l.length ∧ 0 < l.length ∧ l.length ≤ 6 ∧ (∀ i, i < l.length → S.2.1 192 i = nI (l.getD i 0) ∧ S.2.1 194 i = nI (xcdl (l.getD i 0)))) n t S S' b (xparts t n 1 3 6 (6 + 1) p []) := by
  have hM0 := hM
  obtain ⟨hp, h6, h4, h5, hr⟩ := hM
  have b4 := xtk_b t n p
  obtain ⟨r, S', h1, b, h2, h3⟩ := xcall_some (al := false) (d := d + 3) (ls := [.ref 187, .int (xB false), .float 0, .float 0, .float 0]) (S := S) (as := [.ref 187, .int (xB false)]) q_X12_words (by decide) rfl (Nat.le_of_ble_eq_true rfl) rfl
    (P := (fun r S' => ∃ b, r = some (.int (xB b)) ∧ xFl (fun i k => (i = 187 ∧ ((4 ≤ k ∧ k ≤ 10) ∨ k = 18)) ∨ i = 192 ∨ i = 194) S S' ∧ xMO (fun S l => S.2.1 187 18 = nI l.length ∧ 0 < l.length ∧ l.length ≤ 6 ∧ (∀ i, i < l.length → S.2.1 192 i = nI (l.getD i 0) ∧ S.2.1 194 i = nI (xcdl (l.getD i 0)))) n t S S' b (xparts t n 1 3 6 (6 + 1) p []))) (by
      by_cases h1 : xtk t n p = 1
      · refine wp_iconst (v := nI 0) dX12_words_0 rfl (wp_istore_n dX12_words_1 ⟨Nat.le_of_ble_eq_true rfl, Or.inr rfl⟩ rfl (wp_aload_n dX12_words_2 rfl rfl (gv11_34 dX12_words_3 (xsh hX sh_187) h5 (wp_iconst (v := nI 1) dX12_words_6 rfl ?_))))
        refine wn_icmp_eq dX12_words_7 rfl (by omega) (by omega) (fun c7 => ?_) (fun c7 => absurd c7 (by omega))
        exact words_loop_0 d 6 _ _ p [] S rfl hX hT hM0 (fun i hi => absurd hi (Nat.not_lt_zero i)) (Or.inr h1)
      · rw [show xparts t n 1 3 6 (6 + 1) p [] = .error (xfh t n p) by rw [xparts, if_neg h1, if_pos rfl]]
        refine wp_iconst (v := nI 0) dX12_words_0 rfl (wp_istore_n dX12_words_1 ⟨Nat.le_of_ble_eq_true rfl, Or.inr rfl⟩ rfl (wp_aload_n dX12_words_2 rfl rfl (gv11_34 dX12_words_3 (xsh hX sh_187) h5 (wp_iconst (v := nI 1) dX12_words_6 rfl ?_))))
        refine wn_icmp_eq dX12_words_7 rfl (by omega) (by omega) (fun c7 => absurd c7 (by omega)) (fun c7 => ?_)
        exact wp_aload_n dX12_words_10 rfl rfl (wp_iv1 dX12_words_11 k11_61 q_X12_cant (by decide) (xsh hX sh_187) (by decide) (Nat.le_of_ble_eq_true rfl) (m_cant (d + 1) hX hT hM0) (wb_ret dX12_words_14 rfl rfl ⟨false, rfl, ((xFl.rf S).SI (by omega)).SI (by omega), fun e he => (by cases he; exact ⟨rfl, xi (xI_same _ _ _ _) (Or.inr (by decide)), xI_same _ _ _ _⟩), fun p' v' he => (by cases he)⟩)))
  subst h2
  exact ⟨b, S', h1, h3⟩
