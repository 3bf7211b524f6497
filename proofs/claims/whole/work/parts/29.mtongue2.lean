/-! tongue of the reference -/
/-- what tongue writes, read or not read -/
def xFT (i k : Nat) : Prop := (i = 187 ∧ (k = 0 ∨ (2 ≤ k ∧ k ≤ 10) ∨ (12 ≤ k ∧ k ≤ 20))) ∨ (189 ≤ i ∧ i ≤ 194)
def xFE (i k : Nat) : Prop := (i = 187 ∧ (k = 0 ∨ (2 ≤ k ∧ k ≤ 10) ∨ (16 ≤ k ∧ k ≤ 20))) ∨ i = 190 ∨ i = 192 ∨ i = 194
theorem xFA_E (i k : Nat) (h : xFA i k) : xFE i k := by unfold xFA at h; unfold xFE; omega
theorem xFE_T (i k : Nat) (h : xFE i k) : xFT i k := by unfold xFE at h; unfold xFT; omega
def xTgM (S : xS) (v : xTg) : Prop :=
  (S.2.1 187 12 = nI v.1 ∧ v.1 < 2 ^ 26) ∧ (S.2.1 187 13 = nI v.2.1.length ∧ v.2.1.length ≤ 12 ∧ (∀ i, i < v.2.1.length → S.2.1 189 i = nI (v.2.1.getD i 0)) ∧ ∀ x ∈ v.2.1, 97 ≤ x ∧ x < 2 ^ 24) ∧
  (S.2.1 187 14 = nI v.2.2.1.length ∧ v.2.2.1.length ≤ 6 ∧ (∀ i, i < v.2.2.1.length → S.2.1 191 i = nI (v.2.2.1.getD i 0) ∧ S.2.1 193 i = nI (xcdl (v.2.2.1.getD i 0))) ∧ ∀ x ∈ v.2.2.1, 97 ≤ x ∧ x < 2 ^ 24) ∧ S.2.1 187 15 = nI v.2.2.2 ∧ v.2.2.2 < 3
abbrev xtws : List (List Nat) := [xw_vowels, xw_joined, xw_mute, xw_strong]
section XTXT
variable {V : Type} {t : Nat → Nat} {n f p seen c r : Nat} {ws : List (List Nat)} {rule : Nat → Nat → V → Except (Nat × Nat) (Nat × V)} {v : V}
theorem xtxt_none (h0 : ¬ xtk t n p = 0) (hw : xwh t n p ws 0 = none) : xtxt t n ws rule (f + 1) p seen c v = .error (xfh t n p) := by rw [xtxt, if_neg h0, hw]
theorem xtxt_two (h0 : ¬ xtk t n p = 0) (hw : xwh t n p ws 0 = some r) (hb : seen.testBit r = true) : xtxt t n ws rule (f + 1) p seen c v = .error (4, xts t n p) := by rw [xtxt, if_neg h0, hw]; simp only [hb, if_true]
theorem xtxt_err (h0 : ¬ xtk t n p = 0) (hw : xwh t n p ws 0 = some r) (hb : seen.testBit r = false) {e : Nat × Nat} (hR : rule r (xta t n p) v = .error e) : xtxt t n ws rule (f + 1) p seen c v = .error e := by rw [xtxt, if_neg h0, hw]; simp only [hb, hR, Bool.false_eq_true, if_false]
theorem xtxt_go (h0 : ¬ xtk t n p = 0) (hw : xwh t n p ws 0 = some r) (hb : seen.testBit r = false) {p' : Nat} {v' : V} (hR : rule r (xta t n p) v = .ok (p', v')) (h3 : xtk t n p' = 3) : xtxt t n ws rule (f + 1) p seen c v = xtxt t n ws rule f (xta t n p') (seen ||| 2 ^ r) (c + 1) v' := by rw [xtxt, if_neg h0, hw]; simp only [hb, hR, h3, Bool.false_eq_true, if_false, if_true]
theorem xtxt_bad (h0 : ¬ xtk t n p = 0) (hw : xwh t n p ws 0 = some r) (hb : seen.testBit r = false) {p' : Nat} {v' : V} (hR : rule r (xta t n p) v = .ok (p', v')) (h3 : ¬ xtk t n p' = 3) : xtxt t n ws rule (f + 1) p seen c v = .error (xfh t n p') := by rw [xtxt, if_neg h0, hw]; simp only [hb, hR, h3, Bool.false_eq_true, if_false]
end XTXT
theorem m_tgRule {n p seen : Nat} {t : Nat → Nat} {v : xTg} (d : Nat) {S : xS} (hX : XC S) (hT : xTxM S n t) (hM : xTM S n t p) (hs : S.2.1 187 20 = nI seen) (hs2 : seen < 2 ^ 31) (hV : xTgN S v) : ∃ b S', xcall false (d + 4) j_X12_tongueRule [.ref 187] S (some (.int (xB b))) S' ∧ xFl xFA S S' ∧ (xwh t n p xtws 0 = none → b = false ∧ S'.2.1 187 9 = nI (xfh t n p).1 ∧ S'.2.1 187 10 = nI (xfh t n p).2) ∧ (∀ r, xwh t n p xtws 0 = some r → seen.testBit r = true → b = false ∧ S'.2.1 187 9 = nI 4 ∧ S'.2.1 187 10 = nI (xts t n p)) ∧ (∀ r, xwh t n p xtws 0 = some r → seen.testBit r = false → xMO xTgN n t S S' b (xtrule t n r (xta t n p) v) ∧ S'.2.1 187 20 = nI (seen ||| 2 ^ r)) := by
  cases h0 : xiw xw_vowels n t p with
  | true =>
    have e : xwh t n p xtws 0 = some 0 := by simp only [xwh, h0, if_true, Bool.false_eq_true, if_false]
    rw [e]
    cases hb : seen.testBit 0 with
    | true =>
      obtain ⟨S', g, f, a1, a2⟩ := m_tgRule_two0 d hX hT hM hs hs2 hV h0 hb
      exact ⟨false, S', g, f, fun q => (by cases q), fun r q w => (by cases q; exact ⟨rfl, a1, a2⟩), fun r q w => (by cases q; rw [hb] at w; cases w)⟩
    | false =>
      obtain ⟨b, S', g, f, a1, a2⟩ := m_tgRule0 d hX hT hM hs hs2 hV h0 hb
      exact ⟨b, S', g, f, fun q => (by cases q), fun r q w => (by cases q; rw [hb] at w; cases w), fun r q w => (by cases q; exact ⟨a1, a2⟩)⟩
  | false =>
    cases h1 : xiw xw_joined n t p with
    | true =>
      have e : xwh t n p xtws 0 = some 1 := by simp only [xwh, h0, h1, if_true, Bool.false_eq_true, if_false]
      rw [e]
      cases hb : seen.testBit 1 with
      | true =>
        obtain ⟨S', g, f, a1, a2⟩ := m_tgRule_two1 d hX hT hM hs hs2 hV h0 h1 hb
        exact ⟨false, S', g, f, fun q => (by cases q), fun r q w => (by cases q; exact ⟨rfl, a1, a2⟩), fun r q w => (by cases q; rw [hb] at w; cases w)⟩
      | false =>
        obtain ⟨b, S', g, f, a1, a2⟩ := m_tgRule1 d hX hT hM hs hs2 hV h0 h1 hb
        exact ⟨b, S', g, f, fun q => (by cases q), fun r q w => (by cases q; rw [hb] at w; cases w), fun r q w => (by cases q; exact ⟨a1, a2⟩)⟩
    | false =>
      cases h2 : xiw xw_mute n t p with
      | true =>
        have e : xwh t n p xtws 0 = some 2 := by simp only [xwh, h0, h1, h2, if_true, Bool.false_eq_true, if_false]
        rw [e]
        cases hb : seen.testBit 2 with
        | true =>
          obtain ⟨S', g, f, a1, a2⟩ := m_tgRule_two2 d hX hT hM hs hs2 hV h0 h1 h2 hb
          exact ⟨false, S', g, f, fun q => (by cases q), fun r q w => (by cases q; exact ⟨rfl, a1, a2⟩), fun r q w => (by cases q; rw [hb] at w; cases w)⟩
        | false =>
          obtain ⟨b, S', g, f, a1, a2⟩ := m_tgRule2 d hX hT hM hs hs2 hV h0 h1 h2 hb
          exact ⟨b, S', g, f, fun q => (by cases q), fun r q w => (by cases q; rw [hb] at w; cases w), fun r q w => (by cases q; exact ⟨a1, a2⟩)⟩
      | false =>
        cases h3 : xiw xw_strong n t p with
        | true =>
          have e : xwh t n p xtws 0 = some 3 := by simp only [xwh, h0, h1, h2, h3, if_true, Bool.false_eq_true, if_false]
          rw [e]
          cases hb : seen.testBit 3 with
          | true =>
            obtain ⟨S', g, f, a1, a2⟩ := m_tgRule_two3 d hX hT hM hs hs2 hV h0 h1 h2 h3 hb
            exact ⟨false, S', g, f, fun q => (by cases q), fun r q w => (by cases q; exact ⟨rfl, a1, a2⟩), fun r q w => (by cases q; rw [hb] at w; cases w)⟩
          | false =>
            obtain ⟨b, S', g, f, a1, a2⟩ := m_tgRule3 d hX hT hM hs hs2 hV h0 h1 h2 h3 hb
            exact ⟨b, S', g, f, fun q => (by cases q), fun r q w => (by cases q; rw [hb] at w; cases w), fun r q w => (by cases q; exact ⟨a1, a2⟩)⟩
        | false =>
          have e : xwh t n p xtws 0 = none := by simp only [xwh, h0, h1, h2, h3, Bool.false_eq_true, if_false]
          rw [e]
          obtain ⟨S', g, f, a1, a2⟩ := m_tgRule_none d hX hT hM hs hs2 hV h0 h1 h2 h3
          exact ⟨false, S', g, f, fun _ => ⟨rfl, a1, a2⟩, fun r q => (by cases q), fun r q => (by cases q)⟩
theorem mt_loop {n d : Nat} {t : Nat → Nat} {Q : Option Value → xS → Prop} : ∀ (f p seen c : Nat) (v : xTg) (S : xS), f + c = 5 → c = xcb seen 4 → seen < 2 ^ 4 → XC S → xTxM S n t → xTM S n t p → xTgN S v → S.2.1 187 20 = nI seen → S.2.1 187 9 = nI 0 → (∀ e S', (xtxt t n xtws (xtrule t n) f p seen c v) = .error e → xFl xFA S S' → S'.2.1 187 9 = nI e.1 → S'.2.1 187 10 = nI e.2 → Q (some (.int (-1 - nI e.2))) S') → (∀ c' v' S', (xtxt t n xtws (xtrule t n) f p seen c v) = .ok (c', v') → xFl xFA S S' → S'.2.1 187 9 = nI 0 → xTgN S' v' → Wp false (d + 5) 11 cX12_tongue (some .int) false 73 [.ref 187, .int (nI c'), .float 0] [] S' Q) → Wp false (d + 5) 11 cX12_tongue (some .int) false 46 [.ref 187, .int (nI c), .float 0] [] S Q := by
  intro f
  induction f with
  | zero =>
    intro p seen c v S hf hc
    have := xcb_le seen 4
    omega
  | succ f ih =>
    intro p seen c v S hf hc hseen hX hT hM hV hs h9 ke ko
    have hcm : c ≤ 4 := by have := xcb_le seen 4; omega
    have hM0 := hM
    obtain ⟨hp, h6, h4, h5, hr⟩ := hM
    have b4 := xtk_b t n p
    by_cases h0 : xtk t n p = 0
    · refine wp_locals rfl ?_
      refine wp_aload_n dX12_tongue_46 rfl rfl (gv11_34 dX12_tongue_47 (xsh hX sh_187) h5 ?_)
      refine wn_if_eq dX12_tongue_50 rfl (by omega) (fun c50 => ?_) (fun c50 => absurd c50 (by omega))
      exact ko c v S (by rw [xtxt, if_pos h0]) (xFl.rf S) h9 hV
    · have hs31 : seen < 2 ^ 31 := by omega
      obtain ⟨b, S1, g, f1, a1, a2, a3⟩ := m_tgRule d hX hT hM0 hs hs31 hV
      have X1 := f1.XC hX
      have bad : ∀ e : Nat × Nat, b = false → S1.2.1 187 10 = nI e.2 → Q (some (.int (-1 - nI e.2))) S1 → Wp false (d + 5) 11 cX12_tongue (some .int) false 46 [.ref 187, .int (nI c), .float 0] [] S Q := by
        intro e hb h10 q
        subst hb
        refine wp_aload_n dX12_tongue_46 rfl rfl (gv11_34 dX12_tongue_47 (xsh hX sh_187) h5 ?_)
        refine wn_if_eq dX12_tongue_50 rfl (by omega) (fun c50 => absurd c50 (by omega)) (fun c50 => ?_)
        refine wp_aload_n dX12_tongue_53 rfl rfl (wp_iv1 dX12_tongue_54 k11_88 q_X12_tongueRule (by decide) (xsh hX sh_187) (by decide) (Nat.le_of_ble_eq_true rfl) g ?_)
        refine wb_if_ne dX12_tongue_57 rfl (fun c57 => absurd c57 (by decide)) (fun c57 => ?_)
        exact wp_iconst (v := -1) dX12_tongue_60 rfl (wp_aload_n dX12_tongue_61 rfl rfl (gv11_54 dX12_tongue_62 (xsh X1 sh_187) h10 (wv_isub dX12_tongue_65 rfl (wp_ireturn dX12_tongue_66 rfl rfl q))))
      cases hw : xwh t n p xtws 0 with
      | none =>
        obtain ⟨q1, q2, q3⟩ := a1 hw
        rw [xtxt_none h0 hw] at ke
        exact bad _ q1 q3 (ke _ S1 rfl f1 q2 q3)
      | some r =>
        have hrl := xwh_lt _ _ hw
        have hr4 : r < 4 := hrl.2
        cases hb : seen.testBit r with
        | true =>
          obtain ⟨q1, q2, q3⟩ := a2 r hw hb
          rw [xtxt_two h0 hw hb] at ke
          exact bad (4, xts t n p) q1 q3 (ke _ S1 rfl f1 q2 q3)
        | false =>
          obtain ⟨q1, q2⟩ := a3 r hw hb
          cases hR : xtrule t n r (xta t n p) v with
          | error e =>
            obtain ⟨w1, w2, w3⟩ := q1.1 e hR
            rw [xtxt_err h0 hw hb hR] at ke
            exact bad e w1 w3 (ke _ S1 rfl f1 w2 w3)
          | ok q =>
            obtain ⟨p', v'⟩ := q
            obtain ⟨w1, w2⟩ := q1.2 p' v' hR
            by_cases h3 : xtk t n p' = 3
            · obtain ⟨u1, u2, u3, u4⟩ := w1 h3
              subst u1
              rw [xtxt_go h0 hw hb hR h3] at ke ko
              have K2 : xcb (seen ||| 2 ^ r) 4 = c + 1 := by rw [xcb_or hb, if_pos hr4, ← hc]
              have hlt : seen ||| 2 ^ r < 2 ^ 4 := Nat.or_lt_two_pow hseen (Nat.pow_lt_pow_right (by decide) hr4)
              have T1 := hT.fr f1 (by unfold xFA; omega) (fun k => by unfold xFA; omega)
              refine wp_aload_n dX12_tongue_46 rfl rfl (gv11_34 dX12_tongue_47 (xsh hX sh_187) h5 ?_)
              refine wn_if_eq dX12_tongue_50 rfl (by omega) (fun c50 => absurd c50 (by omega)) (fun c50 => ?_)
              refine wp_aload_n dX12_tongue_53 rfl rfl (wp_iv1 dX12_tongue_54 k11_88 q_X12_tongueRule (by decide) (xsh hX sh_187) (by decide) (Nat.le_of_ble_eq_true rfl) g ?_)
              refine wb_if_ne dX12_tongue_57 rfl (fun c57 => ?_) (fun c57 => absurd c57 (by decide))
              exact wp_iinc dX12_tongue_67 rfl (nI_1 _) ⟨Nat.le_of_ble_eq_true rfl, Or.inr rfl⟩ rfl (wp_goto dX12_tongue_70 rfl (ih (xta t n p') (seen ||| 2 ^ r) (c + 1) v' S1 (by omega) K2.symm hlt X1 T1 u3 u4 q2 (u2.trans h9) (fun e S' a b1 b2 b3 => ke e S' a (f1.tt b1) b2 b3) (fun c' v2 S' a b1 b2 b3 => ko c' v2 S' a (f1.tt b1) b2 b3)))
            · obtain ⟨u1, u2, u3⟩ := w2 h3
              rw [xtxt_bad h0 hw hb hR h3] at ke
              exact bad _ u1 u3 (ke _ S1 rfl f1 u2 u3)
theorem mt_copy1 {d : Nat} {Q : Option Value → xS → Prop} {x : Int32} : ∀ (j i : Nat) (S : xS), i + j = 12 → XC S → (∀ k, k < i → S.2.1 189 k = S.2.1 190 k) → (∀ S' z, xFl (fun i _ => i = 189) S S' → (∀ k, k < 12 → S'.2.1 189 k = S'.2.1 190 k) → Wp false (d + 5) 11 cX12_tongue (some .int) false 131 [.ref 187, .int x, .int z] [] S' Q) → Wp false (d + 5) 11 cX12_tongue (some .int) false 107 [.ref 187, .int x, .int (nI i)] [] S Q := by
  intro j
  induction j with
  | zero =>
    intro i S hi hX hc k
    have : i = 12 := by omega
    subst this
    refine wp_iload_n dX12_tongue_107 rfl (wp_bipush (v := nI 12) dX12_tongue_108 rfl ?_)
    refine wn_icmp_ge dX12_tongue_110 rfl (by omega) (by omega) (fun c110 => ?_) (fun c110 => absurd c110 (by omega))
    exact k S _ (xFl.rf S) hc
  | succ j ih =>
    intro i S hi hX hc k
    have F1 : xFl (fun i _ => i = 189) S (xSI S 189 i (S.2.1 190 i)) := (xFl.rf S).SI rfl
    refine wp_iload_n dX12_tongue_107 rfl (wp_bipush (v := nI 12) dX12_tongue_108 rfl ?_)
    refine wn_icmp_ge dX12_tongue_110 rfl (by omega) (by omega) (fun c110 => absurd c110 (by omega)) (fun c110 => ?_)
    refine wp_aload_n dX12_tongue_113 rfl rfl (g11_103 dX12_tongue_114 (xsh hX sh_187) (xrr hX r187_21) (wp_iload_n dX12_tongue_117 rfl (wp_aload_n dX12_tongue_118 rfl rfl (g11_107 dX12_tongue_119 (xsh hX sh_187) (xrr hX r187_22) (wp_iload_n dX12_tongue_122 rfl (wn_iaload dX12_tongue_123 (xsh hX sh_190) rfl (by omega) (by decide) rfl (wn_iastore dX12_tongue_124 (xsh hX sh_189) rfl (by omega) (by decide) (wp_iinc dX12_tongue_125 rfl (nI_1 _) ⟨Nat.le_of_ble_eq_true rfl, Or.inr rfl⟩ rfl (wp_goto dX12_tongue_128 rfl ?_)))))))))
    refine ih (i + 1) (xSI S 189 i (S.2.1 190 i)) (by omega) hX (fun q hq => ?_) (fun S' z f h => k S' z (F1.tt f) h)
    rw [xI_ne _ _ (a := 189) (b := 190) (Or.inl (by decide))]
    rcases Nat.lt_or_ge q i with w | w
    · rw [xI_ne _ _ (Or.inr (by omega))]; exact hc q w
    · rw [show q = i by omega, xI_same]
theorem mt_copy2 {d : Nat} {Q : Option Value → xS → Prop} {x : Int32} : ∀ (j i : Nat) (S : xS), i + j = 6 → XC S → (∀ k, k < i → S.2.1 191 k = S.2.1 192 k ∧ S.2.1 193 k = S.2.1 194 k) → (∀ S' z, xFl (fun i _ => i = 191 ∨ i = 193) S S' → (∀ k, k < 6 → S'.2.1 191 k = S'.2.1 192 k ∧ S'.2.1 193 k = S'.2.1 194 k) → Wp false (d + 5) 11 cX12_tongue (some .int) false 169 [.ref 187, .int x, .int z] [] S' Q) → Wp false (d + 5) 11 cX12_tongue (some .int) false 133 [.ref 187, .int x, .int (nI i)] [] S Q := by
  intro j
  induction j with
  | zero =>
    intro i S hi hX hc k
    have : i = 6 := by omega
    subst this
    refine wp_iload_n dX12_tongue_133 rfl (wp_bipush (v := nI 6) dX12_tongue_134 rfl ?_)
    refine wn_icmp_ge dX12_tongue_136 rfl (by omega) (by omega) (fun c136 => ?_) (fun c136 => absurd c136 (by omega))
    exact k S _ (xFl.rf S) hc
  | succ j ih =>
    intro i S hi hX hc k
    have e2 : (xSI S 191 i (S.2.1 192 i)).2.1 194 i = S.2.1 194 i := xI_ne _ _ (Or.inl (by decide))
    have F1 : xFl (fun i _ => i = 191 ∨ i = 193) S (xSI (xSI S 191 i (S.2.1 192 i)) 193 i (S.2.1 194 i)) := ((xFl.rf S).SI (Or.inl rfl)).SI (Or.inr rfl)
    refine wp_iload_n dX12_tongue_133 rfl (wp_bipush (v := nI 6) dX12_tongue_134 rfl ?_)
    refine wn_icmp_ge dX12_tongue_136 rfl (by omega) (by omega) (fun c136 => absurd c136 (by omega)) (fun c136 => ?_)
    refine wp_aload_n dX12_tongue_139 rfl rfl (g11_110 dX12_tongue_140 (xsh hX sh_187) (xrr hX r187_23) (wp_iload_n dX12_tongue_143 rfl (wp_aload_n dX12_tongue_144 rfl rfl (g11_113 dX12_tongue_145 (xsh hX sh_187) (xrr hX r187_24) (wp_iload_n dX12_tongue_148 rfl (wn_iaload dX12_tongue_149 (xsh hX sh_192) rfl (by omega) (by decide) rfl (wn_iastore dX12_tongue_150 (xsh hX sh_191) rfl (by omega) (by decide) (wp_aload_n dX12_tongue_151 rfl rfl (g11_116 dX12_tongue_152 (xsh hX sh_187) (xrr hX r187_25) (wp_iload_n dX12_tongue_155 rfl (wp_aload_n dX12_tongue_156 rfl rfl (g11_119 dX12_tongue_157 (xsh hX sh_187) (xrr hX r187_26) (wp_iload_n dX12_tongue_160 rfl (wn_iaload dX12_tongue_161 (xsh hX sh_194) rfl (by omega) (by decide) e2 (wn_iastore dX12_tongue_162 (xsh hX sh_193) rfl (by omega) (by decide) (wp_iinc dX12_tongue_163 rfl (nI_1 _) ⟨Nat.le_of_ble_eq_true rfl, Or.inr rfl⟩ rfl (wp_goto dX12_tongue_166 rfl ?_)))))))))))))))))
    refine ih (i + 1) (xSI (xSI S 191 i (S.2.1 192 i)) 193 i (S.2.1 194 i)) (by omega) hX (fun q hq => ?_) (fun S' z f h => k S' z (F1.tt f) h)
    rw [xI_ne _ _ (a := 193) (b := 192) (Or.inl (by decide)), xI_ne _ _ (a := 191) (b := 192) (Or.inl (by decide)), xI_ne _ _ (a := 193) (b := 194) (Or.inl (by decide)), xI_ne _ _ (a := 191) (b := 194) (Or.inl (by decide)), xI_ne _ _ (a := 193) (b := 191) (Or.inl (by decide))]
    rcases Nat.lt_or_ge q i with w | w
    · rw [xI_ne _ _ (Or.inr (by omega)), xI_ne _ _ (a := 193) (Or.inr (by omega)), xI_ne _ _ (a := 191) (b := 193) (Or.inl (by decide))]; exact hc q w
    · rw [show q = i by omega, xI_same, xI_same]; exact ⟨rfl, rfl⟩
