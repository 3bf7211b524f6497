/-! yard of the reference -/
theorem xym_inj : ∀ r, r < 8 → ∀ q, q < 8 → decide (xym r = xym q) = decide (r = q) := by decide
theorem xym_lt : ∀ r, r < 8 → xym r < 8 := by decide
theorem xym_or {sm seen r : Nat} (h : ∀ q, q < 8 → sm.testBit (xym q) = seen.testBit q) (hr : r < 8) : ∀ q, q < 8 → (sm ||| 2 ^ xym r).testBit (xym q) = (seen ||| 2 ^ r).testBit q := by
  intro q hq
  rw [Nat.testBit_or, Nat.testBit_or, h q hq, Nat.testBit_two_pow, Nat.testBit_two_pow, xym_inj r hr q hq]
def xFYE (i k : Nat) : Prop := (i = 187 ∧ (k = 0 ∨ (2 ≤ k ∧ k ≤ 10) ∨ k = 20 ∨ k = 50)) ∨ i = 209 ∨ i = 211
def xFYT (i k : Nat) : Prop := (i = 187 ∧ (k = 0 ∨ (2 ≤ k ∧ k ≤ 10) ∨ k = 20 ∨ k = 49 ∨ k = 50)) ∨ (208 ≤ i ∧ i ≤ 211)
theorem xFY_E (i k : Nat) (h : xFY i k) : xFYE i k := by unfold xFY at h; unfold xFYE; omega
theorem xFYE_T (i k : Nat) (h : xFYE i k) : xFYT i k := by unfold xFYE at h; unfold xFYT; omega
theorem m_yRule {n p seen sm : Nat} {t : Nat → Nat} {v : xYd} (d : Nat) {S : xS} (hX : XC S) (hT : xTxM S n t) (hM : xTM S n t p) (hs : S.2.1 187 20 = nI sm) (hs2 : sm < 2 ^ 31) (hss : ∀ q, q < 8 → sm.testBit (xym q) = seen.testBit q) (hV : xYdN S v) : ∃ b S', xcall false (d + 4) j_X12_yardRule [.ref 187] S (some (.int (xB b))) S' ∧ xFl xFY S S' ∧ (xwh t n p xytws 0 = none → b = false ∧ S'.2.1 187 9 = nI (xfh t n p).1 ∧ S'.2.1 187 10 = nI (xfh t n p).2) ∧ (∀ r, xwh t n p xytws 0 = some r → seen.testBit r = true → b = false ∧ S'.2.1 187 9 = nI 4 ∧ S'.2.1 187 10 = nI (xts t n p)) ∧ (∀ r, xwh t n p xytws 0 = some r → seen.testBit r = false → xMO xYdN n t S S' b (xyrule t n r (xta t n p) v) ∧ S'.2.1 187 20 = nI (sm ||| 2 ^ xym r)) := by
  cases h0 : xiw xw_count n t p with
  | true =>
    have e : xwh t n p xytws 0 = some 0 := by simp only [xytws, xwh, h0, if_true, Bool.false_eq_true, if_false]
    rw [e]
    have hbm : sm.testBit 0 = seen.testBit 0 := hss 0 (by decide)
    cases hb : seen.testBit 0 with
    | true =>
      obtain ⟨S', g, f, a1, a2⟩ := m_yr_two0 d hX hT hM hs hs2 h0 (hbm.trans hb)
      exact ⟨false, S', g, f, fun q => (by cases q), fun r q w => (by cases q; exact ⟨rfl, a1, a2⟩), fun r q w => (by cases q; rw [hb] at w; cases w)⟩
    | false =>
      obtain ⟨b, S', g, f, a1, a2⟩ := m_yr0 d hX hT hM hs hs2 hV h0 (hbm.trans hb)
      exact ⟨b, S', g, f, fun q => (by cases q), fun r q w => (by cases q; rw [hb] at w; cases w), fun r q w => (by cases q; exact ⟨a1, a2⟩)⟩
  | false =>
    cases h1 : xiw xw_by n t p with
    | true =>
      have e : xwh t n p xytws 0 = some 1 := by simp only [xytws, xwh, h0, h1, if_true, Bool.false_eq_true, if_false]
      rw [e]
      have hbm : sm.testBit 1 = seen.testBit 1 := hss 1 (by decide)
      cases hb : seen.testBit 1 with
      | true =>
        obtain ⟨S', g, f, a1, a2⟩ := m_yr_two1 d hX hT hM hs hs2 h1 (hbm.trans hb)
        exact ⟨false, S', g, f, fun q => (by cases q), fun r q w => (by cases q; exact ⟨rfl, a1, a2⟩), fun r q w => (by cases q; rw [hb] at w; cases w)⟩
      | false =>
        obtain ⟨b, S', g, f, a1, a2⟩ := m_yr1 d hX hT hM hs hs2 hV h1 (hbm.trans hb)
        exact ⟨b, S', g, f, fun q => (by cases q), fun r q w => (by cases q; rw [hb] at w; cases w), fun r q w => (by cases q; exact ⟨a1, a2⟩)⟩
    | false =>
      cases h2 : xiw xw_hit n t p with
      | true =>
        have e : xwh t n p xytws 0 = some 2 := by simp only [xytws, xwh, h0, h1, h2, if_true, Bool.false_eq_true, if_false]
        rw [e]
        have hbm : sm.testBit 2 = seen.testBit 2 := hss 2 (by decide)
        cases hb : seen.testBit 2 with
        | true =>
          obtain ⟨S', g, f, a1, a2⟩ := m_yr_two2 d hX hT hM hs hs2 h2 (hbm.trans hb)
          exact ⟨false, S', g, f, fun q => (by cases q), fun r q w => (by cases q; exact ⟨rfl, a1, a2⟩), fun r q w => (by cases q; rw [hb] at w; cases w)⟩
        | false =>
          obtain ⟨b, S', g, f, a1, a2⟩ := m_yr2 d hX hT hM hs hs2 hV h2 (hbm.trans hb)
          exact ⟨b, S', g, f, fun q => (by cases q), fun r q w => (by cases q; rw [hb] at w; cases w), fun r q w => (by cases q; exact ⟨a1, a2⟩)⟩
      | false =>
        cases h3 : xiw xw_then n t p with
        | true =>
          have e : xwh t n p xytws 0 = some 3 := by simp only [xytws, xwh, h0, h1, h2, h3, if_true, Bool.false_eq_true, if_false]
          rw [e]
          have hbm : sm.testBit 3 = seen.testBit 3 := hss 3 (by decide)
          cases hb : seen.testBit 3 with
          | true =>
            obtain ⟨S', g, f, a1, a2⟩ := m_yr_two3 d hX hT hM hs hs2 h3 (hbm.trans hb)
            exact ⟨false, S', g, f, fun q => (by cases q), fun r q w => (by cases q; exact ⟨rfl, a1, a2⟩), fun r q w => (by cases q; rw [hb] at w; cases w)⟩
          | false =>
            obtain ⟨b, S', g, f, a1, a2⟩ := m_yr3 d hX hT hM hs hs2 hV h3 (hbm.trans hb)
            exact ⟨b, S', g, f, fun q => (by cases q), fun r q w => (by cases q; rw [hb] at w; cases w), fun r q w => (by cases q; exact ⟨a1, a2⟩)⟩
        | false =>
          cases h4 : xiw xw_turn n t p with
          | true =>
            have e : xwh t n p xytws 0 = some 4 := by simp only [xytws, xwh, h0, h1, h2, h3, h4, if_true, Bool.false_eq_true, if_false]
            rw [e]
            have hbm : sm.testBit 4 = seen.testBit 4 := hss 4 (by decide)
            cases hb : seen.testBit 4 with
            | true =>
              obtain ⟨S', g, f, a1, a2⟩ := m_yr_two4 d hX hT hM hs hs2 h4 (hbm.trans hb)
              exact ⟨false, S', g, f, fun q => (by cases q), fun r q w => (by cases q; exact ⟨rfl, a1, a2⟩), fun r q w => (by cases q; rw [hb] at w; cases w)⟩
            | false =>
              obtain ⟨b, S', g, f, a1, a2⟩ := m_yr4 d hX hT hM hs hs2 hV h4 (hbm.trans hb)
              exact ⟨b, S', g, f, fun q => (by cases q), fun r q w => (by cases q; rw [hb] at w; cases w), fun r q w => (by cases q; exact ⟨a1, a2⟩)⟩
          | false =>
            cases h5 : xiw xw_left n t p with
            | true =>
              have e : xwh t n p xytws 0 = some 5 := by simp only [xytws, xwh, h0, h1, h2, h3, h4, h5, if_true, Bool.false_eq_true, if_false]
              rw [e]
              have hbm : sm.testBit 5 = seen.testBit 5 := hss 5 (by decide)
              cases hb : seen.testBit 5 with
              | true =>
                obtain ⟨S', g, f, a1, a2⟩ := m_yr_two5 d hX hT hM hs hs2 h5 (hbm.trans hb)
                exact ⟨false, S', g, f, fun q => (by cases q), fun r q w => (by cases q; exact ⟨rfl, a1, a2⟩), fun r q w => (by cases q; rw [hb] at w; cases w)⟩
              | false =>
                obtain ⟨b, S', g, f, a1, a2⟩ := m_yr5 d hX hT hM hs hs2 hV h5 (hbm.trans hb)
                exact ⟨b, S', g, f, fun q => (by cases q), fun r q w => (by cases q; rw [hb] at w; cases w), fun r q w => (by cases q; exact ⟨a1, a2⟩)⟩
            | false =>
              cases h6 : xiw xw_rhymes n t p with
              | true =>
                have e : xwh t n p xytws 0 = some 6 := by simp only [xytws, xwh, h0, h1, h2, h3, h4, h5, h6, if_true, Bool.false_eq_true, if_false]
                rw [e]
                have hbm : sm.testBit 7 = seen.testBit 6 := hss 6 (by decide)
                cases hb : seen.testBit 6 with
                | true =>
                  obtain ⟨S', g, f, a1, a2⟩ := m_yr_two6 d hX hT hM hs hs2 h6 (hbm.trans hb)
                  exact ⟨false, S', g, f, fun q => (by cases q), fun r q w => (by cases q; exact ⟨rfl, a1, a2⟩), fun r q w => (by cases q; rw [hb] at w; cases w)⟩
                | false =>
                  obtain ⟨b, S', g, f, a1, a2⟩ := m_yr6 d hX hT hM hs hs2 hV h6 (hbm.trans hb)
                  exact ⟨b, S', g, f, fun q => (by cases q), fun r q w => (by cases q; rw [hb] at w; cases w), fun r q w => (by cases q; exact ⟨a1, a2⟩)⟩
              | false =>
                cases h7 : xiw xw_aim n t p with
                | true =>
                  have e : xwh t n p xytws 0 = some 7 := by simp only [xytws, xwh, h0, h1, h2, h3, h4, h5, h6, h7, if_true, Bool.false_eq_true, if_false]
                  rw [e]
                  have hbm : sm.testBit 6 = seen.testBit 7 := hss 7 (by decide)
                  cases hb : seen.testBit 7 with
                  | true =>
                    obtain ⟨S', g, f, a1, a2⟩ := m_yr_two7 d hX hT hM hs hs2 h7 (hbm.trans hb)
                    exact ⟨false, S', g, f, fun q => (by cases q), fun r q w => (by cases q; exact ⟨rfl, a1, a2⟩), fun r q w => (by cases q; rw [hb] at w; cases w)⟩
                  | false =>
                    obtain ⟨b, S', g, f, a1, a2⟩ := m_yr7 d hX hT hM hs hs2 hV h7 (hbm.trans hb)
                    exact ⟨b, S', g, f, fun q => (by cases q), fun r q w => (by cases q; rw [hb] at w; cases w), fun r q w => (by cases q; exact ⟨a1, a2⟩)⟩
                | false =>
                  have e : xwh t n p xytws 0 = none := by simp only [xytws, xwh, h0, h1, h2, h3, h4, h5, h6, h7, Bool.false_eq_true, if_false]
                  rw [e]
                  obtain ⟨S', g, f, a1, a2⟩ := m_yr_none d hX hT hM hs hs2 h0 h1 h2 h3 h4 h7 h5 h6
                  exact ⟨false, S', g, f, fun _ => ⟨rfl, a1, a2⟩, fun r q => (by cases q), fun r q => (by cases q)⟩
theorem my_loop {n d : Nat} {t : Nat → Nat} {Q : Option Value → xS → Prop} {y : Value} : ∀ (f p seen sm c : Nat) (v : xYd) (S : xS), f + c = 9 → c = xcb seen 8 → seen < 2 ^ 8 → sm < 2 ^ 8 → (∀ q, q < 8 → sm.testBit (xym q) = seen.testBit q) → XC S → xTxM S n t → xTM S n t p → xYdN S v → S.2.1 187 20 = nI sm → S.2.1 187 9 = nI 0 → (∀ e S', (xtxt t n xytws (xyrule t n) f p seen c v) = .error e → xFl xFY S S' → S'.2.1 187 9 = nI e.1 → S'.2.1 187 10 = nI e.2 → Q (some (.int (-1 - nI e.2))) S') → (∀ c' v' S', (xtxt t n xytws (xyrule t n) f p seen c v) = .ok (c', v') → xFl xFY S S' → S'.2.1 187 9 = nI 0 → xYdN S' v' → Wp false (d + 5) 11 cX12_yard (some .int) false 98 [.ref 187, .int (nI c'), y] [] S' Q) → Wp false (d + 5) 11 cX12_yard (some .int) false 71 [.ref 187, .int (nI c), y] [] S Q := by
  intro f
  induction f with
  | zero =>
    intro p seen sm c v S hf hc
    have := xcb_le seen 8
    omega
  | succ f ih =>
    intro p seen sm c v S hf hc hseen hsm hss hX hT hM hV hs h9 ke ko
    have hcm : c ≤ 8 := by have := xcb_le seen 8; omega
    have hM0 := hM
    obtain ⟨hp, h6, h4, h5, hr⟩ := hM
    have b4 := xtk_b t n p
    by_cases h0 : xtk t n p = 0
    · refine wp_locals rfl ?_
      refine wp_aload_n dX12_yard_71 rfl rfl (gv11_34 dX12_yard_72 (xsh hX sh_187) h5 ?_)
      refine wn_if_eq dX12_yard_75 rfl (by omega) (fun c75 => ?_) (fun c75 => absurd c75 (by omega))
      exact ko c v S (by rw [xtxt, if_pos h0]) (xFl.rf S) h9 hV
    · have hs31 : sm < 2 ^ 31 := by omega
      obtain ⟨b, S1, g, f1, a1, a2, a3⟩ := m_yRule d hX hT hM0 hs hs31 hss hV
      have X1 := f1.XC hX
      have bad : ∀ e : Nat × Nat, b = false → S1.2.1 187 10 = nI e.2 → Q (some (.int (-1 - nI e.2))) S1 → Wp false (d + 5) 11 cX12_yard (some .int) false 71 [.ref 187, .int (nI c), y] [] S Q := by
        intro e hb h10 q
        subst hb
        refine wp_aload_n dX12_yard_71 rfl rfl (gv11_34 dX12_yard_72 (xsh hX sh_187) h5 ?_)
        refine wn_if_eq dX12_yard_75 rfl (by omega) (fun c75 => absurd c75 (by omega)) (fun c75 => ?_)
        refine wp_aload_n dX12_yard_78 rfl rfl (wp_iv1 dX12_yard_79 k11_269 q_X12_yardRule (by decide) (xsh hX sh_187) (by decide) (Nat.le_of_ble_eq_true rfl) g ?_)
        refine wb_if_ne dX12_yard_82 rfl (fun c82 => absurd c82 (by decide)) (fun c82 => ?_)
        exact wp_iconst (v := -1) dX12_yard_85 rfl (wp_aload_n dX12_yard_86 rfl rfl (gv11_54 dX12_yard_87 (xsh X1 sh_187) h10 (wv_isub dX12_yard_90 rfl (wp_ireturn dX12_yard_91 rfl rfl q))))
      cases hw : xwh t n p xytws 0 with
      | none =>
        obtain ⟨q1, q2, q3⟩ := a1 hw
        rw [xtxt_none h0 hw] at ke
        exact bad _ q1 q3 (ke _ S1 rfl f1 q2 q3)
      | some r =>
        have hrl := xwh_lt _ _ hw
        have hr8 : r < 8 := hrl.2
        cases hb : seen.testBit r with
        | true =>
          obtain ⟨q1, q2, q3⟩ := a2 r hw hb
          rw [xtxt_two h0 hw hb] at ke
          exact bad (4, xts t n p) q1 q3 (ke _ S1 rfl f1 q2 q3)
        | false =>
          obtain ⟨q1, q2⟩ := a3 r hw hb
          cases hR : xyrule t n r (xta t n p) v with
          | error e =>
            obtain ⟨w1, w2, w3⟩ := q1.1 e hR
            rw [xtxt_err h0 hw hb hR] at ke
            exact bad e w1 w3 (ke _ S1 rfl f1 w2 w3)
          | ok q =>
            obtain ⟨p', v'⟩ := q
            obtain ⟨w1, w2⟩ := q1.2 p' v' hR
            by_cases h3 : xtk t n p' = 3
            · obtain ⟨u1, u2, u3, u4⟩ := w1 h3
              subst u1
              rw [xtxt_go h0 hw hb hR h3] at ke ko
              have K2 : xcb (seen ||| 2 ^ r) 8 = c + 1 := by rw [xcb_or hb, if_pos hr8, ← hc]
              have hlt : seen ||| 2 ^ r < 2 ^ 8 := Nat.or_lt_two_pow hseen (Nat.pow_lt_pow_right (by decide) hr8)
              have hlm : sm ||| 2 ^ xym r < 2 ^ 8 := Nat.or_lt_two_pow hsm (Nat.pow_lt_pow_right (by decide) (xym_lt r hr8))
              have T1 := hT.fr f1 (by unfold xFY; omega) (fun k => by unfold xFY; omega)
              refine wp_aload_n dX12_yard_71 rfl rfl (gv11_34 dX12_yard_72 (xsh hX sh_187) h5 ?_)
              refine wn_if_eq dX12_yard_75 rfl (by omega) (fun c75 => absurd c75 (by omega)) (fun c75 => ?_)
              refine wp_aload_n dX12_yard_78 rfl rfl (wp_iv1 dX12_yard_79 k11_269 q_X12_yardRule (by decide) (xsh hX sh_187) (by decide) (Nat.le_of_ble_eq_true rfl) g ?_)
              refine wb_if_ne dX12_yard_82 rfl (fun c82 => ?_) (fun c82 => absurd c82 (by decide))
              exact wp_iinc dX12_yard_92 rfl (nI_1 _) ⟨Nat.le_of_ble_eq_true rfl, Or.inr rfl⟩ rfl (wp_goto dX12_yard_95 rfl (ih (xta t n p') (seen ||| 2 ^ r) (sm ||| 2 ^ xym r) (c + 1) v' S1 (by omega) K2.symm hlt hlm (xym_or hss hr8) X1 T1 u3 u4 q2 (u2.trans h9) (fun e S' a b1 b2 b3 => ke e S' a (f1.tt b1) b2 b3) (fun c' v2 S' a b1 b2 b3 => ko c' v2 S' a (f1.tt b1) b2 b3)))
            · obtain ⟨u1, u2, u3⟩ := w2 h3
              rw [xtxt_bad h0 hw hb hR h3] at ke
              exact bad _ u1 u3 (ke _ S1 rfl f1 u2 u3)
theorem myi_loop {d : Nat} {Q : Option Value → xS → Prop} {y : Value} : ∀ (j i : Nat) (S : xS), i + j = 7 → XC S → (∀ k, k < i → S.2.1 209 k = nI (if k = 0 ∨ k = 5 then 1 else 0)) → (∀ S', xFl (fun i _ => i = 209) S S' → (∀ k, k < 7 → S'.2.1 209 k = nI (if k = 0 ∨ k = 5 then 1 else 0)) → Wp false (d + 5) 11 cX12_yard (some .int) false 53 [.ref 187, .int (nI 7), y] [] S' Q) → Wp false (d + 5) 11 cX12_yard (some .int) false 21 [.ref 187, .int (nI i), y] [] S Q := by
  intro j
  induction j with
  | zero =>
    intro i S hi hX hc kk
    have : i = 7 := by omega
    subst this
    refine wp_iload_n dX12_yard_21 rfl (wp_bipush (v := nI 7) dX12_yard_22 rfl ?_)
    refine wn_icmp_ge dX12_yard_24 rfl (by omega) (by omega) (fun c24 => ?_) (fun c24 => absurd c24 (by omega))
    exact kk S (xFl.rf S) hc
  | succ j ih =>
    intro i S hi hX hc kk
    have F1 : ∀ {x}, xFl (fun i _ => i = 209) S (xSI S 209 i (nI x)) := (xFl.rf S).SI rfl
    refine wp_iload_n dX12_yard_21 rfl (wp_bipush (v := nI 7) dX12_yard_22 rfl ?_)
    refine wn_icmp_ge dX12_yard_24 rfl (by omega) (by omega) (fun c24 => absurd c24 (by omega)) (fun c24 => ?_)
    refine wp_aload_n dX12_yard_27 rfl rfl (g11_260 dX12_yard_28 (xsh hX sh_187) (xrr hX r187_46) (wp_iload_n dX12_yard_31 rfl (wp_iload_n dX12_yard_32 rfl ?_)))
    refine wn_if_eq dX12_yard_33 rfl (by omega) (fun c33 => ?_) (fun c33 => ?_)
    · refine wp_iconst (v := nI 1) dX12_yard_41 rfl (wp_goto dX12_yard_42 rfl (wn_iastore dX12_yard_46 (xsh hX sh_209) rfl (by omega) (by decide) (wp_iinc dX12_yard_47 rfl (nI_1 _) ⟨Nat.le_of_ble_eq_true rfl, Or.inr rfl⟩ rfl (wp_goto dX12_yard_50 rfl ?_))))
      refine ih (i + 1) (xSI S 209 i (nI 1)) (by omega) hX (fun k hk => ?_) (fun S' f h => kk S' (F1.tt f) h)
      rcases Nat.lt_or_ge k i with w | w
      · rw [xI_ne _ _ (Or.inr (by omega))]; exact hc k w
      · rw [show k = i by omega, xI_same, if_pos (by omega)]
    · refine wp_iload_n dX12_yard_36 rfl (wp_iconst (v := nI 5) dX12_yard_37 rfl ?_)
      refine wn_icmp_ne dX12_yard_38 rfl (by omega) (by omega) (fun c38 => ?_) (fun c38 => ?_)
      · refine wp_iconst (v := nI 0) dX12_yard_45 rfl (wn_iastore dX12_yard_46 (xsh hX sh_209) rfl (by omega) (by decide) (wp_iinc dX12_yard_47 rfl (nI_1 _) ⟨Nat.le_of_ble_eq_true rfl, Or.inr rfl⟩ rfl (wp_goto dX12_yard_50 rfl ?_)))
        refine ih (i + 1) (xSI S 209 i (nI 0)) (by omega) hX (fun k hk => ?_) (fun S' f h => kk S' (F1.tt f) h)
        rcases Nat.lt_or_ge k i with w | w
        · rw [xI_ne _ _ (Or.inr (by omega))]; exact hc k w
        · rw [show k = i by omega, xI_same, if_neg (by omega)]
      · refine wp_iconst (v := nI 1) dX12_yard_41 rfl (wp_goto dX12_yard_42 rfl (wn_iastore dX12_yard_46 (xsh hX sh_209) rfl (by omega) (by decide) (wp_iinc dX12_yard_47 rfl (nI_1 _) ⟨Nat.le_of_ble_eq_true rfl, Or.inr rfl⟩ rfl (wp_goto dX12_yard_50 rfl ?_))))
        refine ih (i + 1) (xSI S 209 i (nI 1)) (by omega) hX (fun k hk => ?_) (fun S' f h => kk S' (F1.tt f) h)
        rcases Nat.lt_or_ge k i with w | w
        · rw [xI_ne _ _ (Or.inr (by omega))]; exact hc k w
        · rw [show k = i by omega, xI_same, if_pos (by omega)]
theorem my1_copy {d : Nat} {Q : Option Value → xS → Prop} {x : Int32} : ∀ (j i : Nat) (S : xS), i + j = 7 → XC S → (∀ k, k < i → S.2.1 208 k = S.2.1 209 k) → (∀ S' z, xFl (fun i _ => i = 208) S S' → (∀ k, k < 7 → S'.2.1 208 k = S'.2.1 209 k) → Wp false (d + 5) 11 cX12_yard (some .int) false 124 [.ref 187, .int x, .int z] [] S' Q) → Wp false (d + 5) 11 cX12_yard (some .int) false 100 [.ref 187, .int x, .int (nI i)] [] S Q := by
  intro j
  induction j with
  | zero =>
    intro i S hi hX hc k
    have : i = 7 := by omega
    subst this
    refine wp_iload_n dX12_yard_100 rfl (wp_bipush (v := nI 7) dX12_yard_101 rfl ?_)
    refine wn_icmp_ge dX12_yard_103 rfl (by omega) (by omega) (fun c103 => ?_) (fun c103 => absurd c103 (by omega))
    exact k S _ (xFl.rf S) hc
  | succ j ih =>
    intro i S hi hX hc k
    have F1 : xFl (fun i _ => i = 208) S (xSI S 208 i (S.2.1 209 i)) := (xFl.rf S).SI rfl
    refine wp_iload_n dX12_yard_100 rfl (wp_bipush (v := nI 7) dX12_yard_101 rfl ?_)
    refine wn_icmp_ge dX12_yard_103 rfl (by omega) (by omega) (fun c103 => absurd c103 (by omega)) (fun c103 => ?_)
    refine wp_aload_n dX12_yard_106 rfl rfl (g11_272 dX12_yard_107 (xsh hX sh_187) (xrr hX r187_45) (wp_iload_n dX12_yard_110 rfl (wp_aload_n dX12_yard_111 rfl rfl (g11_260 dX12_yard_112 (xsh hX sh_187) (xrr hX r187_46) (wp_iload_n dX12_yard_115 rfl (wn_iaload dX12_yard_116 (xsh hX sh_209) rfl (by omega) (by decide) rfl (wn_iastore dX12_yard_117 (xsh hX sh_208) rfl (by omega) (by decide) (wp_iinc dX12_yard_118 rfl (nI_1 _) ⟨Nat.le_of_ble_eq_true rfl, Or.inr rfl⟩ rfl (wp_goto dX12_yard_121 rfl ?_)))))))))
    refine ih (i + 1) (xSI S 208 i (S.2.1 209 i)) (by omega) hX (fun q hq => ?_) (fun S' z f h => k S' z (F1.tt f) h)
    rw [xI_ne _ _ (a := 208) (b := 209) (Or.inl (by decide))]
    rcases Nat.lt_or_ge q i with w | w
    · rw [xI_ne _ _ (Or.inr (by omega))]; exact hc q w
    · rw [show q = i by omega, xI_same]
theorem my2_copy {d : Nat} {Q : Option Value → xS → Prop} {x : Int32} : ∀ (j i : Nat) (S : xS), i + j = 4 → XC S → (∀ k, k < i → S.2.1 210 k = S.2.1 211 k) → (∀ S' z, xFl (fun i _ => i = 210) S S' → (∀ k, k < 4 → S'.2.1 210 k = S'.2.1 211 k) → Wp false (d + 5) 11 cX12_yard (some .int) false 149 [.ref 187, .int x, .int z] [] S' Q) → Wp false (d + 5) 11 cX12_yard (some .int) false 126 [.ref 187, .int x, .int (nI i)] [] S Q := by
  intro j
  induction j with
  | zero =>
    intro i S hi hX hc k
    have : i = 4 := by omega
    subst this
    refine wp_iload_n dX12_yard_126 rfl (wp_iconst (v := nI 4) dX12_yard_127 rfl ?_)
    refine wn_icmp_ge dX12_yard_128 rfl (by omega) (by omega) (fun c128 => ?_) (fun c128 => absurd c128 (by omega))
    exact k S _ (xFl.rf S) hc
  | succ j ih =>
    intro i S hi hX hc k
    have F1 : xFl (fun i _ => i = 210) S (xSI S 210 i (S.2.1 211 i)) := (xFl.rf S).SI rfl
    refine wp_iload_n dX12_yard_126 rfl (wp_iconst (v := nI 4) dX12_yard_127 rfl ?_)
    refine wn_icmp_ge dX12_yard_128 rfl (by omega) (by omega) (fun c128 => absurd c128 (by omega)) (fun c128 => ?_)
    refine wp_aload_n dX12_yard_131 rfl rfl (g11_275 dX12_yard_132 (xsh hX sh_187) (xrr hX r187_47) (wp_iload_n dX12_yard_135 rfl (wp_aload_n dX12_yard_136 rfl rfl (g11_266 dX12_yard_137 (xsh hX sh_187) (xrr hX r187_48) (wp_iload_n dX12_yard_140 rfl (wn_iaload dX12_yard_141 (xsh hX sh_211) rfl (by omega) (by decide) rfl (wn_iastore dX12_yard_142 (xsh hX sh_210) rfl (by omega) (by decide) (wp_iinc dX12_yard_143 rfl (nI_1 _) ⟨Nat.le_of_ble_eq_true rfl, Or.inr rfl⟩ rfl (wp_goto dX12_yard_146 rfl ?_)))))))))
    refine ih (i + 1) (xSI S 210 i (S.2.1 211 i)) (by omega) hX (fun q hq => ?_) (fun S' z f h => k S' z (F1.tt f) h)
    rw [xI_ne _ _ (a := 210) (b := 211) (Or.inl (by decide))]
    rcases Nat.lt_or_ge q i with w | w
    · rw [xI_ne _ _ (Or.inr (by omega))]; exact hc q w
    · rw [show q = i by omega, xI_same]
def xyA (S : xS) (n : Nat) : xS := xSI (xSI (xSI (xSI (xSI (xSI (S) 187 0 (nI 0)) 187 3 (nI n)) 187 2 (nI 0)) 187 4 (nI 0)) 187 9 (nI 0)) 187 20 (nI 0)
theorem xyA_fr (S : xS) (n : Nat) : xFl xFYE S (xyA S n) := by
  unfold xyA
  have h : ∀ k, (k = 0 ∨ (2 ≤ k ∧ k ≤ 10) ∨ k = 20 ∨ k = 50) → xFYE 187 k := fun k hk => Or.inl ⟨rfl, hk⟩
  exact (((((((xFl.rf S).SI (h 0 (by decide)))).SI (h 3 (by decide))).SI (h 2 (by decide))).SI (h 4 (by decide))).SI (h 9 (by decide))).SI (h 20 (by decide))
theorem xyA_f (S : xS) (n : Nat) : (xyA S n).2.1 187 0 = nI 0 ∧ (xyA S n).2.1 187 2 = nI 0 ∧ (xyA S n).2.1 187 3 = nI n ∧ (xyA S n).2.1 187 4 = nI 0 ∧ (xyA S n).2.1 187 9 = nI 0 ∧ (xyA S n).2.1 187 20 = nI 0 := by
  refine ⟨rfl, rfl, rfl, rfl, rfl, rfl⟩
theorem xFN_YE (i k : Nat) (h : i = 187 ∧ (k = 4 ∨ k = 5 ∨ k = 6 ∨ k = 7 ∨ k = 8)) : xFYE i k := xFY_E i k (xFN_Y i k h)
theorem m_yard {n : Nat} {t : Nat → Nat} (d : Nat) {S : xS} (hX : XC S) (hn : S.2.1 187 2 = nI n) (hle : n ≤ 260) (hb : ∀ k, k < n → t k < 256 ∧ S.2.1 188 k = xby (t k)) : ∃ r S', xcall false (d + 5) j_X12_yard [.ref 187] S r S' ∧ (fun r S' => ∃ k, r = some (.int k) ∧ S'.2.1 187 0 = nI 0 ∧ S'.2.1 187 2 = nI 0 ∧ (∀ e, (xtxt t n xytws (xyrule t n) 9 0 0 0 (xyf0, [0])) = .error e → k = -1 - nI e.2 ∧ xFl xFYE S S' ∧ S'.2.1 187 9 = nI e.1) ∧ (∀ c v', (xtxt t n xytws (xyrule t n) 9 0 0 0 (xyf0, [0])) = .ok (c, v') → k = nI c ∧ xFl xFYT S S' ∧ S'.2.1 187 9 = nI 0 ∧ xYdM S' v')) r S' := by
  obtain ⟨a0, a2, a3, a4, a9, a20⟩ := xyA_f S n
  have XA : XC (xyA S n) := (xyA_fr S n).XC hX
  have gt := m_taken (d + 4) (S := xSI S 187 0 (nI 0)) hX (xi hn (Or.inr (by decide)))
  refine xcall_some (ls := [.ref 187, .float 0, .float 0]) q_X12_yard (by decide) rfl (Nat.le_of_ble_eq_true rfl) rfl ?_
  refine wp_aload_n dX12_yard_0 rfl rfl (wp_iconst (v := nI 0) dX12_yard_1 rfl (p11_1 dX12_yard_2 (xsh hX sh_187) (wp_aload_n dX12_yard_5 rfl rfl (wp_iv1 dX12_yard_6 k11_69 q_X12_taken (by decide) (xsh hX sh_187) (by decide) (Nat.le_of_ble_eq_true rfl) gt (wp_aload_n dX12_yard_9 rfl rfl (wp_iconst (v := nI 0) dX12_yard_10 rfl (p11_51 dX12_yard_11 (xsh hX sh_187) (wp_aload_n dX12_yard_14 rfl rfl (wp_iconst (v := nI 0) dX12_yard_15 rfl (p11_72 dX12_yard_16 (xsh hX sh_187) (wp_iconst (v := nI 0) dX12_yard_19 rfl (wp_istore_n dX12_yard_20 ⟨Nat.le_of_ble_eq_true rfl, Or.inr rfl⟩ rfl ?_))))))))))))
  refine myi_loop 7 0 (xyA S n) (by omega) XA (fun k hk => absurd hk (Nat.not_lt_zero k)) (fun SB fb hB => ?_)
  have FB : xFl (fun i k => i = 209 ∨ i = 211 ∨ (i = 187 ∧ k = 50)) (xyA S n) (xSI (xSI SB 187 50 (nI 1)) 211 0 (nI 0)) := ((fb.mono (Q := fun i k => i = 209 ∨ i = 211 ∨ (i = 187 ∧ k = 50)) (fun i k h => Or.inl h)).SI (a := 187) (k := 50) (Or.inr (Or.inr ⟨rfl, rfl⟩))).SI (a := 211) (k := 0) (Or.inr (Or.inl rfl))
  have XB := fb.XC XA
  have TB : xTxM (xSI (xSI SB 187 50 (nI 1)) 211 0 (nI 0)) n t := ⟨FB.i a3 (by omega), hle, fun k hk => ⟨(hb k hk).1, FB.i ((xyA_fr S n).i (hb k hk).2 (by unfold xFYE; omega)) (by omega)⟩⟩
  have VB : xYdN (xSI (xSI SB 187 50 (nI 1)) 211 0 (nI 0)) (xyf0, [0]) := by
    refine ⟨fun i hi => ?_, ?_, xi (xI_same _ _ _ _) (Or.inl (by decide)), fun i hi => ?_, xyok_0⟩
    · have e : (xyf0, [0]).1 i = if i = 0 ∨ i = 5 then 1 else 0 := by
        show xyf0 i = _
        unfold xyf0
        split <;> split <;> omega
      rw [e]
      exact xi (xi (hB i (by omega)) (Or.inl (by decide))) (Or.inl (by decide))
    · exact xi (xi (hB 6 (by decide)) (Or.inl (by decide))) (Or.inl (by decide))
    · have : i = 0 := by simp only [List.length_cons, List.length_nil] at hi; omega
      subst this
      exact xI_same _ _ _ _
  obtain ⟨S1, g1, f1, t1⟩ := m_next (d + 3) (FB.XC XA) TB (FB.i a4 (by omega)) (Nat.zero_le n)
  have X1 := f1.XC (FB.XC XA)
  have fE1 : xFl xFYE S S1 := ((xyA_fr S n).tt (FB.mono (fun i k h => by unfold xFYE; omega))).tt (f1.mono xFN_YE)
  refine wp_aload_n dX12_yard_53 rfl rfl (wp_iconst (v := nI 1) dX12_yard_54 rfl (p11_263 dX12_yard_55 (xsh XB sh_187) (wp_aload_n dX12_yard_58 rfl rfl (g11_266 dX12_yard_59 (xsh XB sh_187) (xrr XB r187_48) (wp_iconst (v := nI 0) dX12_yard_62 rfl (wp_iconst (v := nI 0) dX12_yard_63 rfl (wn_iastore dX12_yard_64 (xsh XB sh_211) rfl (by omega) (by decide) (wp_iconst (v := nI 0) dX12_yard_65 rfl (wp_istore_n dX12_yard_66 ⟨Nat.le_of_ble_eq_true rfl, Or.inr rfl⟩ rfl (wp_aload_n dX12_yard_67 rfl rfl (wp_iv1 dX12_yard_68 k11_65 q_X12_next (by decide) (xsh XB sh_187) (by decide) (Nat.le_of_ble_eq_true rfl) g1 ?_)))))))))))
  refine my_loop 9 0 0 0 0 (xyf0, [0]) S1 rfl rfl (by decide) (by decide) (fun q _ => by rw [Nat.zero_testBit, Nat.zero_testBit]) X1 (TB.fr f1 (by omega) (fun k => by omega)) t1 (VB.fr f1 (fun i k h => by omega)) (f1.i (FB.i a20 (by omega)) (by omega)) (f1.i (FB.i a9 (by omega)) (by omega)) ?_ ?_
  · intro e S2 hR f2 e9 e10
    have fE : xFl xFYE S S2 := fE1.tt (f2.mono xFY_E)
    exact ⟨_, rfl, f2.i (f1.i (FB.i a0 (by omega)) (by omega)) (by unfold xFY; omega), f2.i (f1.i (FB.i a2 (by omega)) (by omega)) (by unfold xFY; omega), fun e' he => (by rw [hR] at he; cases he; exact ⟨rfl, fE, e9⟩), fun c v' he => (by rw [hR] at he; cases he)⟩
  · intro c' v' S2 hR f2 h9 hV
    have X2 := f2.XC X1
    have fE : xFl xFYE S S2 := fE1.tt (f2.mono xFY_E)
    have e0 : S2.2.1 187 0 = nI 0 := f2.i (f1.i (FB.i a0 (by omega)) (by omega)) (by unfold xFY; omega)
    have e2 : S2.2.1 187 2 = nI 0 := f2.i (f1.i (FB.i a2 (by omega)) (by omega)) (by unfold xFY; omega)
    refine wp_iconst (v := nI 0) dX12_yard_98 rfl (wp_istore_n dX12_yard_99 ⟨Nat.le_of_ble_eq_true rfl, Or.inr rfl⟩ rfl ?_)
    refine my1_copy 7 0 _ (by omega) X2 (fun k hk => absurd hk (Nat.not_lt_zero k)) (fun S3 z3 f3 h3 => ?_)
    have X3 := f3.XC X2
    refine wp_iconst (v := nI 0) dX12_yard_124 rfl (wp_istore_n dX12_yard_125 ⟨Nat.le_of_ble_eq_true rfl, Or.inr rfl⟩ rfl ?_)
    refine my2_copy 4 0 S3 (by omega) X3 (fun k hk => absurd hk (Nat.not_lt_zero k)) (fun S4 z4 f4 h4 => ?_)
    have X4 := f4.XC X3
    have f34 := f3.tr f4
    obtain ⟨v1, v2, v3, v4, v5⟩ := hV
    have q50 : S4.2.1 187 50 = nI v'.2.length := f34.i v3 (by omega)
    have FF : xFl (fun i k => i = 208 ∨ i = 210 ∨ (i = 187 ∧ k = 49)) S2 (xSI S4 187 49 (nI v'.2.length)) := (f34.mono (Q := fun i k => i = 208 ∨ i = 210 ∨ (i = 187 ∧ k = 49)) (fun i k h => by omega)).SI (a := 187) (k := 49) (Or.inr (Or.inr ⟨rfl, rfl⟩))
    have fT : xFl xFYT S (xSI S4 187 49 (nI v'.2.length)) := (fE.mono xFYE_T).tt (FF.mono (fun i k h => by unfold xFYT; omega))
    have q0 : (xSI S4 187 49 (nI v'.2.length)).2.1 187 0 = nI 0 := FF.i e0 (by omega)
    have q2 : (xSI S4 187 49 (nI v'.2.length)).2.1 187 2 = nI 0 := FF.i e2 (by omega)
    have VM : xYdM (xSI S4 187 49 (nI v'.2.length)) v' := by
      refine ⟨fun i hi => xi ?_ (Or.inl (by decide)), xi ?_ (Or.inl (by decide)), xI_same _ _ _ _, fun i hi => xi ?_ (Or.inl (by decide)), v5⟩
      · rw [f4.2.2 208 i (by omega), h3 i (by omega)]; exact f3.i (v1 i hi) (by omega)
      · rw [f4.2.2 208 6 (by omega), h3 6 (by omega)]; exact f3.i v2 (by omega)
      · have := v5.2.2.2.1
        rw [h4 i (by omega)]; exact f34.i (v4 i hi) (by omega)
    exact wp_aload_n dX12_yard_149 rfl rfl (wp_aload_n dX12_yard_150 rfl rfl (gv11_263 dX12_yard_151 (xsh X4 sh_187) q50 (p11_278 dX12_yard_154 (xsh X4 sh_187) (wp_iload_n dX12_yard_157 rfl (wp_ireturn dX12_yard_158 rfl rfl ⟨_, rfl, q0, q2, fun e he => (by rw [hR] at he; cases he), fun c v' he => (by rw [hR] at he; cases he; exact ⟨rfl, fT, FF.i h9 (by omega), VM⟩)⟩)))))
