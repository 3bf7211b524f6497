/-! more rows of both sides: rhyme, people, answers -/
def xswp (s i : Nat) : Nat := if i = s then 6 else if i = 6 then s else i
theorem xswp_s (s : Nat) : xswp s s = 6 := if_pos rfl
theorem xswp_6 {s : Nat} (hs : s < 6) : xswp s 6 = s := by unfold xswp; rw [if_neg (by omega), if_pos rfl]
theorem xswp_n {s k : Nat} (h : k ≠ s) (hk : k < 6) : xswp s k = k := by unfold xswp; rw [if_neg h, if_neg (by omega)]
theorem xswp_lt {s i : Nat} (hs : s < 6) (hi : i < 7) : xswp s i < 7 := by unfold xswp; (repeat' split) <;> omega
theorem xswp_inj {s i j : Nat} (hs : s < 6) (h : i ≠ j) : xswp s i ≠ xswp s j := by unfold xswp; (repeat' split) <;> omega
theorem xro.sw {ρ : Nat → Nat} {s : Nat} (hr : xro ρ) (hs : s < 6) : xro (fun k => ρ (xswp s k)) := ⟨fun k hk => hr.1 _ (xswp_lt hs hk), fun i j hi hj h => hr.2 _ _ (xswp_lt hs hi) (xswp_lt hs hj) (xswp_inj hs h)⟩
theorem t_rhyme {S : xS} {c : xPx} {δ : Nat → Int32} {y y' ta ta' fa ra sa : Nat} {ρ : Nat → Nat} {n : Nat} {t : Nat → Nat} {ou hi : List Nat} {fv : Int32} {N : Nat} {s : Nat} (hs : s < 6) (h : xK S c δ y y' ta ta' fa ra sa ρ) (hZ : xZc S n t ou hi fv) (hN : xNw S N) : ∃ k S1 P R, xcall false 40 j_X11_rhyme [.ref 0, .int (nI s)] S (some (.int k)) S1 ∧ xFm P R S S1 ∧ (∀ i k, P i k → i < 187) ∧ XC S1 ∧ xNw S1 N ∧ (∀ e z, xrhy t n = .error (e, z) → k = -1 - nI z ∧ xqC S1 c δ ∧ xZc S1 0 t ou hi (nI e)) ∧ (∀ L, xrhy t n = .ok L → k = nI L.length ∧ xqC S1 (xsupc c s (some (n, t, L))) (fun k => if k = s then nI 0 else δ k) ∧ xZc S1 0 t ou hi (nI 0)) := by
  obtain ⟨hy, ht, hw, hr, hX, ⟨r2, r3, r4, r5, r7, r8, r9, r10⟩, k0, hS, hB, hD, hY, hT, hV, hWB, hV2⟩ := h
  have m1 := hw.1.m
  have m2 := hw.2.1.m
  have m3 := hw.2.2.1.m
  have hmq : ∀ k, k < 7 → (ρ k) % 6 = 0 ∧ 18 ≤ ρ k ∧ ρ k ≤ 54 := fun k hk => (hr.1 k hk).m
  have hc : xTgC ta (ta + 1) (ta + 2) := by unfold xTgC; omega
  obtain ⟨k, S1, g1, f1, e1, her, hok⟩ := c_rhyme 34 hs (hr.1 6 (by decide)) (hr.1 s (by omega)) hc hX hZ.1 hZ.2.1.1 hZ.2.1.2 r7 (hS s hs).1 r2 hT
  have X1 := f1.XC hX (xRRc_n hs)
  have ms6 := hmq 6 (by decide)
  have hne6 : ∀ k, k < 6 → ρ k ≠ ρ 6 := fun k hk => hr.2 k 6 (by omega) (by decide) (by omega)
  have nP : ∀ i k, ((i = 0 ∧ k ≠ 11) ∨ (2 ≤ i ∧ (i < ρ 6 ∨ ρ 6 + 5 < i))) → ¬ xFRc (ρ 6) i k := fun i k a p => by unfold xFRc at p; omega
  have nR : ∀ i k, ((i = 0 ∧ k ≠ 7) ∨ (1 ≤ i ∧ i ≠ 17) ∨ (i = 17 ∧ k ≠ s)) → ¬ xRRc s i k := fun i k a p => by unfold xRRc at p; omega
  have hY1 := hY.fm f1 (fun i k q => nP i k (by omega))
  have hT1 := hT.fm f1 (fun i k q => nP i k (by omega))
  have hV1 := hV.fm f1 (fun i k q => nP i k (by omega))
  have hW1 := hWB.fm f1 (fun k => nP _ k (by omega))
  have hV21 := hV2.fm f1 (fun i k q => nP i k (by omega))
  have k01 := f1.i k0 (nP _ _ (by omega))
  have Z : ∀ fv', S1.2.1 0 11 = fv' → xZc S1 0 t ou hi fv' := fun fv' e => hZ.tk f1 e1 e (fun i k q => nP i k (by omega))
  -- the slots that stay
  have st : ∀ k, k < 6 → (k ≠ s ∨ S1.2.2.1 17 s = some (ρ s)) → S1.2.2.1 17 k = some (ρ k) ∧ (c.2.2.2.2 k = none → S1.2.1 (ρ k) 9 = nI 0) ∧ (∀ n t L, c.2.2.2.2 k = some (n, t, L) → S1.2.1 (ρ k) 9 = nI 1 ∧ xRV (ρ k) S1 n t L) := fun k hk w => by
    have mk := hmq k (by omega)
    have := hne6 k hk
    refine ⟨?_, fun e => f1.i ((hS k hk).2.1 e) (nP _ _ (by omega)), fun n t L e => ⟨f1.i ((hS k hk).2.2 _ _ _ e).1 (nP _ _ (by omega)), ((hS k hk).2.2 _ _ _ e).2.fm f1 (fun i q z => nP _ _ (by omega))⟩⟩
    rcases Decidable.em (k = s) with rfl | w2
    · exact w.elim (fun z => absurd rfl z) id
    · exact f1.r (hS k hk).1 (nR _ _ (by omega))
  have stB : ∀ k, k < 6 → ∀ n t L, c.2.2.2.2 k = some (n, t, L) → xRB (ρ k) S1 c.2.1 t L := fun k hk n t L e i hi => f1.i (hB k hk _ _ _ e i hi) (nP _ _ (by have := hmq k (by omega); have := hne6 k hk; omega))
  have stD : ∀ k, k < 6 → c.2.2.2.2 k ≠ none → S1.2.1 (ρ k) 8 = δ k := fun k hk e => f1.i (hD k hk e) (nP _ _ (by have := hmq k (by omega); have := hne6 k hk; omega))
  refine ⟨k, S1, _, _, g1, f1, fun i k p => by unfold xFRc at p; omega, X1, hN.fm f1 ⟨nP _ _ (by omega), fun x => nP _ _ (by omega)⟩, fun e z he => ?_, fun L he => ?_⟩
  · obtain ⟨q1, q2, q3, q4⟩ := her e z he
    exact ⟨q1, ⟨y, y', ta, ta', fa, ra, sa, ρ, hy, ht, hw, hr, X1, ⟨f1.r r2 (nR _ _ (by omega)), f1.r r3 (nR _ _ (by omega)), f1.r r4 (nR _ _ (by omega)), f1.r r5 (nR _ _ (by omega)), q4, f1.r r8 (nR _ _ (by omega)), f1.r r9 (nR _ _ (by omega)), f1.r r10 (nR _ _ (by omega))⟩, k01, fun k hk => st k hk (Or.inr q3), stB, stD, hY1, hT1, hV1, hW1, hV21⟩, Z _ q2⟩
  · obtain ⟨q1, q2, q3, q4, q5, q6, q7, q8⟩ := hok L he
    have e6 : ρ (xswp s 6) = ρ s := congrArg ρ (xswp_6 hs)
    have es : ∀ k, k < 6 → k ≠ s → ρ (xswp s k) = ρ k := fun k hk w => congrArg ρ (xswp_n w hk)
    have ess : ρ (xswp s s) = ρ 6 := congrArg ρ (xswp_s s)
    refine ⟨q1, ⟨y, y', ta, ta', fa, ra, sa, (fun k => ρ (xswp s k)), hy, ht, hw, hr.sw hs, X1, ⟨f1.r r2 (nR _ _ (by omega)), f1.r r3 (nR _ _ (by omega)), f1.r r4 (nR _ _ (by omega)), f1.r r5 (nR _ _ (by omega)), q4.trans (congrArg some e6.symm), f1.r r8 (nR _ _ (by omega)), f1.r r9 (nR _ _ (by omega)), f1.r r10 (nR _ _ (by omega))⟩, k01, fun k hk => ?_, fun k hk n' t' L' e => ?_, fun k hk e => ?_, hY1, hT1, hV1, hW1, hV21⟩, Z _ q2⟩
    · show S1.2.2.1 17 k = some (ρ (xswp s k)) ∧ ((xsupc c s (some (n, t, L))).2.2.2.2 k = none → S1.2.1 (ρ (xswp s k)) 9 = nI 0) ∧ (∀ n' t' L', (xsupc c s (some (n, t, L))).2.2.2.2 k = some (n', t', L') → S1.2.1 (ρ (xswp s k)) 9 = nI 1 ∧ xRV (ρ (xswp s k)) S1 n' t' L')
      rcases Decidable.em (k = s) with w | w
      · subst w
        rw [ess, show (xsupc c k (some (n, t, L))).2.2.2.2 k = some (n, t, L) from xsup_s _ _ _]
        exact ⟨q3, (fun z => by cases z), (fun n' t' L' z => by cases z; exact ⟨q7, q5⟩)⟩
      · rw [es k hk w, show (xsupc c s (some (n, t, L))).2.2.2.2 k = c.2.2.2.2 k from xsup_n _ _ w]
        exact st k hk (Or.inl w)
    · show xRB (ρ (xswp s k)) S1 c.2.1 t' L'
      rcases Decidable.em (k = s) with w | w
      · subst w
        rw [show (xsupc c k (some (n, t, L))).2.2.2.2 k = some (n, t, L) from xsup_s _ _ _] at e
        cases e
        rw [ess]
        exact q6
      · rw [show (xsupc c s (some (n, t, L))).2.2.2.2 k = c.2.2.2.2 k from xsup_n _ _ w] at e
        rw [es k hk w]
        exact stB k hk _ _ _ e
    · show S1.2.1 (ρ (xswp s k)) 8 = (if k = s then nI 0 else δ k)
      rcases Decidable.em (k = s) with w | w
      · subst w
        rw [ess, if_pos rfl]
        exact q8
      · rw [show (xsupc c s (some (n, t, L))).2.2.2.2 k = c.2.2.2.2 k from xsup_n _ _ w] at e
        rw [es k hk w, if_neg w]
        exact stD k hk e
theorem xWM.fp {p q : Nat} {S S' : xS} {l : List (List Nat)} {P : Nat → Nat → Prop} (h : xWM p q S l) (h12 : l.length ≤ 12) (hw : xWl l) (hf : xFl P S S') (hn : ∀ i k, ((i = 195 ∧ p ≤ k ∧ k < p + 12 * l.length) ∨ i = q) → ¬ P i k) : xWM p q S' l :=
  fun w hw' => ⟨hf.i (h w hw').1 (hn _ _ (by omega)), fun k hk => hf.i ((h w hw').2 k hk) (hn _ _ (by
    have := (hw _ (xmem_getD (d := []) hw')).2.1
    omega))⟩
/-- the reference's frame by slots and words -/
theorem xqM.fw {S S' : xS} {c : xPx} {δ : Nat → Int32} {P : Nat → Nat → Prop} (h : xqM S c δ) (ho : xzo c) (hf : xFl P S S') (hn : ∀ i q, ((i = 187 ∧ (q = 12 ∨ q = 13 ∨ q = 14 ∨ q = 15 ∨ q = 30 ∨ q = 31 ∨ q = 49)) ∨ i = 189 ∨ i = 191 ∨ i = 193 ∨ (i = 195 ∧ 260 ≤ q ∧ q < 1904) ∨ ((i = 198 ∨ i = 199 ∨ i = 200) ∧ q < 732) ∨ (i = 201 ∧ q < 102) ∨ (i = 202 ∧ q < 96) ∨ (i = 203 ∧ q < 6) ∨ i = 196 ∨ i = 197 ∨ i = 204 ∨ i = 208 ∨ i = 210) → ¬ P i q) : xqM S' c δ := by
  obtain ⟨⟨h1, h2, h3, h4, h5, h6, h7⟩, h8⟩ := h
  have hA : c.2.2.2.1.length ≤ 5 := ho.2.2.1.2.1
  exact ⟨⟨hf.XC h1, fun k hk => ⟨fun e => hf.i ((h2 k hk).1 e) (hn _ _ (by omega)), fun n t L e => by
    obtain ⟨p1, p2, p3, p4, p5⟩ := (h2 k hk).2 _ _ _ e
    exact ⟨p1.fk p3 p4 p5 hf (fun i q z => hn i q (by omega)), p2, p3, p4, p5⟩⟩, h3.fr hf (fun k w => hn _ _ (by omega)) (fun a k w => hn _ _ (by omega)), h4.fr hf (fun i k w => hn _ _ (by omega)), ⟨h5.1.fp h5.2.2.2.1 h5.2.2.2.2 hf (fun i k w => hn i k (by have := h5.2.2.2.1; omega)), hf.i h5.2.1 (hn _ _ (by omega)), h5.2.2⟩, h6.fp (by omega) ho.2.2.1.2.2 hf (fun i k w => hn i k (by omega)), hf.i h7 (hn _ _ (by omega))⟩, h8.fr hf (fun k => hn _ _ (by omega))⟩
theorem r_rhyme {S : xS} {N : Nat} (sv : Int32) (h : xR S N) : xOk S N j_X11_rhyme j_X12_rhyme [.int sv] := by
  obtain ⟨c, δ, n, t, ou, hi, fv, ho, h1, h2, hC, hZ, hN, hM, hz⟩ := h
  cases hsl : xsl sv with
  | false =>
    have f1 : xFl (fun i k => i = 1 ∧ k = 1) S (xSI S 1 1 (nI 0)) := (xFl.rf S).SI ⟨rfl, rfl⟩
    have g1 := c_rhyme_no 39 hC.X hZ.1 hsl
    have hm := f1.m (R := fun _ _ => False)
    have M1 := hM.c hm (f1.XC hC.X) (fun i k p => by omega)
    have z1 := hz.c hm (fun i k p => by omega)
    have g2 := m_rhyme_no 39 M1.1.1 z1.1 hsl
    have f2 : xFl (fun i k => i = 187 ∧ (k = 0 ∨ k = 2 ∨ k = 3 ∨ k = 4)) (xSI S 1 1 (nI 0)) (xSI (xSI (xSI (xSI (xSI S 1 1 (nI 0)) 187 0 (nI 0)) 187 3 (nI n)) 187 2 (nI 0)) 187 4 (nI 0)) := ((((xFl.rf _).SI (by omega)).SI (by omega)).SI (by omega)).SI (by omega)
    exact ⟨_, _, _, N, by omega, g1, g2, xR.go (n' := 0) ho h1 h2 hC hZ hM hz (Nat.zero_le n) f1 (fun i k p => by omega) (xI_same _ _ _ _) (hN.fr f1 ⟨by omega, fun x => by omega⟩) f2 (fun i k p => by omega) rfl⟩
  | true =>
    have hsl' := of_decide_eq_true hsl
    obtain ⟨s, hs, rfl⟩ := nI_of hsl'.1
    have hs6 : s < 6 := (nI_ltI hs (show 6 < 2 ^ 31 by decide)).mp hsl'.2
    obtain ⟨y, y', ta, ta', fa, ra, sa, ρ, K⟩ := hC
    obtain ⟨k, S1, P, R, g1, f1, lt, X1, N1, her, hok⟩ := t_rhyme hs6 K hZ hN
    have M1 := hM.c f1 X1 lt
    have z1 := hz.c f1 lt
    obtain ⟨k', S2, g2, e0, e2, mer, mok⟩ := m_rhyme 36 X1 hs6 z1.1 z1.2.1.1 z1.2.1.2
    cases e : xrhy t n with
    | error w =>
      obtain ⟨w, w2⟩ := w
      obtain ⟨a1, a2, a3⟩ := her w w2 e
      obtain ⟨b1, b3, f2⟩ := mer w w2 e
      have : k' = k := b1.trans a1.symm
      subst this
      exact ⟨_, _, _, N, by omega, g1, g2, xR.mk ho h1 h2 a2 a3 N1 f2 (fun i k p => by unfold xFRe at p; omega) (M1.fw ho f2 (fun i q a p => by unfold xFRe at p; omega)) (z1.tk f2 e2 b3 (fun i k a p => by unfold xFRe at p; omega))⟩
    | ok L =>
      obtain ⟨a1, a2, a3⟩ := hok L e
      obtain ⟨b1, b3, f2, b4, b5, b6, b7, b8⟩ := mok L e
      have : k' = k := b1.trans a1.symm
      subst this
      obtain ⟨o1, o2, o3⟩ := xrhy_ok e
      obtain ⟨⟨p1, p2, p3, p4, p5, p6, p7⟩, p8⟩ := M1
      have hA : c.2.2.2.1.length ≤ 5 := ho.2.2.1.2.1
      have M2 : xqM S2 (xsupc c s (some (n, t, L))) (fun k => if k = s then nI 0 else δ k) := by
        refine ⟨⟨f2.XC X1, fun k hk => ?_, p3.fr f2 (fun k a p => by unfold xFRe xFRs at p; omega) (fun i k a p => by unfold xFRe xFRs at p; omega), p4.fr f2 (fun i k a p => by unfold xFRe xFRs at p; omega), ⟨p5.1.fp p5.2.2.2.1 p5.2.2.2.2 f2 (fun i k a p => by unfold xFRe xFRs at p; omega), f2.i p5.2.1 (fun p => by unfold xFRe xFRs at p; omega), p5.2.2⟩, p6.fp (by omega) ho.2.2.1.2.2 f2 (fun i k a p => by unfold xFRe xFRs at p; omega), f2.i p7 (fun p => by unfold xFRe xFRs at p; omega)⟩, fun k hk e9 => ?_⟩
        · rcases Decidable.em (k = s) with w | w
          · subst w
            rw [show (xsupc c k (some (n, t, L))).2.2.2.2 k = some (n, t, L) from xsup_s _ _ _]
            exact ⟨(fun z => by cases z), (fun n' t' L' z => by cases z; exact ⟨b4, o1, b6, b7, b8⟩)⟩
          · rw [show (xsupc c s (some (n, t, L))).2.2.2.2 k = c.2.2.2.2 k from xsup_n _ _ w]
            exact ⟨fun e9 => f2.i ((p2 k hk).1 e9) (fun p => by unfold xFRe xFRs at p; omega), fun n' t' L' e9 => by
              obtain ⟨u1, u2, u3, u4, u5⟩ := (p2 k hk).2 _ _ _ e9
              exact ⟨u1.fk u3 u4 u5 f2 (fun i q z p => by unfold xFRe xFRs at p; omega), u2, u3, u4, u5⟩⟩
        · show _ = (if k = s then nI 0 else δ k)
          rcases Decidable.em (k = s) with w | w
          · subst w
            rw [if_pos rfl]
            exact b5
          · rw [show (xsupc c s (some (n, t, L))).2.2.2.2 k = c.2.2.2.2 k from xsup_n _ _ w] at e9
            rw [if_neg w]
            exact f2.i (p8 k hk e9) (fun p => by unfold xFRe xFRs at p; omega)
      exact ⟨_, _, _, N, by omega, g1, g2, xR.mk (c := xsupc c s (some (n, t, L))) (ho.up s _ (fun n' t' L' z => by cases z; exact ⟨o1, o3, b7, o2⟩)) h1 h2 a2 a3 N1 f2 (fun i k p => by unfold xFRe xFRs at p; omega) M2 (z1.tk f2 e2 b3 (fun i k a p => by unfold xFRe xFRs at p; omega))⟩
