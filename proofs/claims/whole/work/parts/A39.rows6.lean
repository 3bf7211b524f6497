/-! more rows of both sides: people, answers -/
theorem t_people {S : xS} {c : xPx} {δ : Nat → Int32} {y y' ta ta' fa ra sa : Nat} {ρ : Nat → Nat} {n : Nat} {t : Nat → Nat} {ou hi : List Nat} {fv : Int32} {N : Nat} (h : xK S c δ y y' ta ta' fa ra sa ρ) (hZ : xZc S n t ou hi fv) (hN : xNw S N) : ∃ k S1 P R, xcall false 40 j_X11_people [.ref 0] S (some (.int k)) S1 ∧ xFm P R S S1 ∧ (∀ i k, P i k → i < 187) ∧ XC S1 ∧ xNw S1 N ∧ xZc S1 0 t ou hi fv ∧ (xwsp t n 12 n [] [] = none → k = -1 ∧ xqC S1 c δ) ∧ (∀ l, xwsp t n 12 n [] [] = some l → k = nI l.length ∧ xqC S1 (c.1, c.2.1, l, c.2.2.2) δ) := by
  obtain ⟨hy, ht, hw, hr, hX, ⟨r2, r3, r4, r5, r7, r8, r9, r10⟩, k0, hS, hB, hD, hY, hT, hV, hWB, hV2⟩ := h
  have m1 := hw.1.m
  have m2 := hw.2.1.m
  have m3 := hw.2.2.1.m
  have hmq : ∀ k, k < 7 → (ρ k) % 6 = 0 ∧ 18 ≤ ρ k ∧ ρ k ≤ 54 := fun k hk => (hr.1 k hk).m
  have hc : xTgC ta (ta + 1) (ta + 2) := by unfold xTgC; omega
  obtain ⟨k, S1, g1, f1, e1, hno, hok⟩ := c_people (fa := fa) (fb := 0) (fc := 0) (fe := 0) 36 hw.2.2.1.o hX hZ.1 hZ.2.1.1 hZ.2.1.2 r8 r10 k0 hc r2 hT
  have X1 := f1.XC hX xRwp_n
  have nP : ∀ i k, ((i = 0) ∨ (2 ≤ i ∧ (i < sa ∨ sa + 3 < i)) ∨ (i = sa + 2 ∧ k = 0)) → ¬ xFwp sa (sa + 1) (sa + 2) (sa + 3) i k := fun i k a p => by unfold xFwp at p; omega
  have nR : ∀ i k, ((i = 0 ∧ k ≠ 8 ∧ k ≠ 10) ∨ 1 ≤ i) → ¬ xRwp i k := fun i k a p => by unfold xRwp at p; omega
  have hS1 : xSl S1 ρ c.2.2.2.2 := hS.fm hr f1 (fun k hk => nR _ _ (by omega)) (fun a i k ha q => by have := ha.m; exact nP _ _ (by omega))
  have hD1 : xDC S1 ρ c.2.2.2.2 δ := hD.fm hr f1 (fun a ha => by have := ha.m; exact nP _ _ (by omega))
  have hB1 : xSlB S1 ρ c.2.2.2.2 c.2.1 6 := hB.fm f1 (fun q k hq => by have := hmq q (by omega); exact nP _ _ (by omega))
  have hY1 := hY.fm f1 (fun i k q => nP i k (by omega))
  have hT1 := hT.fm f1 (fun i k q => nP i k (by omega))
  have k01 := f1.i k0 (nP _ _ (by omega))
  have hV1 := hV.fm f1 (fun i k q => nP i k (by omega))
  have hW1 := hWB.fm f1 (fun k => nP _ k (by omega))
  have hV21 := hV2.fm f1 (fun i k q => nP i k (by omega))
  have c0 : ∀ a, xWV a (a + 1) (a + 2) S1 c.2.2.1 → S1.2.1 (a + 2) 0 = nI 0 := fun a q => q.2.1.1 0 (Nat.zero_le _)
  refine ⟨k, S1, _, _, g1, f1, fun i k p => by unfold xFwp at p; omega, X1, hN.fm f1 ⟨nP _ _ (by omega), fun x => nP _ _ (by omega)⟩, hZ.tk f1 e1 (f1.i hZ.2.2.1 (nP _ _ (by omega))) (fun i k q => nP i k (by omega)), fun he => ?_, fun l he => ?_⟩
  · obtain ⟨q1, q2, q3⟩ := hno he
    exact ⟨q1, ⟨y, y', ta, ta', fa, ra, sa, ρ, hy, ht, hw, hr, X1, ⟨f1.r r2 (nR _ _ (by omega)), f1.r r3 (nR _ _ (by omega)), f1.r r4 (nR _ _ (by omega)), f1.r r5 (nR _ _ (by omega)), f1.r r7 (nR _ _ (by omega)), q2, f1.r r9 (nR _ _ (by omega)), q3⟩, k01, hS1, hB1, hD1, hY1, hT1, hV1, hW1, hV21⟩⟩
  · obtain ⟨q1, q2, q3, q4, q5⟩ := hok l he
    exact ⟨q1, ⟨y, y', ta, ta', sa, ra, fa, ρ, hy, ht, ⟨hw.2.2.1, hw.2.1, hw.1, fun z => hw.2.2.2.2.2 z.symm, fun z => hw.2.2.2.2.1 z.symm, fun z => hw.2.2.2.1 z.symm⟩, hr, X1, ⟨f1.r r2 (nR _ _ (by omega)), f1.r r3 (nR _ _ (by omega)), f1.r r4 (nR _ _ (by omega)), f1.r r5 (nR _ _ (by omega)), f1.r r7 (nR _ _ (by omega)), q2, f1.r r9 (nR _ _ (by omega)), q3⟩, c0 _ hV1, hS1, hB1, hD1, hY1, hT1, q4, q5, hV21⟩⟩
theorem r_people {S : xS} {N : Nat} (h : xR S N) : xOk S N j_X11_people j_X12_people [] := by
  obtain ⟨c, δ, n, t, ou, hi, fv, ho, h1, h2, hC, hZ, hN, hM, hz⟩ := h
  obtain ⟨y, y', ta, ta', fa, ra, sa, ρ, K⟩ := hC
  obtain ⟨k, S1, P, R, g1, f1, lt, X1, N1, Z1, hno, hok⟩ := t_people K hZ hN
  have M1 := hM.c f1 X1 lt
  have z1 := hz.c f1 lt
  obtain ⟨k', S2, g2, f2, e2, mno, mok⟩ := m_people 38 X1 z1.1 z1.2.1.1 z1.2.1.2
  have z2 := z1.tk f2 e2 (f2.i z1.2.2.1 (fun p => by unfold xFmp at p; omega)) (fun i k a p => by unfold xFmp at p; omega)
  cases e : xwsp t n 12 n [] [] with
  | none =>
    obtain ⟨a1, a2⟩ := hno e
    obtain ⟨b1, b2, b3⟩ := mno e
    have : k' = k := b1.trans a1.symm
    subst this
    have f3 : xFl (fun i k => i = 187 ∧ (k = 0 ∨ k = 2 ∨ k = 3 ∨ k = 4)) S1 S2 := ⟨f2.1, f2.2.1, fun a q hq => by
      rcases Decidable.em (a = 196 ∨ a = 195) with w | w
      · exact b3 a q w
      · rcases Decidable.em (a = 187 ∧ q = 30) with w2 | w2
        · rw [w2.1, w2.2]; exact b2
        · exact f2.2.2 a q (fun p => by unfold xFmp at p; omega)⟩
    exact ⟨_, _, _, N, by omega, g1, g2, xR.mk ho h1 h2 a2 Z1 N1 f2 (fun i k p => by unfold xFmp at p; omega) (M1.fr f3 (fun i q a p => by omega)) z2⟩
  | some l =>
    obtain ⟨a1, a2⟩ := hok l e
    obtain ⟨b1, b2, b3⟩ := mok l e
    have : k' = k := b1.trans a1.symm
    subst this
    obtain ⟨o1, o2, o3⟩ := xwsp_in n [] [] l e (fun x hx => absurd hx List.not_mem_nil) (Nat.zero_le _) (fun x hx => absurd hx List.not_mem_nil)
    obtain ⟨⟨p1, p2, p3, p4, p5, p6, p7⟩, p8⟩ := M1
    have hA : c.2.2.2.1.length ≤ 5 := ho.2.2.1.2.1
    have M2 : xqM S2 (c.1, c.2.1, l, c.2.2.2) δ := by
      refine ⟨⟨f2.XC X1, fun k hk => ⟨fun e => f2.i ((p2 k hk).1 e) (fun p => by unfold xFmp at p; omega), fun n t L e => ?_⟩, p3.fr f2 (fun k a p => by unfold xFmp at p; omega) (fun i k a p => by unfold xFmp at p; omega), p4.fr f2 (fun i k a p => by unfold xFmp at p; omega), ⟨b3, b2, o2, o3, o1⟩, p6.fp (by omega) ho.2.2.1.2.2 f2 (fun i k a p => by unfold xFmp at p; omega), f2.i p7 (fun p => by unfold xFmp at p; omega)⟩, p8.fr f2 (fun k p => by unfold xFmp at p; omega)⟩
      obtain ⟨u1, u2, u3, u4, u5⟩ := (p2 k hk).2 _ _ _ e
      exact ⟨u1.fk u3 u4 u5 f2 (fun i q z p => by unfold xFmp at p; omega), u2, u3, u4, u5⟩
    exact ⟨_, _, _, N, by omega, g1, g2, xR.mk (c := (c.1, c.2.1, l, c.2.2.2)) ⟨ho.1, ⟨o2, o3, o1⟩, ho.2.2⟩ h1 h2 a2 Z1 N1 f2 (fun i k p => by unfold xFmp at p; omega) M2 z2⟩
theorem t_answers {S : xS} {c : xPx} {δ : Nat → Int32} {y y' ta ta' fa ra sa : Nat} {ρ : Nat → Nat} {n : Nat} {t : Nat → Nat} {ou hi : List Nat} {fv : Int32} {N : Nat} (h : xK S c δ y y' ta ta' fa ra sa ρ) (hZ : xZc S n t ou hi fv) (hN : xNw S N) : ∃ k S1 P R, xcall false 40 j_X11_answers [.ref 0] S (some (.int k)) S1 ∧ xFm P R S S1 ∧ (∀ i k, P i k → i < 187) ∧ XC S1 ∧ xNw S1 N ∧ xZc S1 0 t ou hi fv ∧ (xwsp t n 5 n [] [] = none → k = -1 ∧ xqC S1 c δ) ∧ (∀ l, xwsp t n 5 n [] [] = some l → k = nI l.length ∧ xqC S1 (c.1, c.2.1, c.2.2.1, l, c.2.2.2.2) δ) := by
  obtain ⟨hy, ht, hw, hr, hX, ⟨r2, r3, r4, r5, r7, r8, r9, r10⟩, k0, hS, hB, hD, hY, hT, hV, hWB, hV2⟩ := h
  have m1 := hw.1.m
  have m2 := hw.2.1.m
  have m3 := hw.2.2.1.m
  have hmq : ∀ k, k < 7 → (ρ k) % 6 = 0 ∧ 18 ≤ ρ k ∧ ρ k ≤ 54 := fun k hk => (hr.1 k hk).m
  obtain ⟨k, S1, g1, f1, e1, hno, hok⟩ := c_answers (fa := ra) (fb := 0) (fc := 0) (fe := 0) 36 hw.2.2.1.o hX hZ.1 hZ.2.1.1 hZ.2.1.2 r9 r10 k0
  have X1 := f1.XC hX xRwa_n
  have nP : ∀ i k, ((i = 0) ∨ (2 ≤ i ∧ (i < sa ∨ sa + 3 < i)) ∨ (i = sa + 2 ∧ k = 0)) → ¬ xFwa sa (sa + 1) (sa + 2) (sa + 3) i k := fun i k a p => by unfold xFwa at p; omega
  have nR : ∀ i k, ((i = 0 ∧ k ≠ 9 ∧ k ≠ 10) ∨ 1 ≤ i) → ¬ xRwa i k := fun i k a p => by unfold xRwa at p; omega
  have hS1 : xSl S1 ρ c.2.2.2.2 := hS.fm hr f1 (fun k hk => nR _ _ (by omega)) (fun a i k ha q => by have := ha.m; exact nP _ _ (by omega))
  have hD1 : xDC S1 ρ c.2.2.2.2 δ := hD.fm hr f1 (fun a ha => by have := ha.m; exact nP _ _ (by omega))
  have hB1 : xSlB S1 ρ c.2.2.2.2 c.2.1 6 := hB.fm f1 (fun q k hq => by have := hmq q (by omega); exact nP _ _ (by omega))
  have hY1 := hY.fm f1 (fun i k q => nP i k (by omega))
  have hT1 := hT.fm f1 (fun i k q => nP i k (by omega))
  have k01 := f1.i k0 (nP _ _ (by omega))
  have hV1 := hV.fm f1 (fun i k q => nP i k (by omega))
  have hW1 := hWB.fm f1 (fun k => nP _ k (by omega))
  have hV21 := hV2.fm f1 (fun i k q => nP i k (by omega))
  have c0 : ∀ a, xWV a (a + 1) (a + 2) S1 c.2.2.2.1 → S1.2.1 (a + 2) 0 = nI 0 := fun a q => q.2.1.1 0 (Nat.zero_le _)
  refine ⟨k, S1, _, _, g1, f1, fun i k p => by unfold xFwa at p; omega, X1, hN.fm f1 ⟨nP _ _ (by omega), fun x => nP _ _ (by omega)⟩, hZ.tk f1 e1 (f1.i hZ.2.2.1 (nP _ _ (by omega))) (fun i k q => nP i k (by omega)), fun he => ?_, fun l he => ?_⟩
  · obtain ⟨q1, q2, q3⟩ := hno he
    exact ⟨q1, ⟨y, y', ta, ta', fa, ra, sa, ρ, hy, ht, hw, hr, X1, ⟨f1.r r2 (nR _ _ (by omega)), f1.r r3 (nR _ _ (by omega)), f1.r r4 (nR _ _ (by omega)), f1.r r5 (nR _ _ (by omega)), f1.r r7 (nR _ _ (by omega)), f1.r r8 (nR _ _ (by omega)), q2, q3⟩, k01, hS1, hB1, hD1, hY1, hT1, hV1, hW1, hV21⟩⟩
  · obtain ⟨q1, q2, q3, q4⟩ := hok l he
    exact ⟨q1, ⟨y, y', ta, ta', fa, sa, ra, ρ, hy, ht, ⟨hw.1, hw.2.2.1, hw.2.1, hw.2.2.2.2.1, hw.2.2.2.1, fun z => hw.2.2.2.2.2 z.symm⟩, hr, X1, ⟨f1.r r2 (nR _ _ (by omega)), f1.r r3 (nR _ _ (by omega)), f1.r r4 (nR _ _ (by omega)), f1.r r5 (nR _ _ (by omega)), f1.r r7 (nR _ _ (by omega)), f1.r r8 (nR _ _ (by omega)), q2, q3⟩, c0 _ hV21, hS1, hB1, hD1, hY1, hT1, hV1, hW1, q4⟩⟩
theorem r_answers {S : xS} {N : Nat} (h : xR S N) : xOk S N j_X11_answers j_X12_answers [] := by
  obtain ⟨c, δ, n, t, ou, hi, fv, ho, h1, h2, hC, hZ, hN, hM, hz⟩ := h
  obtain ⟨y, y', ta, ta', fa, ra, sa, ρ, K⟩ := hC
  obtain ⟨k, S1, P, R, g1, f1, lt, X1, N1, Z1, hno, hok⟩ := t_answers K hZ hN
  have M1 := hM.c f1 X1 lt
  have z1 := hz.c f1 lt
  obtain ⟨k', S2, g2, f2, e2, mno, mok⟩ := m_answers 38 X1 z1.1 z1.2.1.1 z1.2.1.2
  have z2 := z1.tk f2 e2 (f2.i z1.2.2.1 (fun p => by unfold xFma at p; omega)) (fun i k a p => by unfold xFma at p; omega)
  cases e : xwsp t n 5 n [] [] with
  | none =>
    obtain ⟨a1, a2⟩ := hno e
    obtain ⟨b1, b2, b3⟩ := mno e
    have : k' = k := b1.trans a1.symm
    subst this
    have f3 : xFl (fun i k => i = 187 ∧ (k = 0 ∨ k = 2 ∨ k = 3 ∨ k = 4)) S1 S2 := ⟨f2.1, f2.2.1, fun a q hq => by
      rcases Decidable.em (a = 197 ∨ a = 195) with w | w
      · exact b3 a q w
      · rcases Decidable.em (a = 187 ∧ q = 31) with w2 | w2
        · rw [w2.1, w2.2]; exact b2
        · exact f2.2.2 a q (fun p => by unfold xFma at p; omega)⟩
    exact ⟨_, _, _, N, by omega, g1, g2, xR.mk ho h1 h2 a2 Z1 N1 f2 (fun i k p => by unfold xFma at p; omega) (M1.fr f3 (fun i q a p => by omega)) z2⟩
  | some l =>
    obtain ⟨a1, a2⟩ := hok l e
    obtain ⟨b1, b2, b3⟩ := mok l e
    have : k' = k := b1.trans a1.symm
    subst this
    obtain ⟨o1, o2, o3⟩ := xwsp_in n [] [] l e (fun x hx => absurd hx List.not_mem_nil) (Nat.zero_le _) (fun x hx => absurd hx List.not_mem_nil)
    obtain ⟨⟨p1, p2, p3, p4, p5, p6, p7⟩, p8⟩ := M1
    have hA : c.2.2.2.1.length ≤ 5 := ho.2.2.1.2.1
    have M2 : xqM S2 (c.1, c.2.1, c.2.2.1, l, c.2.2.2.2) δ := by
      refine ⟨⟨f2.XC X1, fun k hk => ⟨fun e => f2.i ((p2 k hk).1 e) (fun p => by unfold xFma at p; omega), fun n t L e => ?_⟩, p3.fr f2 (fun k a p => by unfold xFma at p; omega) (fun i k a p => by unfold xFma at p; omega), p4.fr f2 (fun i k a p => by unfold xFma at p; omega), ⟨p5.1.fp p5.2.2.2.1 p5.2.2.2.2 f2 (fun i k a p => by unfold xFma at p; have := p5.2.2.2.1; omega), f2.i p5.2.1 (fun p => by unfold xFma at p; omega), p5.2.2⟩, b3, b2⟩, p8.fr f2 (fun k p => by unfold xFma at p; omega)⟩
      obtain ⟨u1, u2, u3, u4, u5⟩ := (p2 k hk).2 _ _ _ e
      exact ⟨u1.fk u3 u4 u5 f2 (fun i q z p => by unfold xFma at p; omega), u2, u3, u4, u5⟩
    exact ⟨_, _, _, N, by omega, g1, g2, xR.mk (c := (c.1, c.2.1, c.2.2.1, l, c.2.2.2.2)) ⟨ho.1, ho.2.1, ⟨o2, o3, o1⟩, ho.2.2.2⟩ h1 h2 a2 Z1 N1 f2 (fun i k p => by unfold xFma at p; omega) M2 z2⟩
