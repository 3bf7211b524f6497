/-! more rows of both sides: tongue, yard -/
theorem xTb0 (S : xS) (t : Nat → Nat) : xTb S 0 t := ⟨Nat.zero_le _, fun k hk => absurd hk (Nat.not_lt_zero k)⟩
theorem xTr0 (S : xS) (t : Nat → Nat) : xTr S 0 t := ⟨Nat.zero_le _, fun k hk => absurd hk (Nat.not_lt_zero k)⟩
theorem xrow.fm {S S' : xS} {r : Nat} {l : List Nat} {P R : Nat → Nat → Prop} (h : xrow S r l) (hf : xFm P R S S') (hn : ∀ k, ¬ P r k) : xrow S' r l := fun k hk => hf.i (h k hk) (hn k)
/-- the tape taken, the fault set: the class; the reference -/
theorem xZc.tk {S S' : xS} {n : Nat} {t : Nat → Nat} {ou hi : List Nat} {fv fv' : Int32} {P R : Nat → Nat → Prop} (h : xZc S n t ou hi fv) (hf : xFm P R S S') (e1 : S'.2.1 1 1 = nI 0) (e2 : S'.2.1 0 11 = fv') (hn : ∀ i k, ((i = 0 ∧ (k = 13 ∨ k = 18)) ∨ i = 72 ∨ i = 186) → ¬ P i k) : xZc S' 0 t ou hi fv' :=
  ⟨e1, xTb0 _ _, e2, hf.i h.2.2.2.1 (hn _ _ (by omega)), h.2.2.2.2.1.fm hf (fun k => hn _ _ (by omega)), hf.i h.2.2.2.2.2.1 (hn _ _ (by omega)), h.2.2.2.2.2.2.fm hf (fun k => hn _ _ (by omega))⟩
theorem xZm.tk {S S' : xS} {n : Nat} {t : Nat → Nat} {ou hi : List Nat} {fv fv' : Int32} {P : Nat → Nat → Prop} (h : xZm S n t ou hi fv) (hf : xFl P S S') (e1 : S'.2.1 187 2 = nI 0) (e2 : S'.2.1 187 9 = fv') (hn : ∀ i k, ((i = 187 ∧ (k = 43 ∨ k = 72)) ∨ i = 205 ∨ i = 219) → ¬ P i k) : xZm S' 0 t ou hi fv' :=
  ⟨e1, xTr0 _ _, e2, hf.i h.2.2.2.1 (hn _ _ (by omega)), h.2.2.2.2.1.fr hf (fun k => hn _ _ (by omega)), hf.i h.2.2.2.2.2.1 (hn _ _ (by omega)), h.2.2.2.2.2.2.fr hf (fun k => hn _ _ (by omega))⟩
theorem t_tongue {S : xS} {c : xPx} {δ : Nat → Int32} {y y' ta ta' fa ra sa : Nat} {ρ : Nat → Nat} {n : Nat} {t : Nat → Nat} {ou hi : List Nat} {fv : Int32} {N : Nat} (h : xK S c δ y y' ta ta' fa ra sa ρ) (hZ : xZc S n t ou hi fv) (hN : xNw S N) : ∃ k S1 P R, xcall false 40 j_X11_tongue [.ref 0] S (some (.int k)) S1 ∧ xFm P R S S1 ∧ (∀ i k, P i k → i < 187) ∧ XC S1 ∧ xNw S1 N ∧ (∀ e, (xtxt t n xtws (xtrule t n) 5 0 0 0 (17842449, [], [], 0)) = .error e → k = -1 - nI e.2 ∧ xqC S1 c δ ∧ xZc S1 0 t ou hi (nI e.1)) ∧ (∀ c2 v', (xtxt t n xtws (xtrule t n) 5 0 0 0 (17842449, [], [], 0)) = .ok (c2, v') → k = nI c2 ∧ xqC S1 (c.1, v', c.2.2) δ ∧ xZc S1 0 t ou hi (nI 0)) := by
  obtain ⟨hy, ht, hw, hr, hX, ⟨r2, r3, r4, r5, r7, r8, r9, r10⟩, k0, hS, hB, hD, hY, hT, hV, hWB, hV2⟩ := h
  have m1 := hw.1.m
  have m2 := hw.2.1.m
  have m3 := hw.2.2.1.m
  have hmq : ∀ k, k < 7 → (ρ k) % 6 = 0 ∧ 18 ≤ ρ k ∧ ρ k ≤ 54 := fun k hk => (hr.1 k hk).m
  have hc : xTgC ta (ta + 1) (ta + 2) := by unfold xTgC; omega
  have hc' : xTgC ta' (ta' + 1) (ta' + 2) := by unfold xTgC; omega
  obtain ⟨k, S1, g1, f1, e1, her, hok⟩ := c_tongue (ρ := ρ) 34 hc hc' hw.1.o hr hX hZ.1 hZ.2.1.1 hZ.2.1.2 r2 r3 r8 hV hS
  have X1 := f1.XC hX xRtc_n
  have nP : ∀ i k, ((i = 0 ∧ k ≠ 11) ∨ (11 ≤ i ∧ i ≠ fa + 3 ∧ (i < 22 ∨ 58 < i ∨ i % 6 ≠ 4)) ∨ i = ta ∨ i = ta + 1 ∨ i = ta + 2) → ¬ xFtc ta' (ta' + 1) (ta' + 2) (fa + 3) i k := fun i k a p => by unfold xFtc xBc at p; omega
  have nR : ∀ i k, ((i = 0 ∧ k ≠ 2 ∧ k ≠ 3) ∨ 4 ≤ i) → ¬ xRtc i k := fun i k a p => by unfold xRtc at p; omega
  have hS1 : xSl S1 ρ c.2.2.2.2 := hS.fm hr f1 (fun k hk => nR _ _ (by omega)) (fun a i k ha q => by have := ha.m; exact nP _ _ (by omega))
  have hD1 : xDC S1 ρ c.2.2.2.2 δ := hD.fm hr f1 (fun a ha => by have := ha.m; exact nP _ _ (by omega))
  have hY1 := hY.fm f1 (fun i k q => nP i k (by omega))
  have hV1 := hV.fm f1 (fun i k q => nP i k (by omega))
  have hV21 := hV2.fm f1 (fun i k q => nP i k (by omega))
  have k01 := f1.i k0 (nP _ _ (by omega))
  have Z : ∀ fv', S1.2.1 0 11 = fv' → xZc S1 0 t ou hi fv' := fun fv' e => hZ.tk f1 e1 e (fun i k q => nP i k (by omega))
  refine ⟨k, S1, _, _, g1, f1, fun i k p => by unfold xFtc xBc at p; omega, X1, hN.fm f1 ⟨nP _ _ (by omega), fun x => nP _ _ (by omega)⟩, fun e he => ?_, fun c2 v' he => ?_⟩
  · obtain ⟨q1, q2, q3, q4, q5⟩ := her e he
    have hT1 := hT.fm f1 (fun i k q => nP i k (by omega))
    exact ⟨q1, ⟨y, y', ta, ta', fa, ra, sa, ρ, hy, ht, hw, hr, X1, ⟨q3, q4, f1.r r4 (nR _ _ (by omega)), f1.r r5 (nR _ _ (by omega)), f1.r r7 (nR _ _ (by omega)), f1.r r8 (nR _ _ (by omega)), f1.r r9 (nR _ _ (by omega)), f1.r r10 (nR _ _ (by omega))⟩, k01, hS1, fun k hk n1 t1 L1 es i hi => (q5 _ _ (Or.inr (by have := hmq k (by omega); unfold xBc; omega))).trans (hB k hk _ _ _ es i hi), hD1, hY1, hT1, hV1, fun i hi => (q5 _ _ (Or.inl rfl)).trans (hWB i hi), hV21⟩, Z _ q2⟩
  · obtain ⟨q1, q2, q3, q4, q5, q6, q7⟩ := hok c2 v' he
    exact ⟨q1, ⟨y, y', ta', ta, fa, ra, sa, ρ, hy, by omega, hw, hr, X1, ⟨q3, q4, f1.r r4 (nR _ _ (by omega)), f1.r r5 (nR _ _ (by omega)), f1.r r7 (nR _ _ (by omega)), f1.r r8 (nR _ _ (by omega)), f1.r r9 (nR _ _ (by omega)), f1.r r10 (nR _ _ (by omega))⟩, k01, hS1, q7, hD1, hY1, q5, hV1, q6, hV21⟩, Z _ q2⟩
theorem r_tongue {S : xS} {N : Nat} (h : xR S N) : xOk S N j_X11_tongue j_X12_tongue [] := by
  obtain ⟨c, δ, n, t, ou, hi, fv, ho, h1, h2, hC, hZ, hN, hM, hz⟩ := h
  obtain ⟨y, y', ta, ta', fa, ra, sa, ρ, K⟩ := hC
  obtain ⟨k, S1, P, R, g1, f1, lt, X1, N1, her, hok⟩ := t_tongue K hZ hN
  have M1 := hM.c f1 X1 lt
  have z1 := hz.c f1 lt
  obtain ⟨r, S2, g2, k', rfl, e0, e2, mer, mok⟩ := m_tongue 35 X1 z1.1 z1.2.1.1 z1.2.1.2
  cases e : (xtxt t n xtws (xtrule t n) 5 0 0 0 (17842449, [], [], 0)) with
  | error w =>
    obtain ⟨a1, a2, a3⟩ := her w e
    obtain ⟨b1, f2, b3⟩ := mer w e
    have : k' = k := b1.trans a1.symm
    subst this
    exact ⟨_, _, _, N, by omega, g1, g2, xR.mk ho h1 h2 a2 a3 N1 f2 (fun i k p => by unfold xFE at p; omega) (M1.fr f2 (fun i q a p => by unfold xFE at p; omega)) (z1.tk f2 e2 b3 (fun i k a p => by unfold xFE at p; omega))⟩
  | ok w =>
    obtain ⟨c2, v'⟩ := w
    obtain ⟨a1, a2, a3⟩ := hok c2 v' e
    obtain ⟨b1, f2, b3, b4⟩ := mok c2 v' e
    have : k' = k := b1.trans a1.symm
    subst this
    have M2 : xqM S2 (c.1, v', c.2.2) δ := ⟨⟨f2.XC X1, M1.1.2.1.fr f2 (fun i k a p => by unfold xFT at p; omega), b4, M1.1.2.2.2.1.fr f2 (fun i k a p => by unfold xFT at p; omega), M1.1.2.2.2.2.1.fr f2 (fun i k a p => by unfold xFT at p; omega), M1.1.2.2.2.2.2.1.f5 (by decide) f2 (fun i k a p => by unfold xFT at p; omega), f2.i M1.1.2.2.2.2.2.2 (fun p => by unfold xFT at p; omega)⟩, M1.2.fr f2 (fun k p => by unfold xFT at p; omega)⟩
    exact ⟨_, _, _, N, by omega, g1, g2, xR.mk (c := (c.1, v', c.2.2)) ho h1 h2 a2 a3 N1 f2 (fun i k p => by unfold xFT at p; omega) M2 (z1.tk f2 e2 b3 (fun i k a p => by unfold xFT at p; omega))⟩
theorem t_yard {S : xS} {c : xPx} {δ : Nat → Int32} {y y' ta ta' fa ra sa : Nat} {ρ : Nat → Nat} {n : Nat} {t : Nat → Nat} {ou hi : List Nat} {fv : Int32} {N : Nat} (h : xK S c δ y y' ta ta' fa ra sa ρ) (hZ : xZc S n t ou hi fv) (hN : xNw S N) : ∃ k S1 P R, xcall false 40 j_X11_yard [.ref 0] S (some (.int k)) S1 ∧ xFm P R S S1 ∧ (∀ i k, P i k → i < 187) ∧ XC S1 ∧ xNw S1 N ∧ (∀ e, (xtxt t n xytws (xyrule t n) 9 0 0 0 (xyf0, [0])) = .error e → k = -1 - nI e.2 ∧ xqC S1 c δ ∧ xZc S1 0 t ou hi (nI e.1)) ∧ (∀ c2 v', (xtxt t n xytws (xyrule t n) 9 0 0 0 (xyf0, [0])) = .ok (c2, v') → k = nI c2 ∧ xqC S1 (v', c.2) δ ∧ xZc S1 0 t ou hi (nI 0) ∧ xYok v') := by
  obtain ⟨hy, ht, hw, hr, hX, ⟨r2, r3, r4, r5, r7, r8, r9, r10⟩, k0, hS, hB, hD, hY, hT, hV, hWB, hV2⟩ := h
  have m1 := hw.1.m
  have m2 := hw.2.1.m
  have m3 := hw.2.2.1.m
  have hmq : ∀ k, k < 7 → (ρ k) % 6 = 0 ∧ 18 ≤ ρ k ∧ ρ k ≤ 54 := fun k hk => (hr.1 k hk).m
  have hc : xYdC y (y + 1) (y + 2) := by unfold xYdC; omega
  have hc' : xYdC y' (y' + 1) (y' + 2) := by unfold xYdC; omega
  obtain ⟨k, S1, g1, f1, e1, her, hok⟩ := c_yard 34 hc hc' hX hZ.1 hZ.2.1.1 hZ.2.1.2 r4 r5
  have X1 := f1.XC hX xRyc_n
  have nP : ∀ i k, ((i = 0 ∧ k ≠ 11) ∨ (4 ≤ i ∧ (i < 11 ∨ 16 < i)) ∨ i = y ∨ i = y + 1 ∨ i = y + 2) → ¬ xFyc y' (y' + 1) (y' + 2) i k := fun i k a p => by unfold xFyc at p; omega
  have nR : ∀ i k, ((i = 0 ∧ k ≠ 4 ∧ k ≠ 5) ∨ 4 ≤ i) → ¬ xRyc i k := fun i k a p => by unfold xRyc at p; omega
  have hS1 : xSl S1 ρ c.2.2.2.2 := hS.fm hr f1 (fun k hk => nR _ _ (by omega)) (fun a i k ha q => by have := ha.m; exact nP _ _ (by omega))
  have hD1 : xDC S1 ρ c.2.2.2.2 δ := hD.fm hr f1 (fun a ha => by have := ha.m; exact nP _ _ (by omega))
  have hB1 : xSlB S1 ρ c.2.2.2.2 c.2.1 6 := hB.fm f1 (fun q k hq => by have := hmq q (by omega); exact nP _ _ (by omega))
  have hT1 := hT.fm f1 (fun i k q => nP i k (by omega))
  have hV1 := hV.fm f1 (fun i k q => nP i k (by omega))
  have hW1 := hWB.fm f1 (fun k => nP _ k (by omega))
  have hV21 := hV2.fm f1 (fun i k q => nP i k (by omega))
  have k01 := f1.i k0 (nP _ _ (by omega))
  have Z : ∀ fv', S1.2.1 0 11 = fv' → xZc S1 0 t ou hi fv' := fun fv' e => hZ.tk f1 e1 e (fun i k q => nP i k (by omega))
  refine ⟨k, S1, _, _, g1, f1, fun i k p => by unfold xFyc at p; omega, X1, hN.fm f1 ⟨nP _ _ (by omega), fun x => nP _ _ (by omega)⟩, fun e he => ?_, fun c2 v' he => ?_⟩
  · obtain ⟨q1, q2, q3, q4⟩ := her e he
    have hY1 := hY.fm f1 (fun i k q => nP i k (by omega))
    exact ⟨q1, ⟨y, y', ta, ta', fa, ra, sa, ρ, hy, ht, hw, hr, X1, ⟨f1.r r2 (nR _ _ (by omega)), f1.r r3 (nR _ _ (by omega)), q3, q4, f1.r r7 (nR _ _ (by omega)), f1.r r8 (nR _ _ (by omega)), f1.r r9 (nR _ _ (by omega)), f1.r r10 (nR _ _ (by omega))⟩, k01, hS1, hB1, hD1, hY1, hT1, hV1, hW1, hV21⟩, Z _ q2⟩
  · obtain ⟨q1, q2, q3, q4, q5⟩ := hok c2 v' he
    exact ⟨q1, ⟨y', y, ta, ta', fa, ra, sa, ρ, by omega, ht, hw, hr, X1, ⟨f1.r r2 (nR _ _ (by omega)), f1.r r3 (nR _ _ (by omega)), q3, q4, f1.r r7 (nR _ _ (by omega)), f1.r r8 (nR _ _ (by omega)), f1.r r9 (nR _ _ (by omega)), f1.r r10 (nR _ _ (by omega))⟩, k01, hS1, hB1, hD1, q5, hT1, hV1, hW1, hV21⟩, Z _ q2, q5.2.2.2⟩
theorem r_yard {S : xS} {N : Nat} (h : xR S N) : xOk S N j_X11_yard j_X12_yard [] := by
  obtain ⟨c, δ, n, t, ou, hi, fv, ho, h1, h2, hC, hZ, hN, hM, hz⟩ := h
  obtain ⟨y, y', ta, ta', fa, ra, sa, ρ, K⟩ := hC
  obtain ⟨k, S1, P, R, g1, f1, lt, X1, N1, her, hok⟩ := t_yard K hZ hN
  have M1 := hM.c f1 X1 lt
  have z1 := hz.c f1 lt
  obtain ⟨r, S2, g2, k', rfl, e0, e2, mer, mok⟩ := m_yard 35 X1 z1.1 z1.2.1.1 z1.2.1.2
  cases e : (xtxt t n xytws (xyrule t n) 9 0 0 0 (xyf0, [0])) with
  | error w =>
    obtain ⟨a1, a2, a3⟩ := her w e
    obtain ⟨b1, f2, b3⟩ := mer w e
    have : k' = k := b1.trans a1.symm
    subst this
    exact ⟨_, _, _, N, by omega, g1, g2, xR.mk ho h1 h2 a2 a3 N1 f2 (fun i k p => by unfold xFYE at p; omega) (M1.fr f2 (fun i q a p => by unfold xFYE at p; omega)) (z1.tk f2 e2 b3 (fun i k a p => by unfold xFYE at p; omega))⟩
  | ok w =>
    obtain ⟨c2, v'⟩ := w
    obtain ⟨a1, a2, a3, a4⟩ := hok c2 v' e
    obtain ⟨b1, f2, b3, b4⟩ := mok c2 v' e
    have : k' = k := b1.trans a1.symm
    subst this
    have M2 : xqM S2 (v', c.2) δ := ⟨⟨f2.XC X1, M1.1.2.1.fr f2 (fun i k a p => by unfold xFYT at p; omega), M1.1.2.2.1.fr f2 (fun k a p => by unfold xFYT at p; omega) (fun i k a p => by unfold xFYT at p; omega), b4, M1.1.2.2.2.2.1.fr f2 (fun i k a p => by unfold xFYT at p; omega), M1.1.2.2.2.2.2.1.f5 (by decide) f2 (fun i k a p => by unfold xFYT at p; omega), f2.i M1.1.2.2.2.2.2.2 (fun p => by unfold xFYT at p; omega)⟩, M1.2.fr f2 (fun k p => by unfold xFYT at p; omega)⟩
    exact ⟨_, _, _, N, by omega, g1, g2, xR.mk (c := (v', c.2)) ⟨a4, ho.2⟩ h1 h2 a2 a3 N1 f2 (fun i k p => by unfold xFYT at p; omega) M2 (z1.tk f2 e2 b3 (fun i k a p => by unfold xFYT at p; omega))⟩
