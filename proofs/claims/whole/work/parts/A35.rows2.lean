/-! more rows of both sides: games, last, records, the tape cut, forget and born -/
theorem r_game {S : xS} {N : Nat} (hb : N < 2 ^ 27) (see : Int32) (h : xR S N) : xOk S N j_X11_game j_X12_game [.int see] := by
  obtain ⟨c, δ, n, t, ou, hi, fv, ho, h1, h2, hC, hZ, hN, hM, hz⟩ := h
  have cs := hC.cs
  rcases Decidable.em (xzal c = true ∧ xgH (xzg c) ≤ 8 ∧ ∃ n, n < 2 ^ xgP (xzg c) ∧ see = nI n) with w | w
  · obtain ⟨w1, w2, w0, w3, w4⟩ := w
    obtain ⟨S1, g1, f1, N1⟩ := c_game 17 ho cs w1 w2 w3 w4 hN (by omega)
    have M1 := hM.c (f1.m (R := fun _ _ => False)) (f1.XC hC.X) (fun i k p => by omega)
    obtain ⟨S2, g2, f2⟩ := m_game 33 ho M1.1 w1 w2 w3 w4
    exact ⟨_, _, _, N + 1, by omega, g1, g2, xR.s1 ho h1 h2 hC hZ hN hM hz f1 (fun i k p => by omega) N1 f2 (fun i k p => by omega)⟩
  · obtain ⟨S1, g1, f1⟩ := c_game_no 17 ho cs w
    have M1 := hM.c (f1.m (R := fun _ _ => False)) (f1.XC hC.X) (fun i k p => by omega)
    obtain ⟨S2, g2, f2⟩ := m_game_no 33 ho M1.1 w
    exact ⟨_, _, _, N, by omega, g1, g2, xR.s1 ho h1 h2 hC hZ hN hM hz f1 (fun i k p => by omega) (hN.fr f1 ⟨by omega, fun x => by omega⟩) f2 (fun i k p => by omega)⟩
theorem r_says {S : xS} {N : Nat} (hb : N < 2 ^ 27) (see : Int32) (h : xR S N) : xOk S N j_X11_says j_X12_says [.int see] := by
  obtain ⟨c, δ, n, t, ou, hi, fv, ho, h1, h2, hC, hZ, hN, hM, hz⟩ := h
  have cs := hC.cs
  rcases Decidable.em (xzal c = true ∧ xgH (xzg c) ≤ 8 ∧ ∃ n, n < 2 ^ xgP (xzg c) ∧ see = nI n) with w | w
  · obtain ⟨w1, w2, w0, w3, w4⟩ := w
    obtain ⟨S1, g1, f1, N1⟩ := c_says 17 ho cs w1 w2 w3 w4 hN (by omega)
    have M1 := hM.c (f1.m (R := fun _ _ => False)) (f1.XC hC.X) (fun i k p => by omega)
    obtain ⟨S2, g2, f2⟩ := m_says 32 ho M1.1 w1 w2 w3 w4
    exact ⟨_, _, _, N + 1, by omega, g1, g2, xR.s1 ho h1 h2 hC hZ hN hM hz f1 (fun i k p => by omega) N1 f2 (fun i k p => by omega)⟩
  · obtain ⟨S1, g1, f1⟩ := c_says_no 17 ho cs w
    have M1 := hM.c (f1.m (R := fun _ _ => False)) (f1.XC hC.X) (fun i k p => by omega)
    obtain ⟨S2, g2, f2⟩ := m_says_no 32 ho M1.1 w
    exact ⟨_, _, _, N, by omega, g1, g2, xR.s1 ho h1 h2 hC hZ hN hM hz f1 (fun i k p => by omega) (hN.fr f1 ⟨by omega, fun x => by omega⟩) f2 (fun i k p => by omega)⟩
theorem r_sure {S : xS} {N : Nat} (hb : N < 2 ^ 27) (who : Int32) (h : xR S N) : xOk S N j_X11_sure j_X12_sure [.int who] := by
  obtain ⟨c, δ, n, t, ou, hi, fv, ho, h1, h2, hC, hZ, hN, hM, hz⟩ := h
  have cs := hC.cs
  rcases Decidable.em (xzal c = true ∧ xgH (xzg c) ≤ 8 ∧ ∃ n, n < xgP (xzg c) ∧ who = nI n) with w | w
  · obtain ⟨w1, w2, w0, w3, rfl⟩ := w
    obtain ⟨S1, g1, f1, N1⟩ := c_sure 17 ho cs w1 w2 w3 hN (by omega)
    have M1 := hM.c (f1.m (R := fun _ _ => False)) (f1.XC hC.X) (fun i k p => by omega)
    obtain ⟨S2, g2, f2⟩ := m_sure 33 ho M1.1 w1 w2 w3
    exact ⟨_, _, _, N + 1, by omega, g1, g2, xR.s1 ho h1 h2 hC hZ hN hM hz f1 (fun i k p => by omega) N1 f2 (fun i k p => by omega)⟩
  · obtain ⟨S1, g1, f1⟩ := c_sure_no 17 ho cs w
    have M1 := hM.c (f1.m (R := fun _ _ => False)) (f1.XC hC.X) (fun i k p => by omega)
    obtain ⟨S2, g2, f2⟩ := m_sure_no 33 ho M1.1 w
    exact ⟨_, _, _, N, by omega, g1, g2, xR.s1 ho h1 h2 hC hZ hN hM hz f1 (fun i k p => by omega) (hN.fr f1 ⟨by omega, fun x => by omega⟩) f2 (fun i k p => by omega)⟩
theorem r_mend {S : xS} {N : Nat} (hb : N < 2 ^ 27) (h : xR S N) : xOk S N j_X11_mend j_X12_mend [] := by
  obtain ⟨c, δ, n, t, ou, hi, fv, ho, h1, h2, hC, hZ, hN, hM, hz⟩ := h
  have cs := hC.cs
  rcases Decidable.em (xzal c = true ∧ xgH (xzg c) ≤ 8) with w | w
  · obtain ⟨S1, g1, f1, n', hn', N1⟩ := c_mend 34 ho cs w.1 w.2 hN (by omega)
    have M1 := hM.c (f1.m (R := fun _ _ => False)) (f1.XC hC.X) (fun i k p => by omega)
    obtain ⟨S2, g2, f2⟩ := m_mend 32 ho M1.1 w.1 w.2
    exact ⟨_, _, _, n', by omega, g1, g2, xR.s1 ho h1 h2 hC hZ hN hM hz f1 (fun i k p => by omega) N1 f2 (fun i k p => by omega)⟩
  · obtain ⟨S1, g1, f1⟩ := c_mend_no 34 ho cs w
    have M1 := hM.c (f1.m (R := fun _ _ => False)) (f1.XC hC.X) (fun i k p => by omega)
    obtain ⟨S2, g2, f2⟩ := m_mend_no 32 ho M1.1 w
    exact ⟨_, _, _, N, by omega, g1, g2, xR.s1 ho h1 h2 hC hZ hN hM hz f1 (fun i k p => by omega) (hN.fr f1 ⟨by omega, fun x => by omega⟩) f2 (fun i k p => by omega)⟩
theorem r_last {S : xS} {N : Nat} (nn : Int64) (h : xR S N) : xOkL S N j_X11_last j_X12_last [.long nn] := by
  obtain ⟨c, δ, n, t, ou, hi, fv, ho, h1, h2, hC, hZ, hN, hM, hz⟩ := h
  rcases Classical.em (∃ N n0 t L, nn = lN N ∧ 1 ≤ N ∧ N ≤ 1000000000000 ∧ c.2.2.2.2 (c.1.2.getD 0 0) = some (n0, t, L) ∧ xnoa L = false) with w | w
  · obtain ⟨N1, n0, t1, L, rfl, w1, w2, w3, w4⟩ := w
    exact ⟨_, _, _, N, by omega, c_last 36 ho hC.cs w1 w2 w3 w4, m_last 36 ho hM.1 w1 w2 w3 w4, xR.s0 ho h1 h2 hC hZ hN hM hz⟩
  · exact ⟨_, _, _, N, by omega, c_last_no 36 ho hC.cs w, m_last_no 36 ho hM.1 w, xR.s0 ho h1 h2 hC hZ hN hM hz⟩
theorem r_holds {S : xS} {N : Nat} (hb : N < 2 ^ 27) (h : xR S N) : xOk S N j_X11_holds j_X12_holds [] := by
  obtain ⟨c, δ, n, t, ou, hi, fv, ho, h1, h2, hC, hZ, hN, hM, hz⟩ := h
  have cs := hC.cs
  rcases Decidable.em (xzal c = true ∧ xgH (xzg c) ≤ 8 ∧ n ≤ 24 ∧ ∀ k, k < n → t k < xgP (xzg c)) with w | w
  · obtain ⟨w1, w2, w3, w4⟩ := w
    obtain ⟨v, S1, g1, f1, e1, N1, v1, v2⟩ := c_holds 34 ho cs hZ.1 hZ.2.1 w1 w2 w3 w4 hN (by omega)
    have hm := f1.m (R := fun _ _ => False)
    have M1 := hM.c hm (f1.XC hC.X) (fun i k p => by omega)
    have z1 := hz.c hm (fun i k p => by omega)
    obtain ⟨v', S2, g2, f2, e2, u1, u2⟩ := m_holds 34 ho M1.1 z1.1 z1.2.1 w1 w2 w3 w4
    rw [xHT_u u2 v2] at g2
    exact ⟨_, _, _, N + 1, by omega, g1, g2, xR.go (n' := 0) ho h1 h2 hC hZ hM hz (Nat.zero_le n) f1 (fun i k p => by omega) e1 N1 f2 (fun i k p => by omega) e2⟩
  · obtain ⟨S1, g1, f1, e1⟩ := c_holds_no 34 ho cs hZ.1 hZ.2.1 w
    have hm := f1.m (R := fun _ _ => False)
    have M1 := hM.c hm (f1.XC hC.X) (fun i k p => by omega)
    have z1 := hz.c hm (fun i k p => by omega)
    obtain ⟨S2, g2, f2, e2⟩ := m_holds_no 34 ho M1.1 z1.1 z1.2.1 w
    exact ⟨_, _, _, N, by omega, g1, g2, xR.go (n' := 0) ho h1 h2 hC hZ hM hz (Nat.zero_le n) f1 (fun i k p => by omega) e1 (hN.fr f1 ⟨by omega, fun x => by omega⟩) f2 (fun i k p => by omega) e2⟩
theorem xbi_u {p q : Nat → Bool} : ∀ m, (∀ s, s < m → p s = q s) → xbi p m = xbi q m := by
  intro m h
  induction m with
  | zero => rfl
  | succ m ih => rw [xbi, xbi, ih (fun s hs => h s (by omega)), h m (by omega)]
theorem r_explain {S : xS} {N : Nat} (hb : N < 2 ^ 27) (h : xR S N) : xOk S N j_X11_explain j_X12_explain [] := by
  obtain ⟨c, δ, n, t, ou, hi, fv, ho, h1, h2, hC, hZ, hN, hM, hz⟩ := h
  have cs := hC.cs
  rcases Decidable.em (xgH (xzg c) ≤ 8 ∧ n ≤ 24 ∧ ∀ k, k < n → t k < xgP (xzg c)) with w | w
  · obtain ⟨w2, w3, w4⟩ := w
    obtain ⟨p, S1, g1, f1, e1, hp, N', hN', N1⟩ := c_explain 34 ho cs hZ.1 hZ.2.1 w2 w3 w4 hN (by omega)
    have hm := f1.m (R := fun _ _ => False)
    have M1 := hM.c hm (f1.XC hC.X) (fun i k p => by omega)
    have z1 := hz.c hm (fun i k p => by omega)
    obtain ⟨q, S2, g2, f2, e2, hq⟩ := m_explain 35 ho M1.1 z1.1 z1.2.1 w2 w3 w4
    have e : xbi q 6 = xbi p 6 := xbi_u 6 (fun s hs => by
      have := (hp s hs).trans (hq s hs).symm
      cases hps : p s <;> cases hqs : q s
      · rfl
      · rw [hps, hqs] at this; exact absurd (this.mpr rfl) (by decide)
      · rw [hps, hqs] at this; exact absurd (this.mp rfl) (by decide)
      · rfl)
    rw [e] at g2
    exact ⟨_, _, _, N', by omega, g1, g2, xR.go (n' := 0) ho h1 h2 hC hZ hM hz (Nat.zero_le n) f1 (fun i k p => by omega) e1 N1 f2 (fun i k p => by omega) e2⟩
  · obtain ⟨S1, g1, f1, e1⟩ := c_explain_no 34 ho cs hZ.1 hZ.2.1 w
    have hm := f1.m (R := fun _ _ => False)
    have M1 := hM.c hm (f1.XC hC.X) (fun i k p => by omega)
    have z1 := hz.c hm (fun i k p => by omega)
    obtain ⟨S2, g2, f2, e2⟩ := m_explain_no 35 ho M1.1 z1.1 z1.2.1 w
    exact ⟨_, _, _, N, by omega, g1, g2, xR.go (n' := 0) ho h1 h2 hC hZ hM hz (Nat.zero_le n) f1 (fun i k p => by omega) e1 (hN.fr f1 ⟨by omega, fun x => by omega⟩) f2 (fun i k p => by omega) e2⟩
theorem r_end {S : xS} {N : Nat} (k : Int32) (h : xR S N) : xOk S N j_X11_end j_X12_end [.int k] := by
  obtain ⟨c, δ, n, t, ou, hi, fv, ho, h1, h2, hC, hZ, hN, hM, hz⟩ := h
  have g1 := c_end k 40 hC.X hZ.1
  cases hk : xcut k n with
  | false =>
    rw [hk, if_neg Bool.false_ne_true] at g1
    have g2 := m_end k 40 hC.X hz.1
    rw [hk, if_neg Bool.false_ne_true] at g2
    exact ⟨_, _, _, N, by omega, g1, g2, xR.s0 ho h1 h2 hC hZ hN hM hz⟩
  | true =>
    rw [hk, if_pos rfl] at g1
    have hk' := of_decide_eq_true hk
    obtain ⟨j, hj, rfl⟩ := nI_of hk'.1
    have hjn : j ≤ n := (nI_leI hj (by have := hZ.2.1.1; omega)).mp hk'.2
    have f1 : xFl (fun i k => i = 1 ∧ k = 1) S (xSI S 1 1 (nI j)) := (xFl.rf S).SI ⟨rfl, rfl⟩
    have hm := f1.m (R := fun _ _ => False)
    have M1 := hM.c hm (f1.XC hC.X) (fun i k p => by omega)
    have z1 := hz.c hm (fun i k p => by omega)
    have g2 := m_end (nI j) 40 M1.1.1 z1.1
    rw [hk, if_pos rfl] at g2
    have f2 : xFl (fun i k => i = 187 ∧ (k = 0 ∨ k = 2)) (xSI S 1 1 (nI j)) (xSI (xSI (xSI S 1 1 (nI j)) 187 0 (nI 0)) 187 2 (nI j)) := ((xFl.rf _).SI ⟨rfl, Or.inl rfl⟩).SI ⟨rfl, Or.inr rfl⟩
    exact ⟨_, _, _, N, by omega, g1, g2, xR.go (n' := j) ho h1 h2 hC hZ hM hz hjn f1 (fun i k p => by omega) (xI_same _ _ _ _) (hN.fr f1 ⟨by omega, fun x => by omega⟩) f2 (fun i k p => by omega) (xI_same _ _ _ _)⟩
theorem r_beats {S : xS} {N : Nat} (h : xR S N) : xOk S N j_X11_beats j_X12_beats [] := by
  obtain ⟨c, δ, n, t, ou, hi, fv, ho, h1, h2, hC, hZ, hN, hM, hz⟩ := h
  have hC0 := hC
  obtain ⟨y, y', ta, ta', fa, ra, sa, ρ, K⟩ := hC
  obtain ⟨hy, ht, hw, hr, hX, ⟨r2, r3, r4, r5, r7, r8, r9, r10⟩, k0, hS, hB, hD, hY, hT, hV, hWB, hV2⟩ := K
  have f1 : xFl (fun i k => i = 1 ∧ k = 1) S (xSI S 1 1 (nI 0)) := (xFl.rf S).SI ⟨rfl, rfl⟩
  have g1 := c_beats 37 (show xTgC ta (ta + 1) (ta + 2) by unfold xTgC; omega) hX hZ.1 hZ.2.1.1 hZ.2.1.2 r2 hT
  have hC := hC0
  have hm := f1.m (R := fun _ _ => False)
  have M1 := hM.c hm (f1.XC hC.X) (fun i k p => by omega)
  have z1 := hz.c hm (fun i k p => by omega)
  obtain ⟨S2, g2, f2, e2⟩ := m_beats 37 M1.1.1 z1.1 z1.2.1.1 z1.2.1.2 M1.1.2.2.1
  exact ⟨_, _, _, N, by omega, g1, g2, xR.go (n' := 0) ho h1 h2 hC hZ hM hz (Nat.zero_le n) f1 (fun i k p => by omega) (xI_same _ _ _ _) (hN.fr f1 ⟨by omega, fun x => by omega⟩) f2 (fun i k p => by omega) e2⟩
theorem r_strong {S : xS} {N : Nat} (h : xR S N) : xOk S N j_X11_strong j_X12_strong [] := by
  obtain ⟨c, δ, n, t, ou, hi, fv, ho, h1, h2, hC, hZ, hN, hM, hz⟩ := h
  have hC0 := hC
  obtain ⟨y, y', ta, ta', fa, ra, sa, ρ, K⟩ := hC
  obtain ⟨hy, ht, hw, hr, hX, ⟨r2, r3, r4, r5, r7, r8, r9, r10⟩, k0, hS, hB, hD, hY, hT, hV, hWB, hV2⟩ := K
  have f1 : xFl (fun i k => i = 1 ∧ k = 1) S (xSI S 1 1 (nI 0)) := (xFl.rf S).SI ⟨rfl, rfl⟩
  have g1 := c_strong 37 (show xTgC ta (ta + 1) (ta + 2) by unfold xTgC; omega) hX hZ.1 hZ.2.1.1 hZ.2.1.2 r2 hT
  have hC := hC0
  have hm := f1.m (R := fun _ _ => False)
  have M1 := hM.c hm (f1.XC hC.X) (fun i k p => by omega)
  have z1 := hz.c hm (fun i k p => by omega)
  obtain ⟨S2, g2, f2, e2⟩ := m_strong 37 M1.1.1 z1.1 z1.2.1.1 z1.2.1.2 M1.1.2.2.1
  exact ⟨_, _, _, N, by omega, g1, g2, xR.go (n' := 0) ho h1 h2 hC hZ hM hz (Nat.zero_le n) f1 (fun i k p => by omega) (xI_same _ _ _ _) (hN.fr f1 ⟨by omega, fun x => by omega⟩) f2 (fun i k p => by omega) e2⟩
