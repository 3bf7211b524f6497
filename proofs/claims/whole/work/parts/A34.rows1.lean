/-! a call on each side: answers alike, and the relation again -/
def xOk (S : xS) (N : Nat) (jc jm : Nat) (as : List Value) : Prop := ∃ k S1 S2 N', N' ≤ N + 50 ∧ xcall false 40 jc (.ref 0 :: as) S (some (.int k)) S1 ∧ xcall false 40 jm (.ref 187 :: as) S1 (some (.int k)) S2 ∧ xR S2 N'
def xOkL (S : xS) (N : Nat) (jc jm : Nat) (as : List Value) : Prop := ∃ k S1 S2 N', N' ≤ N + 50 ∧ xcall false 40 jc (.ref 0 :: as) S (some (.long k)) S1 ∧ xcall false 40 jm (.ref 187 :: as) S1 (some (.long k)) S2 ∧ xR S2 N'
def xNoS (σ : xSv) (sv : Int32) : Prop := xsl sv = false ∨ ∃ s, s < 6 ∧ sv = nI s ∧ σ s = none
theorem xslot (σ : xSv) (sv : Int32) : xNoS σ sv ∨ ∃ s n t L, s < 6 ∧ sv = nI s ∧ σ s = some (n, t, L) := by
  cases h : xsl sv with
  | false => exact Or.inl (Or.inl h)
  | true =>
    have h' := of_decide_eq_true h
    obtain ⟨s, hs, rfl⟩ := nI_of h'.1
    have hs6 : s < 6 := (nI_ltI hs (show 6 < 2 ^ 31 by decide)).mp h'.2
    cases e : σ s with
    | none => exact Or.inl (Or.inr ⟨s, hs6, rfl, e⟩)
    | some x => exact Or.inr ⟨s, x.1, x.2.1, x.2.2, hs6, rfl, e⟩
theorem c_no {S : xS} {ρ : Nat → Nat} {σ : xSv} {sv : Int32} (hr : xro ρ) (hX : XC S) (hS : xSl S ρ σ) (h : xNoS σ sv) (d : Nat) : xcall false (d + 1) j_X11_rhymeIn [.ref 0, .int sv] S (some .null) S := by
  rcases h with h | ⟨s, hs, rfl, e⟩
  · exact c_rhymeIn_out d hX h
  · exact c_rhymeIn_nil d (hr.1 s (by omega)) hs hX (hS s hs).1 ((hS s hs).2.1 e)
theorem c_yes {S : xS} {ρ : Nat → Nat} {σ : xSv} {s n : Nat} {t : Nat → Nat} {L : List xLn} (hr : xro ρ) (hX : XC S) (hS : xSl S ρ σ) (hs : s < 6) (e : σ s = some (n, t, L)) (d : Nat) : xcall false (d + 1) j_X11_rhymeIn [.ref 0, .int (nI s)] S (some (.ref (ρ s))) S :=
  c_rhymeIn d (hr.1 s (by omega)) hs hX (hS s hs).1 ((hS s hs).2.2 _ _ _ e).1
theorem xMl.s0 {S : xS} {σ : xSv} {v : Int32} (h : xMl S σ) : xMl (xSI S 187 0 v) σ := h.fr (P := fun i k => i = 187 ∧ k = 0) ((xFl.rf S).SI ⟨rfl, rfl⟩) (fun i k w => by omega)
theorem m_no {S : xS} {σ : xSv} {sv : Int32} (hX : XC S) (hS : xMl S σ) (h : xNoS σ sv) (d : Nat) : xcall false d j_X12_has [.ref 187, .int sv] (xSI S 187 0 (nI 0)) (some (.int (xB false))) (xSI S 187 0 (nI 0)) := by
  have X0 : XC (xSI S 187 0 (nI 0)) := hX
  rcases h with h | ⟨s, hs, rfl, e⟩
  · exact m_has_out d X0 h
  · have := m_has_n d hs X0 hS.s0
    rw [e] at this
    exact this
theorem m_yes {S : xS} {σ : xSv} {s n : Nat} {t : Nat → Nat} {L : List xLn} (hX : XC S) (hS : xMl S σ) (hs : s < 6) (e : σ s = some (n, t, L)) (d : Nat) : xcall false d j_X12_has [.ref 187, .int (nI s)] (xSI S 187 0 (nI 0)) (some (.int (xB true))) (xSI S 187 0 (nI 0)) := by
  have X0 : XC (xSI S 187 0 (nI 0)) := hX
  have := m_has_n d hs X0 hS.s0
  rw [e] at this
  exact this
theorem xNw.s0 {S : xS} {N : Nat} {v : Int32} (h : xNw S N) : xNw (xSI S 187 0 v) N := h.fr (P := fun i k => i = 187 ∧ k = 0) ((xFl.rf S).SI ⟨rfl, rfl⟩) ⟨by omega, fun x => by omega⟩
theorem xR.s0 {S : xS} {c : xPx} {δ : Nat → Int32} {n : Nat} {t : Nat → Nat} {ou hi : List Nat} {fv : Int32} {N : Nat} (ho : xzo c) (h1 : ou.length ≤ 240) (h2 : hi.length ≤ 24) (hC : xqC S c δ) (hZ : xZc S n t ou hi fv) (hN : xNw S N) (hM : xqM S c δ) (hz : xZm S n t ou hi fv) {v : Int32} : xR (xSI S 187 0 v) N := by
  have F0 : xFl (fun i k => i = 187 ∧ k = 0) S (xSI S 187 0 v) := (xFl.rf S).SI ⟨rfl, rfl⟩
  exact xR.go (P := fun _ _ => False) ho h1 h2 hC hZ hM hz (Nat.le_refl n) (xFl.rf S) (fun i k p => p.elim) hZ.1 hN F0 (fun i k p => by omega) (F0.i hz.1 (by omega))
theorem xR.s1 {S : xS} {c : xPx} {δ : Nat → Int32} {n : Nat} {t : Nat → Nat} {ou hi : List Nat} {fv : Int32} {N : Nat} (ho : xzo c) (h1 : ou.length ≤ 240) (h2 : hi.length ≤ 24) (hC : xqC S c δ) (hZ : xZc S n t ou hi fv) (hN : xNw S N) (hM : xqM S c δ) (hz : xZm S n t ou hi fv) {S1 : xS} {P : Nat → Nat → Prop} (hP : xFl P S S1) (pP : ∀ i k, P i k → 73 ≤ i ∧ i < 186) {N1 : Nat} (hN1 : xNw S1 N1) {S2 : xS} {Q : Nat → Nat → Prop} (hQ : xFl Q S1 S2) (pQ : ∀ i k, Q i k → (i = 187 ∧ (k = 0 ∨ (58 ≤ k ∧ k ≤ 70))) ∨ i = 206 ∨ i = 207 ∨ (212 ≤ i ∧ i ≠ 219)) : xR S2 N1 := by
  have hz1 := hz.c (hP.m (R := fun _ _ => False)) (fun i k p => by have := pP i k p; omega)
  exact xR.go ho h1 h2 hC hZ hM hz (Nat.le_refl n) hP (fun i k p => Or.inr (pP i k p)) (hP.i hZ.1 (fun p => by have := pP _ _ p; omega)) hN1 hQ (fun i k q => by have := pQ i k q; omega) (hQ.i hz1.1 (fun q => by have := pQ _ _ q; omega))
theorem r_fault {S : xS} {N : Nat} (h : xR S N) : xOk S N j_X11_fault j_X12_fault [] := by
  obtain ⟨c, δ, n, t, ou, hi, fv, ho, h1, h2, hC, hZ, hN, hM, hz⟩ := h
  have g1 := c_fault 40 hC.X
  have g2 := m_fault 40 hC.X
  rw [hZ.2.2.1] at g1
  rw [hz.2.2.1] at g2
  exact ⟨_, _, _, N, by omega, g1, g2, xR.s0 ho h1 h2 hC hZ hN hM hz⟩
theorem r_hit {S : xS} {N : Nat} (i : Int32) (h : xR S N) : xOk S N j_X11_hit j_X12_hit [.int i] := by
  obtain ⟨c, δ, n, t, ou, hi, fv, ho, h1, h2, hC, hZ, hN, hM, hz⟩ := h
  have g1 := c_hit i 40 hC.X hZ.2.2.2.2.2.1 h2
  have g2 := m_hit i 40 hC.X hz.2.2.2.2.2.1 h2
  have e : (if i < 0 ∨ nI hi.length ≤ i then -1 else S.2.1 219 i.toNatClampNeg) = (if i < 0 ∨ nI hi.length ≤ i then -1 else S.2.1 186 i.toNatClampNeg) := by
    split
    · rfl
    · rename_i w
      obtain ⟨j, hj, rfl⟩ := nI_of (fun z => w (Or.inl z))
      have hl : j < hi.length := by
        rcases Nat.lt_or_ge j hi.length with z | z
        · exact z
        · exact absurd (Or.inr (nI_le z hj)) w
      rw [nI_clamp hj, hZ.2.2.2.2.2.2 j hl, hz.2.2.2.2.2.2 j hl]
  rw [e] at g2
  exact ⟨_, _, _, N, by omega, g1, g2, xR.s0 ho h1 h2 hC hZ hN hM hz⟩
theorem r_told {S : xS} {N : Nat} (w : Int32) (h : xR S N) : xOk S N j_X11_told j_X12_told [.int w] := by
  obtain ⟨c, δ, n, t, ou, hi, fv, ho, h1, h2, hC, hZ, hN, hM, hz⟩ := h
  have hC0 := hC
  obtain ⟨y, y', ta, ta', fa, ra, sa, ρ, K⟩ := hC
  obtain ⟨hy, ht, hw, hr, hX, ⟨r2, r3, r4, r5, r7, r8, r9, r10⟩, k0, hS, hB, hD, hY, hT, hV, hWB, hV2⟩ := K
  have g1 := c_told (w := w) 37 hr hX hS ⟨_, _, _, hw.1.o⟩ ⟨_, _, _, hw.2.1.o⟩ r8 r9 hV.1 hV2.1 hZ.1 hZ.2.2.2.1 hZ.2.2.2.2.2.1
  have g2 := m_told (w := w) 38 hX hM.1.2.1 hM.1.2.2.2.2.1.2.1 hM.1.2.2.2.2.2.2 hz.1 hz.2.2.2.1 hz.2.2.2.2.2.1
  exact ⟨_, _, _, N, by omega, g1, g2, xR.s0 ho h1 h2 hC0 hZ hN hM hz⟩
theorem r_counted {S : xS} {N : Nat} (sv : Int32) (b : Bool) (h : xR S N) : xOk S N j_X11_counted j_X12_counted [.int sv, .int (xB b)] := by
  obtain ⟨c, δ, n, t, ou, hi, fv, ho, h1, h2, hC, hZ, hN, hM, hz⟩ := h
  have hC0 := hC
  obtain ⟨y, y', ta, ta', fa, ra, sa, ρ, K⟩ := hC
  obtain ⟨hy, ht, hw, hr, hX, ⟨r2, r3, r4, r5, r7, r8, r9, r10⟩, k0, hS, hB, hD, hY, hT, hV, hWB, hV2⟩ := K
  rcases xslot c.2.2.2.2 sv with no | ⟨s, n1, t1, L1, hs, rfl, e⟩
  · exact ⟨_, _, _, N, by omega, c_counted_no 38 hX (c_no hr hX hS no 38), m_counted_no 38 hX (m_no hX hM.1.2.1 no 39), xR.s0 ho h1 h2 hC0 hZ hN hM hz⟩
  · have M0 := (hM.1.2.1.s0 (v := nI 0)) s hs
    have T0 := hM.1.2.2.1.fr (P := fun i k => i = 187 ∧ k = 0) (S' := xSI S 187 0 (nI 0)) ((xFl.rf S).SI ⟨rfl, rfl⟩) (fun k w => by omega) (fun i k w => by omega)
    obtain ⟨m1, m2, m3, m4, m5⟩ := M0.2 _ _ _ e
    exact ⟨_, _, _, N, by omega, c_counted 37 (hr.1 s (by omega)) hX (c_yes hr hX hS hs e 38) ((hS s hs).2.2 _ _ _ e).2 (hB s hs _ _ _ e), m_counted 36 b hs hX m1 m2 m3 m5 T0 m4 (m_yes hX hM.1.2.1 hs e 39), xR.s0 ho h1 h2 hC0 hZ hN hM hz⟩
theorem r_feet {S : xS} {N : Nat} (sv lv : Int32) (h : xR S N) : xOk S N j_X11_feet j_X12_feet [.int sv, .int lv] := by
  obtain ⟨c, δ, n, t, ou, hi, fv, ho, h1, h2, hC, hZ, hN, hM, hz⟩ := h
  have hC0 := hC
  obtain ⟨y, y', ta, ta', fa, ra, sa, ρ, K⟩ := hC
  obtain ⟨hy, ht, hw, hr, hX, ⟨r2, r3, r4, r5, r7, r8, r9, r10⟩, k0, hS, hB, hD, hY, hT, hV, hWB, hV2⟩ := K
  rcases xslot c.2.2.2.2 sv with no | ⟨s, n1, t1, L1, hs, rfl, e⟩
  · exact ⟨_, _, _, N, by omega, c_feet_no 37 hX (c_no hr hX hS no 38), m_feet_no 36 hX (m_no hX hM.1.2.1 no 39), xR.s0 ho h1 h2 hC0 hZ hN hM hz⟩
  · obtain ⟨m1, m2, m3, m4, m5⟩ := (hM.1.2.1 s hs).2 _ _ _ e
    cases hl : xlnok lv L1.length with
    | false =>
      exact ⟨_, _, _, N, by omega, c_feet_bad 37 (hr.1 s (by omega)) hX (c_yes hr hX hS hs e 38) ((hS s hs).2.2 _ _ _ e).2 hl, m_feet_bad 36 hs hX m1.2.2.2.2 (m_yes hX hM.1.2.1 hs e 39) hl, xR.s0 ho h1 h2 hC0 hZ hN hM hz⟩
    | true =>
      have hl := of_decide_eq_true hl
      obtain ⟨l, hl0, rfl⟩ := nI_of hl.1
      have hl1 : l < L1.length := (nI_ltI hl0 (by omega)).mp hl.2
      obtain ⟨S1, g1, f1, k1, w1⟩ := c_feet (l := l) 37 (hr.1 s (by omega)) (show xTgC ta (ta + 1) (ta + 2) by unfold xTgC; omega) hX (c_yes hr hX hS hs e 38) ((hS s hs).2.2 _ _ _ e).2 (hB s hs _ _ _ e) r2 hT hl1
      have X1 := f1.XC hX
      have M1 := hM.c (f1.m (R := fun _ _ => False)) X1 (fun i k p => by omega)
      have z1 := hz.c (f1.m (R := fun _ _ => False)) (fun i k p => by omega)
      obtain ⟨m1, m2, m3, m4, m5⟩ := (M1.1.2.1 s hs).2 _ _ _ e
      obtain ⟨S2, g2, f2, k2, w2⟩ := m_feet (l := l) 36 hs m2 m3 m5 hl1 m4 X1 m1 M1.1.2.2.1 (m_yes X1 M1.1.2.1 hs e 39)
      refine ⟨_, _, _, N, by omega, g1, g2, xR.mk (ou := xfeet c.2.1 t1 (L1.getD l (0, 0, []))) ho (Nat.le_trans (xfeet_len m2 hl1) m3) h2 (hC0.fr f1 (fun i k a b => by omega)) ⟨f1.i hZ.1 (by omega), hZ.2.1.fr f1 (fun k => by omega), f1.i hZ.2.2.1 (by omega), k1, w1, f1.i hZ.2.2.2.2.2.1 (by omega), hZ.2.2.2.2.2.2.fr f1 (fun k => by omega)⟩ (hN.fr f1 ⟨by omega, fun x => by omega⟩) f2 (fun i k p => by omega) (M1.fr f2 (fun i k p => by omega)) ⟨f2.i z1.1 (by omega), z1.2.1.fr f2 (fun k => by omega), f2.i z1.2.2.1 (by omega), k2, w2, f2.i z1.2.2.2.2.2.1 (by omega), z1.2.2.2.2.2.2.fr f2 (fun k => by omega)⟩⟩
theorem r_alike {S : xS} {N : Nat} (sv tv : Int32) (h : xR S N) : xOk S N j_X11_alike j_X12_alike [.int sv, .int tv] := by
  obtain ⟨c, δ, n, t, ou, hi, fv, ho, h1, h2, hC, hZ, hN, hM, hz⟩ := h
  have hC0 := hC
  obtain ⟨y, y', ta, ta', fa, ra, sa, ρ, K⟩ := hC
  obtain ⟨hy, ht, hw, hr, hX, ⟨r2, r3, r4, r5, r7, r8, r9, r10⟩, k0, hS, hB, hD, hY, hT, hV, hWB, hV2⟩ := K
  rcases xslot c.2.2.2.2 sv with no | ⟨s, n1, t1, L1, hs, rfl, e⟩
  · rcases xslot c.2.2.2.2 tv with no2 | ⟨s2, n2, t2, L2, hs2, rfl, e2⟩
    · exact ⟨_, _, _, N, by omega, c_alike_no1 (r2 := .null) rfl 35 hX (c_no hr hX hS no 38) (c_no hr hX hS no2 38), m_alike_no1 35 hX (m_no hX hM.1.2.1 no 39), xR.s0 ho h1 h2 hC0 hZ hN hM hz⟩
    · exact ⟨_, _, _, N, by omega, c_alike_no1 (r2 := .ref (ρ s2)) rfl 35 hX (c_no hr hX hS no 38) (c_yes hr hX hS hs2 e2 38), m_alike_no1 35 hX (m_no hX hM.1.2.1 no 39), xR.s0 ho h1 h2 hC0 hZ hN hM hz⟩
  · rcases xslot c.2.2.2.2 tv with no2 | ⟨s2, n2, t2, L2, hs2, rfl, e2⟩
    · exact ⟨_, _, _, N, by omega, c_alike_no2 35 hX (c_yes hr hX hS hs e 38) (c_no hr hX hS no2 38), m_alike_no2 35 hX (m_yes hX hM.1.2.1 hs e 39) (m_no hX hM.1.2.1 no2 39), xR.s0 ho h1 h2 hC0 hZ hN hM hz⟩
    · obtain ⟨S1, g1, f1⟩ := c_alike 35 (hr.1 s (by omega)) (hr.1 s2 (by omega)) (show xTgC ta (ta + 1) (ta + 2) by unfold xTgC; omega) hX ((hS s hs).2.2 _ _ _ e).2 (hB s hs _ _ _ e) ((hS s2 hs2).2.2 _ _ _ e2).2 (hB s2 hs2 _ _ _ e2) hT r2 (c_yes hr hX hS hs e 38) (c_yes hr hX hS hs2 e2 38)
      have X1 := f1.XC hX
      have M1 := hM.c (f1.m (R := fun _ _ => False)) X1 (fun i k p => by omega)
      obtain ⟨m1, m2, m3, m4, m5⟩ := (M1.1.2.1 s hs).2 _ _ _ e
      obtain ⟨q1, q2, q3, q4, q5⟩ := (M1.1.2.1 s2 hs2).2 _ _ _ e2
      obtain ⟨S2, g2, f2⟩ := m_alike 36 hs hs2 m2 q2 m3 q3 m5 q5 m4 q4 X1 m1 q1 M1.1.2.2.1 (m_yes X1 M1.1.2.1 hs e 39) (m_yes X1 M1.1.2.1 hs2 e2 39)
      exact ⟨_, _, _, N, by omega, g1, g2, xR.s1 ho h1 h2 hC0 hZ hN hM hz f1 (fun i k p => by omega) (hN.fr f1 ⟨by omega, fun x => by omega⟩) f2 (fun i k p => by omega)⟩
theorem r_changes {S : xS} {N : Nat} (sv tv : Int32) (h : xR S N) : xOk S N j_X11_changes j_X12_changes [.int sv, .int tv] := by
  obtain ⟨c, δ, n, t, ou, hi, fv, ho, h1, h2, hC, hZ, hN, hM, hz⟩ := h
  have hC0 := hC
  obtain ⟨y, y', ta, ta', fa, ra, sa, ρ, K⟩ := hC
  obtain ⟨hy, ht, hw, hr, hX, ⟨r2, r3, r4, r5, r7, r8, r9, r10⟩, k0, hS, hB, hD, hY, hT, hV, hWB, hV2⟩ := K
  rcases xslot c.2.2.2.2 sv with no | ⟨s, n1, t1, L1, hs, rfl, e⟩
  · rcases xslot c.2.2.2.2 tv with no2 | ⟨s2, n2, t2, L2, hs2, rfl, e2⟩
    · exact ⟨_, _, _, N, by omega, c_changes_no1 (r2 := .null) rfl 34 hX (c_no hr hX hS no 38) (c_no hr hX hS no2 38), m_changes_no1 35 hX (m_no hX hM.1.2.1 no 39), xR.s0 ho h1 h2 hC0 hZ hN hM hz⟩
    · exact ⟨_, _, _, N, by omega, c_changes_no1 (r2 := .ref (ρ s2)) rfl 34 hX (c_no hr hX hS no 38) (c_yes hr hX hS hs2 e2 38), m_changes_no1 35 hX (m_no hX hM.1.2.1 no 39), xR.s0 ho h1 h2 hC0 hZ hN hM hz⟩
  · rcases xslot c.2.2.2.2 tv with no2 | ⟨s2, n2, t2, L2, hs2, rfl, e2⟩
    · exact ⟨_, _, _, N, by omega, c_changes_no2 34 hX (c_yes hr hX hS hs e 38) (c_no hr hX hS no2 38), m_changes_no2 35 hX (m_yes hX hM.1.2.1 hs e 39) (m_no hX hM.1.2.1 no2 39), xR.s0 ho h1 h2 hC0 hZ hN hM hz⟩
    · obtain ⟨S1, g1, f1⟩ := c_changes 34 (hr.1 s (by omega)) (hr.1 s2 (by omega)) hX ((hS s hs).2.2 _ _ _ e).2 ((hS s2 hs2).2.2 _ _ _ e2).2 (c_yes hr hX hS hs e 38) (c_yes hr hX hS hs2 e2 38)
      have X1 := f1.XC hX
      have M1 := hM.c (f1.m (R := fun _ _ => False)) X1 (fun i k p => by omega)
      obtain ⟨m1, m2, m3, m4, m5⟩ := (M1.1.2.1 s hs).2 _ _ _ e
      obtain ⟨q1, q2, q3, q4, q5⟩ := (M1.1.2.1 s2 hs2).2 _ _ _ e2
      obtain ⟨S2, g2, f2⟩ := m_changes 36 hs hs2 m2 q2 m3 q3 m5 q5 m4 q4 X1 m1 q1 (m_yes X1 M1.1.2.1 hs e 39) (m_yes X1 M1.1.2.1 hs2 e2 39)
      exact ⟨_, _, _, N, by omega, g1, g2, xR.s1 ho h1 h2 hC0 hZ hN hM hz f1 (fun i k p => by omega) (hN.fr f1 ⟨by omega, fun x => by omega⟩) f2 (fun i k p => by omega)⟩
theorem r_parent {S : xS} {N : Nat} (sv : Int32) (h : xR S N) : xOk S N j_X11_parent j_X12_parent [.int sv] := by
  obtain ⟨c, δ, n, t, ou, hi, fv, ho, h1, h2, hC, hZ, hN, hM, hz⟩ := h
  have hC0 := hC
  obtain ⟨y, y', ta, ta', fa, ra, sa, ρ, K⟩ := hC
  obtain ⟨hy, ht, hw, hr, hX, ⟨r2, r3, r4, r5, r7, r8, r9, r10⟩, k0, hS, hB, hD, hY, hT, hV, hWB, hV2⟩ := K
  rcases xslot c.2.2.2.2 sv with no | ⟨s, n1, t1, L1, hs, rfl, e⟩
  · exact ⟨_, _, _, N, by omega, c_parent_no 34 hX (c_no hr hX hS no 38), m_parent_no 36 hX (m_no hX hM.1.2.1 no 39), xR.s0 ho h1 h2 hC0 hZ hN hM hz⟩
  · have hne : c.2.2.2.2 s ≠ none := fun z => by rw [e] at z; cases z
    obtain ⟨S1, g1, f1⟩ := c_parent 34 hr hs hne hX hS hD (c_yes hr hX hS hs e 38)
    have X1 := f1.XC hX
    have M1 := hM.c (f1.m (R := fun _ _ => False)) X1 (fun i k p => by omega)
    obtain ⟨S2, g2, f2⟩ := m_parent 36 hs hne X1 M1.1.2.1 M1.2 (m_yes X1 M1.1.2.1 hs e 39)
    exact ⟨_, _, _, N, by omega, g1, g2, xR.s1 ho h1 h2 hC0 hZ hN hM hz f1 (fun i k p => by omega) (hN.fr f1 ⟨by omega, fun x => by omega⟩) f2 (fun i k p => by omega)⟩
theorem xmj_0 (el : Nat → Bool) (c : Nat → Nat → Nat → Nat) {n a : Nat} (hn : n < 2) (x : Option (Nat × Nat × Nat × Nat)) : ∀ b, xmj el c n a x b = x
  | 0 => rfl
  | b + 1 => by
    have e : xcd el c n a b = none := by
      unfold xcd
      rw [show n - 1 = 0 by omega]
      split <;> rfl
    rw [xmj, e, xmj_0 el c hn x b]
    rfl
theorem xmo_0 (el : Nat → Bool) (c : Nat → Nat → Nat → Nat) {n : Nat} (hn : n < 2) : ∀ a, xmo el c n a = none
  | 0 => rfl
  | a + 1 => by rw [xmo, xmj_0 el c hn, xmo_0 el c hn a]
theorem xmx_0 (w : Nat) : xmx none w = -1 := by unfold xmx; split <;> (try split) <;> (try split) <;> rfl
theorem r_mixed {S : xS} {N : Nat} (sv wv : Int32) (h : xR S N) : xOk S N j_X11_mixed j_X12_mixed [.int sv, .int wv] := by
  obtain ⟨c, δ, n, t, ou, hi, fv, ho, h1, h2, hC, hZ, hN, hM, hz⟩ := h
  have hC0 := hC
  obtain ⟨y, y', ta, ta', fa, ra, sa, ρ, K⟩ := hC
  obtain ⟨hy, ht, hw, hr, hX, ⟨r2, r3, r4, r5, r7, r8, r9, r10⟩, k0, hS, hB, hD, hY, hT, hV, hWB, hV2⟩ := K
  rcases xslot c.2.2.2.2 sv with no | ⟨s, n1, t1, L1, hs, rfl, e⟩
  · exact ⟨_, _, _, N, by omega, c_mixed_no1 34 hX (c_no hr hX hS no 38), m_mixed_no1 36 hX (m_no hX hM.1.2.1 no 39), xR.s0 ho h1 h2 hC0 hZ hN hM hz⟩
  · obtain ⟨m1, m2, m3, m4, m5⟩ := (hM.1.2.1 s hs).2 _ _ _ e
    rcases Decidable.em (wv < 0 ∨ ¬ wv ≤ 3) with w | w
    · rcases Nat.lt_or_ge L1.length 2 with q | q
      · exact ⟨_, _, _, N, by omega, c_mixed_no2 w 34 hX (c_yes hr hX hS hs e 38), m_mixed_no2 hs q 36 hX m1.2.2.2.2 (m_yes hX hM.1.2.1 hs e 39), xR.s0 ho h1 h2 hC0 hZ hN hM hz⟩
      · exact ⟨_, _, _, N, by omega, c_mixed_no2 w 34 hX (c_yes hr hX hS hs e 38), m_mixed_no3 hs q (by omega) w 36 hX m1.2.2.2.2 (m_yes hX hM.1.2.1 hs e 39), xR.s0 ho h1 h2 hC0 hZ hN hM hz⟩
    · obtain ⟨w9, hw9, rfl⟩ := nI_of (fun z => w (Or.inl z))
      have hw3 : w9 ≤ 3 := by
        rcases Nat.lt_or_ge 3 w9 with z | z
        · exact absurd (Or.inr (fun y => by have := (nI_leI hw9 (by decide)).mp (show nI w9 ≤ nI 3 from y); omega)) w
        · exact z
      obtain ⟨S1, g1, f1⟩ := c_mixed hw3 34 hr hs e hX hS hD (c_yes hr hX hS hs e 38)
      have X1 := f1.XC hX
      have M1 := hM.c (f1.m (R := fun _ _ => False)) X1 (fun i k p => by omega)
      have z1 := hz.c (f1.m (R := fun _ _ => False)) (fun i k p => by omega)
      obtain ⟨m1, m2, m3, m4, m5⟩ := (M1.1.2.1 s hs).2 _ _ _ e
      rcases Nat.lt_or_ge L1.length 2 with q | q
      · rw [xmo_0 _ _ q, xmx_0] at g1
        have f2 : xFl (fun i k => i = 187 ∧ k = 0) S1 (xSI S1 187 0 (nI 0)) := (xFl.rf S1).SI ⟨rfl, rfl⟩
        exact ⟨_, _, _, N, by omega, g1, m_mixed_no2 hs q 36 X1 m1.2.2.2.2 (m_yes X1 M1.1.2.1 hs e 39), xR.s1 ho h1 h2 hC0 hZ hN hM hz f1 (fun i k p => by omega) (hN.fr f1 ⟨by omega, fun x => by omega⟩) f2 (fun i k p => by omega)⟩
      · obtain ⟨S2, g2, f2⟩ := m_mixed hw3 36 hs e q X1 M1.1.2.1 M1.2 (m_yes X1 M1.1.2.1 hs e 39)
        exact ⟨_, _, _, N, by omega, g1, g2, xR.s1 ho h1 h2 hC0 hZ hN hM hz f1 (fun i k p => by omega) (hN.fr f1 ⟨by omega, fun x => by omega⟩) f2 (fun i k p => by omega)⟩
