/-! octet and share on both sides, thrown or not -/
theorem xR.SL {S : xS} {N k : Nat} {x : Int64} (h : xR S N) : xR (xSL S 230 k x) N := h
def xThO (l : Launch) (S : xS) (N : Nat) (yL : MethodName) (cL : ByteArray) (ml : Nat) (hh : List (Nat × Nat × Nat × Nat)) (jm : Nat) (as : List Value) : Prop := ∃ (k v : Int32) (S1 S2 : xS) (N' : Nat), N' ≤ N + 50 ∧
  (∀ (z : Nat) (D : va_G) (cy : Nat → ClassId) (sa sv : Nat → Nat), Met l yL (.codeWith yL cL ml (some .int) hh :: xAL) xroomL (va_Pc ((.ref 0 :: (as ++ [.ref 230])).map (xup z sa)) (xPrX false z D cy sa sv S)) (xQ false z D cy sa (some (.int k)) S1) 1 6 (fun q => z ≤ q)) ∧
  S1.1 = xSH ∧ xcall false 40 jm (.ref 187 :: as) S1 (some (.int v)) S2 ∧ S2.2.1 187 0 = k ∧ (k = nI 0 → S2.2.2.2 230 0 = v.toInt64) ∧ (k = nI 0 ∨ k = nI 1) ∧ xR S2 N'
theorem r_octet {l : Launch} (hfl : l.stackTraces = false) {S : xS} {N : Nat} (iv : Int32) (h : xR S N) : xThO l S N yL_octet cL_octet 4 [(0, 9, 12, 13)] j_X12_octet [.int iv] := by
  obtain ⟨c, δ, n, t, ou, hi, fv, ho, h1, h2, hC, hZ, hN, hM, hz⟩ := h
  have hX := hC.X
  rcases Classical.em (∃ i, i < ou.length ∧ iv = nI i) with w | w
  · obtain ⟨i, hi1, rfl⟩ := w
    have e1 : S.2.1 72 i = nI (ou.getD i 0) := hZ.2.2.2.2.1 i hi1
    have e2 : S.2.1 205 i = nI (ou.getD i 0) := hz.2.2.2.2.1 i hi1
    have g1 := c_octet 40 hX hZ.2.2.2.1 h1 hi1
    have g2 := m_octet 39 (S := xSL S 230 0 (S.2.1 72 i).toInt64) hX hz.2.2.2.1 h1 hi1
    have R1 := (xR.s0 ho h1 h2 hC hZ hN hM hz (v := nI 0)).SL (k := 0) (x := (S.2.1 72 i).toInt64)
    refine ⟨nI 0, S.2.1 205 i, xSL S 230 0 (S.2.1 72 i).toInt64, xSI (xSL S 230 0 (S.2.1 72 i).toInt64) 187 0 (nI 0), N, by omega, fun z D cy sa sv => L_octet hX rfl g1, hX.1, g2, xI_same _ _ _ _, fun _ => ?_, Or.inl rfl, R1⟩
    show xu2 S.2.2.2 230 0 (S.2.1 72 i).toInt64 230 0 = _
    rw [xu2_same, va_up_self, e1, e2]
  · exact ⟨nI 1, nI 0, S, xSI S 187 0 (nI 1), N, by omega, fun z D cy sa sv => L_octet_t hX (x_octet_throw hX hZ.2.2.2.1 h1 w hfl), hX.1, m_octet_no 39 hX hz.2.2.2.1 h1 w, xI_same _ _ _ _, fun e => absurd e (by decide), Or.inr rfl, xR.s0 ho h1 h2 hC hZ hN hM hz⟩
theorem r_share {l : Launch} (hfl : l.stackTraces = false) {S : xS} {N : Nat} (hb : N < 2 ^ 27) (who wh : Int32) (h : xR S N) : xThO l S N yL_share cL_share 5 [(0, 10, 13, 13)] j_X12_share [.int who, .int wh] := by
  obtain ⟨c, δ, n, t, ou, hi, fv, ho, h1, h2, hC, hZ, hN, hM, hz⟩ := h
  have hX := hC.X
  have cs := hC.cs
  rcases Classical.em (xzal c = true ∧ xgH (xzg c) ≤ 8 ∧ (∃ p, p < xgP (xzg c) ∧ who = nI p) ∧ (wh = nI 0 ∨ wh = nI 1)) with w | w
  · obtain ⟨w1, w2, ⟨p, hp, rfl⟩, w4⟩ := w
    obtain ⟨wn, hwn, rfl⟩ : ∃ wn, wn ≤ 1 ∧ wh = nI wn := by
      rcases w4 with rfl | rfl
      · exact ⟨0, by omega, rfl⟩
      · exact ⟨1, by omega, rfl⟩
    obtain ⟨S1, g1, f1, N1⟩ := c_share 34 ho cs w1 w2 hp hwn hN (by omega)
    have X1 := f1.XC hX
    have M1 := hM.c (f1.m (R := fun _ _ => False)) X1 (fun i k p => by omega)
    generalize hv : (if wn = 0 then xwys c 0 p / Nat.gcd (xwys c 0 p) (c.2.2.2.1.length ^ xgH (xzg c)) else c.2.2.2.1.length ^ xgH (xzg c) / Nat.gcd (xwys c 0 p) (c.2.2.2.1.length ^ xgH (xzg c))) = v at g1
    have M1' : xMS (xSL S1 230 0 (nI v).toInt64) c := M1.1
    obtain ⟨S2, g2, f2, e0⟩ := m_share 33 (S := xSL S1 230 0 (nI v).toInt64) ho M1' w1 w2 hp hwn
    rw [hv] at g2
    have e3 := (xcall_same g2).2 230 1 (xsh X1 sh_230)
    refine ⟨nI 0, nI v, xSL S1 230 0 (nI v).toInt64, S2, N + 1, by omega, fun z D cy sa sv => L_share hX f1.1 g1, X1.1, g2, e0, fun _ => ?_, Or.inl rfl, xR.s1 (S1 := xSL S1 230 0 (nI v).toInt64) ho h1 h2 hC hZ hN hM hz f1 (fun i k p => by omega) N1 f2 (fun i k p => by omega)⟩
    rw [e3]
    show xu2 S1.2.2.2 230 0 (nI v).toInt64 230 0 = _
    rw [xu2_same, va_up_self]
  · obtain ⟨S1, f1, sm, hMt⟩ := x_share_throw (l := l) ho cs w hfl
    have X1 := f1.XC hX
    have M1 := hM.c (f1.m (R := fun _ _ => False)) X1 (fun i k p => by omega)
    obtain ⟨S2, g2, f2, e0⟩ := m_share_no 33 ho M1.1 w
    exact ⟨nI 1, nI 0, S1, S2, N, by omega, fun z D cy sa sv => L_share_t hX (hMt z D cy sa sv), X1.1, g2, e0, fun e => absurd e (by decide), Or.inr rfl, xR.s1 ho h1 h2 hC hZ hN hM hz f1 (fun i k p => by omega) (hN.fr f1 ⟨by omega, fun x => by omega⟩) f2 (fun i k p => by omega)⟩
