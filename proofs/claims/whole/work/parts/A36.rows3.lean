/-! more rows of both sides: forget, born, feed, play -/
def xsup (σ : xSv) (s : Nat) (x : Option (Nat × (Nat → Nat) × List xLn)) : xSv := fun k => if k = s then x else σ k
theorem xsup_s (σ : xSv) (s : Nat) (x : Option (Nat × (Nat → Nat) × List xLn)) : xsup σ s x s = x := if_pos rfl
theorem xsup_n (σ : xSv) {s k : Nat} (x : Option (Nat × (Nat → Nat) × List xLn)) (h : k ≠ s) : xsup σ s x k = σ k := if_neg h
def xsupc (c : xPx) (s : Nat) (x : Option (Nat × (Nat → Nat) × List xLn)) : xPx := (c.1, c.2.1, c.2.2.1, c.2.2.2.1, xsup c.2.2.2.2 s x)
theorem xRM.fk {k n : Nat} {S S' : xS} {t : Nat → Nat} {L : List xLn} {P : Nat → Nat → Prop} (h : xRM k S n t L) (hn0 : n ≤ 240) (h16 : L.length ≤ 16) (h121 : (L.flatMap xmit).length ≤ 121) (hf : xFl P S S') (hn : ∀ i q, ((i = 195 ∧ 260 + 240 * k ≤ q ∧ q < 500 + 240 * k) ∨ ((i = 198 ∨ i = 199 ∨ i = 200) ∧ 122 * k ≤ q ∧ q < 122 * k + 122) ∨ (i = 201 ∧ 17 * k ≤ q ∧ q < 17 * k + 17) ∨ (i = 202 ∧ 16 * k ≤ q ∧ q < 16 * k + 16) ∨ (i = 203 ∧ q = k)) → ¬ P i q) : xRM k S' n t L :=
  ⟨fun q hk => hf.i (h.1 q hk) (hn _ _ (by omega)), fun i hi => ⟨hf.i (h.2.1 i hi).1 (hn _ _ (by omega)), hf.i (h.2.1 i hi).2.1 (hn _ _ (by omega)), hf.i (h.2.1 i hi).2.2 (hn _ _ (by omega))⟩, fun l hl => hf.i (h.2.2.1 l hl) (hn _ _ (by omega)), fun l hl => hf.i (h.2.2.2.1 l hl) (hn _ _ (by omega)), hf.i h.2.2.2.2 (hn _ _ (by omega))⟩
theorem xzo.up {c : xPx} (h : xzo c) (s : Nat) (x : Option (Nat × (Nat → Nat) × List xLn)) (hx : ∀ n t L, x = some (n, t, L) → xRok t n L ∧ n ≤ 240 ∧ L.length ≤ 16 ∧ xsnd L = true) : xzo (xsupc c s x) := by
  refine ⟨h.1, h.2.1, h.2.2.1, fun k n t L hk e => ?_⟩
  rcases Decidable.em (k = s) with rfl | w
  · exact hx n t L ((xsup_s c.2.2.2.2 k x).symm.trans e)
  · exact h.2.2.2 k n t L hk ((xsup_n c.2.2.2.2 x w).symm.trans e)
theorem xK.fg {S : xS} {c : xPx} {δ : Nat → Int32} {y y' ta ta' fa ra sa : Nat} {ρ : Nat → Nat} {s : Nat} (hs : s < 6) (h : xK S c δ y y' ta ta' fa ra sa ρ) : xK (xSI S (ρ s) 9 (nI 0)) (xsupc c s none) δ y y' ta ta' fa ra sa ρ := by
  obtain ⟨hy, ht, hw, hr, hX, ⟨r2, r3, r4, r5, r7, r8, r9, r10⟩, h0, hS, hB, hD, hY, hT, hV, hWB, hV2⟩ := h
  have hf : xFl (fun i k => i = ρ s ∧ k = 9) S (xSI S (ρ s) 9 (nI 0)) := (xFl.rf S).SI ⟨rfl, rfl⟩
  have hm := hf.m (R := fun _ _ => False)
  have m1 := hw.1.m
  have m2 := hw.2.1.m
  have m3 := hw.2.2.1.m
  have ms := (hr.1 s (by omega)).m
  have hmq : ∀ k, k < 6 → (ρ k) % 6 = 0 ∧ 18 ≤ ρ k ∧ ρ k ≤ 54 := fun k hk => (hr.1 k (by omega)).m
  have hne : ∀ k, k < 6 → k ≠ s → ρ k ≠ ρ s := fun k hk w => hr.2 k s (by omega) (by omega) w
  refine ⟨hy, ht, hw, hr, hf.XC hX, ⟨hf.r r2, hf.r r3, hf.r r4, hf.r r5, hf.r r7, hf.r r8, hf.r r9, hf.r r10⟩, hf.i h0 (by omega), fun k hk => ?_, fun k hk n t L e => ?_, fun k hk e => ?_, hY.fm hm (fun i k q => by omega), hT.fm hm (fun i k q => by omega), hV.fm hm (fun i k q => by omega), hWB.fm hm (fun k => by omega), hV2.fm hm (fun i k q => by omega)⟩
  · have mk := hmq k hk
    rcases Decidable.em (k = s) with rfl | w
    · exact ⟨hf.r (hS k hk).1, fun _ => xI_same _ _ _ _, fun n t L e => by rw [show (xsupc c k none).2.2.2.2 k = none from xsup_s _ _ _] at e; cases e⟩
    · rw [show (xsupc c s none).2.2.2.2 k = c.2.2.2.2 k from xsup_n _ _ w]
      have := hne k hk w
      exact ⟨hf.r (hS k hk).1, fun e => hf.i ((hS k hk).2.1 e) (by omega), fun n t L e => ⟨hf.i ((hS k hk).2.2 _ _ _ e).1 (by omega), ((hS k hk).2.2 _ _ _ e).2.fm hm (fun i q z => by omega)⟩⟩
  · have mk := hmq k hk
    rcases Decidable.em (k = s) with rfl | w
    · rw [show (xsupc c k none).2.2.2.2 k = none from xsup_s _ _ _] at e; cases e
    · rw [show (xsupc c s none).2.2.2.2 k = c.2.2.2.2 k from xsup_n _ _ w] at e
      exact (hB k hk _ _ _ e).fr hf (fun q => by omega)
  · have mk := hmq k hk
    rcases Decidable.em (k = s) with rfl | w
    · exact absurd (show (xsupc c k none).2.2.2.2 k = none from xsup_s _ _ _) e
    · rw [show (xsupc c s none).2.2.2.2 k = c.2.2.2.2 k from xsup_n _ _ w] at e
      exact hf.i (hD k hk e) (by omega)
theorem xqM.fg {S : xS} {c : xPx} {δ : Nat → Int32} {s : Nat} (hs : s < 6) (h : xqM S c δ) : xqM (xSI (xSI S 187 0 (nI 0)) 203 s (nI 0)) (xsupc c s none) δ := by
  have hf : xFl (fun i k => (i = 187 ∧ k = 0) ∨ (i = 203 ∧ k = s)) S (xSI (xSI S 187 0 (nI 0)) 203 s (nI 0)) := ((xFl.rf S).SI (Or.inl ⟨rfl, rfl⟩)).SI (Or.inr ⟨rfl, rfl⟩)
  obtain ⟨⟨k1, k2, k3, k4, k5, k6, k7⟩, k8⟩ := h
  refine ⟨⟨hf.XC k1, fun k hk => ?_, k3.fr hf (fun k w => by omega) (fun a k w => by omega), k4.fr hf (fun i k w => by omega), ⟨k5.1.f5 (by decide) hf (fun i k w => by omega), hf.i k5.2.1 (by omega), k5.2.2⟩, k6.f5 (by decide) hf (fun i k w => by omega), hf.i k7 (by omega)⟩, fun k hk e => ?_⟩
  · rcases Decidable.em (k = s) with rfl | w
    · exact ⟨fun _ => xI_same _ _ _ _, fun n t L e => by rw [show (xsupc c k none).2.2.2.2 k = none from xsup_s _ _ _] at e; cases e⟩
    · rw [show (xsupc c s none).2.2.2.2 k = c.2.2.2.2 k from xsup_n _ _ w]
      exact ⟨fun e => hf.i ((k2 k hk).1 e) (by omega), fun n t L e => by
        obtain ⟨p1, p2, p3, p4, p5⟩ := (k2 k hk).2 _ _ _ e
        exact ⟨p1.fk p3 p4 p5 hf (fun i q z => by omega), p2, p3, p4, p5⟩⟩
  · rcases Decidable.em (k = s) with rfl | w
    · exact absurd (show (xsupc c k none).2.2.2.2 k = none from xsup_s _ _ _) e
    · rw [show (xsupc c s none).2.2.2.2 k = c.2.2.2.2 k from xsup_n _ _ w] at e
      exact hf.i (k8 k hk e) (by omega)
theorem r_forget {S : xS} {N : Nat} (sv : Int32) (h : xR S N) : xOk S N j_X11_forget j_X12_forget [.int sv] := by
  obtain ⟨c, δ, n, t, ou, hi, fv, ho, h1, h2, hC, hZ, hN, hM, hz⟩ := h
  have hC0 := hC
  obtain ⟨y, y', ta, ta', fa, ra, sa, ρ, K⟩ := hC
  obtain ⟨hy, ht, hw, hr, hX, ⟨r2, r3, r4, r5, r7, r8, r9, r10⟩, k0, hS, hB, hD, hY, hT, hV, hWB, hV2⟩ := K
  rcases xslot c.2.2.2.2 sv with no | ⟨s, n1, t1, L1, hs, rfl, e⟩
  · exact ⟨_, _, _, N, by omega, c_forget_no 38 hX (c_no hr hX hS no 38), m_forget_no 38 hX (m_no hX hM.1.2.1 no 39), xR.s0 ho h1 h2 hC0 hZ hN hM hz⟩
  · have ms := (hr.1 s (by omega)).m
    have g1 := c_forget 38 (hr.1 s (by omega)) hX (c_yes hr hX hS hs e 38)
    have f1 : xFl (fun i k => i = ρ s ∧ k = 9) S (xSI S (ρ s) 9 (nI 0)) := (xFl.rf S).SI ⟨rfl, rfl⟩
    have X1 := f1.XC hX
    have hm := f1.m (R := fun _ _ => False)
    have M1 := hM.c hm X1 (fun i k p => by omega)
    have z1 := hz.c hm (fun i k p => by omega)
    have g2 := m_forget 38 hs X1 (m_yes X1 M1.1.2.1 hs e 39)
    have f2 : xFl (fun i k => (i = 187 ∧ k = 0) ∨ (i = 203 ∧ k = s)) (xSI S (ρ s) 9 (nI 0)) (xSI (xSI (xSI S (ρ s) 9 (nI 0)) 187 0 (nI 0)) 203 s (nI 0)) := ((xFl.rf _).SI (Or.inl ⟨rfl, rfl⟩)).SI (Or.inr ⟨rfl, rfl⟩)
    exact ⟨_, _, _, N, by omega, g1, g2, xR.mk (c := xsupc c s none) (ho.up s none (fun _ _ _ z => by cases z)) h1 h2 ⟨y, y', ta, ta', fa, ra, sa, ρ, xK.fg hs ⟨hy, ht, hw, hr, hX, ⟨r2, r3, r4, r5, r7, r8, r9, r10⟩, k0, hS, hB, hD, hY, hT, hV, hWB, hV2⟩⟩ ⟨f1.i hZ.1 (by omega), hZ.2.1.fr f1 (fun k => by omega), f1.i hZ.2.2.1 (by omega), f1.i hZ.2.2.2.1 (by omega), hZ.2.2.2.2.1.fr f1 (fun k => by omega), f1.i hZ.2.2.2.2.2.1 (by omega), hZ.2.2.2.2.2.2.fr f1 (fun k => by omega)⟩ (hN.fr f1 ⟨by omega, fun x => by omega⟩) f2 (fun i k p => by omega) (M1.fg hs) ⟨f2.i z1.1 (by omega), z1.2.1.fr f2 (fun k => by omega), f2.i z1.2.2.1 (by omega), f2.i z1.2.2.2.1 (by omega), z1.2.2.2.2.1.fr f2 (fun k => by omega), f2.i z1.2.2.2.2.2.1 (by omega), z1.2.2.2.2.2.2.fr f2 (fun k => by omega)⟩⟩
theorem xK.bn {S : xS} {c : xPx} {δ : Nat → Int32} {y y' ta ta' fa ra sa : Nat} {ρ : Nat → Nat} {s : Nat} {x : Int32} (hs : s < 6) (h : xK S c δ y y' ta ta' fa ra sa ρ) : xK (xSI S (ρ s) 8 x) c (fun k => if k = s then x else δ k) y y' ta ta' fa ra sa ρ := by
  obtain ⟨hy, ht, hw, hr, hX, ⟨r2, r3, r4, r5, r7, r8, r9, r10⟩, h0, hS, hB, hD, hY, hT, hV, hWB, hV2⟩ := h
  have hf : xFl (fun i k => i = ρ s ∧ k = 8) S (xSI S (ρ s) 8 x) := (xFl.rf S).SI ⟨rfl, rfl⟩
  have hm := hf.m (R := fun _ _ => False)
  have m1 := hw.1.m
  have m2 := hw.2.1.m
  have m3 := hw.2.2.1.m
  have ms := (hr.1 s (by omega)).m
  have hmq : ∀ k, k < 6 → (ρ k) % 6 = 0 ∧ 18 ≤ ρ k ∧ ρ k ≤ 54 := fun k hk => (hr.1 k (by omega)).m
  have hne : ∀ k, k < 6 → k ≠ s → ρ k ≠ ρ s := fun k hk w => hr.2 k s (by omega) (by omega) w
  refine ⟨hy, ht, hw, hr, hf.XC hX, ⟨hf.r r2, hf.r r3, hf.r r4, hf.r r5, hf.r r7, hf.r r8, hf.r r9, hf.r r10⟩, hf.i h0 (by omega), hS.fm hr hm (fun k _ => id) (fun a i k ha q => by have := ha.m; omega), hB.fm hm (fun q k hq => by have := hmq q hq; omega), fun k hk e => ?_, hY.fm hm (fun i k q => by omega), hT.fm hm (fun i k q => by omega), hV.fm hm (fun i k q => by omega), hWB.fm hm (fun k => by omega), hV2.fm hm (fun i k q => by omega)⟩
  show _ = (if k = s then x else δ k)
  rcases Decidable.em (k = s) with rfl | w
  · rw [if_pos rfl]; exact xI_same _ _ _ _
  · rw [if_neg w]
    have := hne k hk w
    exact hf.i (hD k hk e) (by omega)
theorem r_born {S : xS} {N : Nat} (sv day : Int32) (h : xR S N) : xOk S N j_X11_born j_X12_born [.int sv, .int day] := by
  obtain ⟨c, δ, n, t, ou, hi, fv, ho, h1, h2, hC, hZ, hN, hM, hz⟩ := h
  have hC0 := hC
  obtain ⟨y, y', ta, ta', fa, ra, sa, ρ, K⟩ := hC
  obtain ⟨hy, ht, hw, hr, hX, ⟨r2, r3, r4, r5, r7, r8, r9, r10⟩, k0, hS, hB, hD, hY, hT, hV, hWB, hV2⟩ := K
  rcases xslot c.2.2.2.2 sv with no | ⟨s, n1, t1, L1, hs, rfl, e⟩
  · exact ⟨_, _, _, N, by omega, c_born_no 38 hX (c_no hr hX hS no 38), m_born_no 38 hX (m_no hX hM.1.2.1 no 39), xR.s0 ho h1 h2 hC0 hZ hN hM hz⟩
  · have ms := (hr.1 s (by omega)).m
    have g1 := c_born (day := day) 38 (hr.1 s (by omega)) hX (c_yes hr hX hS hs e 38)
    rcases Decidable.em (¬ day < 0 ∧ day ≤ 999) with w | w
    · rw [if_pos w] at g1
      have f1 : xFl (fun i k => i = ρ s ∧ k = 8) S (xSI S (ρ s) 8 day) := (xFl.rf S).SI ⟨rfl, rfl⟩
      have X1 := f1.XC hX
      have hm := f1.m (R := fun _ _ => False)
      have M1 := hM.c hm X1 (fun i k p => by omega)
      have z1 := hz.c hm (fun i k p => by omega)
      have g2 := m_born (day := day) 38 hs X1 (m_yes X1 M1.1.2.1 hs e 39)
      rw [if_pos w] at g2
      have f2 : xFl (fun i k => (i = 187 ∧ k = 0) ∨ (i = 204 ∧ k = s)) (xSI S (ρ s) 8 day) (xSI (xSI (xSI S (ρ s) 8 day) 187 0 (nI 0)) 204 s day) := ((xFl.rf _).SI (Or.inl ⟨rfl, rfl⟩)).SI (Or.inr ⟨rfl, rfl⟩)
      have M2 : xqM (xSI (xSI (xSI S (ρ s) 8 day) 187 0 (nI 0)) 204 s day) c (fun k => if k = s then day else δ k) := ⟨M1.1.fr f2 (fun i q w => by omega), fun k hk e => by
        show _ = (if k = s then day else δ k)
        rcases Decidable.em (k = s) with rfl | w
        · rw [if_pos rfl]; exact xI_same _ _ _ _
        · rw [if_neg w]; exact f2.i (M1.2 k hk e) (by omega)⟩
      exact ⟨_, _, _, N, by omega, g1, g2, xR.mk ho h1 h2 ⟨y, y', ta, ta', fa, ra, sa, ρ, xK.bn hs ⟨hy, ht, hw, hr, hX, ⟨r2, r3, r4, r5, r7, r8, r9, r10⟩, k0, hS, hB, hD, hY, hT, hV, hWB, hV2⟩⟩ ⟨f1.i hZ.1 (by omega), hZ.2.1.fr f1 (fun k => by omega), f1.i hZ.2.2.1 (by omega), f1.i hZ.2.2.2.1 (by omega), hZ.2.2.2.2.1.fr f1 (fun k => by omega), f1.i hZ.2.2.2.2.2.1 (by omega), hZ.2.2.2.2.2.2.fr f1 (fun k => by omega)⟩ (hN.fr f1 ⟨by omega, fun x => by omega⟩) f2 (fun i k p => by omega) M2 ⟨f2.i z1.1 (by omega), z1.2.1.fr f2 (fun k => by omega), f2.i z1.2.2.1 (by omega), f2.i z1.2.2.2.1 (by omega), z1.2.2.2.2.1.fr f2 (fun k => by omega), f2.i z1.2.2.2.2.2.1 (by omega), z1.2.2.2.2.2.2.fr f2 (fun k => by omega)⟩⟩
    · rw [if_neg w] at g1
      have g2 := m_born (day := day) 38 hs hX (m_yes hX hM.1.2.1 hs e 39)
      rw [if_neg w] at g2
      exact ⟨_, _, _, N, by omega, g1, g2, xR.s0 ho h1 h2 hC0 hZ hN hM hz⟩
theorem r_feed {S : xS} {N : Nat} (a1 a2 a3 a4 a5 : Int32) (h : xR S N) : xOk S N j_X11_feed j_X12_feed [.int a1, .int a2, .int a3, .int a4, .int a5] := by
  obtain ⟨c, δ, n, t, ou, hi, fv, ho, h1, h2, hC, hZ, hN, hM, hz⟩ := h
  have hn := hZ.2.1.1
  obtain ⟨cy, cn⟩ := c_feed a1 a2 a3 a4 a5 39 hC.X hZ.1 hn
  rcases Nat.lt_or_ge 260 (n + 20) with w | w
  · exact ⟨_, _, _, N, by omega, cn w, (m_feed a1 a2 a3 a4 a5 39 hC.X hz.1 hn).2 w, xR.s0 ho h1 h2 hC hZ hN hM hz⟩
  · obtain ⟨S1, g1, f1, e1, b1⟩ := cy w
    have f1 := f1.l
    have hm := f1.m (R := fun _ _ => False)
    have M1 := hM.c hm (f1.XC hC.X) (fun i k p => by unfold xP_put at p; omega)
    have z1 := hz.c hm (fun i k p => by unfold xP_put at p; omega)
    obtain ⟨S2, g2, f2, e2, b2⟩ := (m_feed a1 a2 a3 a4 a5 39 (f1.XC hC.X) z1.1 hn).1 w
    have f2 := f2.l
    have hlt : ∀ k, k < n + 20 → (fun k => if k < n then t k else xfb a1 a2 a3 a4 a5 (k - n)) k < 256 := fun k hk => by
      show (if k < n then t k else xfb a1 a2 a3 a4 a5 (k - n)) < 256
      split
      · rename_i q; exact (hZ.2.1.2 k q).1
      · exact xfb_lt _ _ _ _ _ _
    refine ⟨_, _, _, N, by omega, g1, g2, xR.mk (n := n + 20) (t := fun k => if k < n then t k else xfb a1 a2 a3 a4 a5 (k - n)) ho h1 h2 (hC.fr f1 (fun i k a b => by unfold xP_put; omega)) ⟨e1, ⟨w, fun k hk => ⟨hlt k hk, ?_⟩⟩, f1.i hZ.2.2.1 (by unfold xP_put; omega), f1.i hZ.2.2.2.1 (by unfold xP_put; omega), hZ.2.2.2.2.1.fr f1 (fun k => by unfold xP_put; omega), f1.i hZ.2.2.2.2.2.1 (by unfold xP_put; omega), hZ.2.2.2.2.2.2.fr f1 (fun k => by unfold xP_put; omega)⟩ (hN.fr f1 ⟨by unfold xP_put; omega, fun x => by unfold xP_put; omega⟩) f2 (fun i k p => by unfold xQ_feed at p; omega) (M1.fr f2 (fun i q a p => by unfold xQ_feed at p; omega)) ⟨e2, ⟨w, fun k hk => ⟨hlt k hk, ?_⟩⟩, f2.i z1.2.2.1 (by unfold xQ_feed; omega), f2.i z1.2.2.2.1 (by unfold xQ_feed; omega), z1.2.2.2.2.1.fr f2 (fun k => by unfold xQ_feed; omega), f2.i z1.2.2.2.2.2.1 (by unfold xQ_feed; omega), z1.2.2.2.2.2.2.fr f2 (fun k => by unfold xQ_feed; omega)⟩⟩
    · show S1.2.1 2 k = nI (if k < n then t k else xfb a1 a2 a3 a4 a5 (k - n))
      split
      · rename_i q; exact f1.i (hZ.2.1.2 k q).2 (by unfold xP_put; omega)
      · have := b1 (k - n) (by omega)
        rw [show n + (k - n) = k by omega] at this
        exact this
    · show S2.2.1 188 k = xby (if k < n then t k else xfb a1 a2 a3 a4 a5 (k - n))
      split
      · rename_i q; exact f2.i (z1.2.1.2 k q).2 (by unfold xQ_feed; omega)
      · have := b2 (k - n) (by omega)
        rw [show n + (k - n) = k by omega] at this
        exact this
theorem xwk_len (c : xPx) (tp : Nat → Nat) (n : Nat) : ∀ f m s k j, (xwk c tp n f m s k j).1.length ≤ f
  | 0, m, s, k, j => Nat.le_refl 0
  | f + 1, m, s, k, j => by
    rw [xwk]
    split
    · exact Nat.zero_le _
    · split
      · exact Nat.succ_le_succ (Nat.zero_le _)
      · rw [List.length_cons]; exact Nat.succ_le_succ (xwk_len c tp n f _ _ _ _)
theorem r_play {S : xS} {N : Nat} (h : xR S N) : xOk S N j_X11_play j_X12_play [] := by
  obtain ⟨c, δ, n, t, ou, hi, fv, ho, h1, h2, hC, hZ, hN, hM, hz⟩ := h
  obtain ⟨v, tv, l, l2, σ⟩ := c
  have hC0 := hC
  obtain ⟨y, y', ta, ta', fa, ra, sa, ρ, K⟩ := hC
  obtain ⟨hy, ht, hw, hr, hX, ⟨r2, r3, r4, r5, r7, r8, r9, r10⟩, k0, hS, hB, hD, hY, hT, hV, hWB, hV2⟩ := K
  have hyc : xYdC y (y + 1) (y + 2) := by unfold xYdC; omega
  have hC := hC0
  rcases Decidable.em (∀ k, k < n → t k < l2.length) with w | w
  · cases hal : xzal (v, tv, l, l2, σ) with
    | false =>
      have g1 := c_play_no2 35 hyc hw.1.o hw.2.1.o hr ho hX r4 r8 r9 hS hB hY hV hWB hV2 hZ.1 hZ.2.1 w hal
      have f1 : xFl (fun i k => i = 1 ∧ k = 1) S (xSI S 1 1 (nI 0)) := (xFl.rf S).SI ⟨rfl, rfl⟩
      have hm := f1.m (R := fun _ _ => False)
      have M1 := hM.c hm (f1.XC hC.X) (fun i k p => by omega)
      have z1 := hz.c hm (fun i k p => by omega)
      obtain ⟨S2, g2, f2, e2⟩ := m_play_no1 34 ho M1.1.1 M1.1.2.1 M1.1.2.2.1 M1.1.2.2.2.1 M1.1.2.2.2.2.1 M1.1.2.2.2.2.2.1 M1.1.2.2.2.2.2.2 z1.1 z1.2.1 hal
      exact ⟨_, _, _, N, by omega, g1, g2, xR.go (n' := 0) ho h1 h2 hC hZ hM hz (Nat.zero_le n) f1 (fun i k p => by omega) (xI_same _ _ _ _) (hN.fr f1 ⟨by omega, fun x => by omega⟩) f2 (fun i k p => by omega) e2⟩
    | true =>
      obtain ⟨S1, g1, f1, e18, b18, e1⟩ := c_playT 35 hyc hw.1.o hw.2.1.o hr ho hX r4 r8 r9 hS hB hY hV hWB hV2 hZ.1 hZ.2.1 w hal
      have hm := f1.m (R := fun _ _ => False)
      have M1 := hM.c hm (f1.XC hC.X) (fun i k p => by omega)
      have z1 := hz.c hm (fun i k p => by omega)
      obtain ⟨S2, g2, f2, e2, e72, b72⟩ := m_play 34 ho M1.1.1 M1.1.2.1 M1.1.2.2.1 M1.1.2.2.2.1 M1.1.2.2.2.2.1 M1.1.2.2.2.2.2.1 M1.1.2.2.2.2.2.2 z1.1 z1.2.1 hal w
      exact ⟨_, _, _, N, by omega, g1, g2, xR.mk (n := 0) (t := t) ho h1 (xwk_len (v, tv, l, l2, σ) t n 24 (2 ^ xgH (xgOf l.length v) - 1) 0 0 0) (hC.fr f1 (fun i k a b => by omega)) ⟨e1, ⟨Nat.zero_le _, fun k hk => absurd hk (Nat.not_lt_zero k)⟩, f1.i hZ.2.2.1 (by omega), f1.i hZ.2.2.2.1 (by omega), hZ.2.2.2.2.1.fr f1 (fun k => by omega), e18, b18⟩ (hN.fr f1 ⟨by omega, fun x => by omega⟩) f2 (fun i k p => by omega) (M1.fr f2 (fun i k a p => by omega)) ⟨e2, ⟨Nat.zero_le _, fun k hk => absurd hk (Nat.not_lt_zero k)⟩, f2.i z1.2.2.1 (by omega), f2.i z1.2.2.2.1 (by omega), z1.2.2.2.2.1.fr f2 (fun k => by omega), e72, b72⟩⟩
  · have g1 := c_play_no1 35 hyc hw.1.o hw.2.1.o hr ho hX r4 r8 r9 hS hB hY hV hWB hV2 hZ.1 hZ.2.1 w
    have f1 : xFl (fun i k => i = 1 ∧ k = 1) S (xSI S 1 1 (nI 0)) := (xFl.rf S).SI ⟨rfl, rfl⟩
    have hm := f1.m (R := fun _ _ => False)
    have M1 := hM.c hm (f1.XC hC.X) (fun i k p => by omega)
    have z1 := hz.c hm (fun i k p => by omega)
    cases hal : xzal (v, tv, l, l2, σ) with
    | false =>
      obtain ⟨S2, g2, f2, e2⟩ := m_play_no1 34 ho M1.1.1 M1.1.2.1 M1.1.2.2.1 M1.1.2.2.2.1 M1.1.2.2.2.2.1 M1.1.2.2.2.2.2.1 M1.1.2.2.2.2.2.2 z1.1 z1.2.1 hal
      exact ⟨_, _, _, N, by omega, g1, g2, xR.go (n' := 0) ho h1 h2 hC hZ hM hz (Nat.zero_le n) f1 (fun i k p => by omega) (xI_same _ _ _ _) (hN.fr f1 ⟨by omega, fun x => by omega⟩) f2 (fun i k p => by omega) e2⟩
    | true =>
      obtain ⟨S2, g2, f2, e2⟩ := m_play_no2 34 ho M1.1.1 M1.1.2.1 M1.1.2.2.1 M1.1.2.2.2.1 M1.1.2.2.2.2.1 M1.1.2.2.2.2.2.1 M1.1.2.2.2.2.2.2 z1.1 z1.2.1 hal w
      exact ⟨_, _, _, N, by omega, g1, g2, xR.go (n' := 0) ho h1 h2 hC hZ hM hz (Nat.zero_le n) f1 (fun i k p => by omega) (xI_same _ _ _ _) (hN.fr f1 ⟨by omega, fun x => by omega⟩) f2 (fun i k p => by omega) e2⟩
