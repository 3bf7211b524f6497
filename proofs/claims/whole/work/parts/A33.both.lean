/-! THE TWO SIDES TOGETHER -/
theorem c_playT {y yb yc a b c e a2 b2 c2 e2 : Nat} {ρ : Nat → Nat} {σ : xSv} {v : xYd} {tv : xTg} {l l2 : List (List Nat)} {n : Nat} {t : Nat → Nat} (d : Nat) (hyc : xYdC y yb yc) (hwf : xWo a b c e) (hwq : xWo a2 b2 c2 e2) (hr : xro ρ) (ho : xzo (v, tv, l, l2, σ)) {S : xS} (hX : XC S) (h4 : S.2.2.1 0 4 = some y) (h8 : S.2.2.1 0 8 = some a) (h9 : S.2.2.1 0 9 = some a2) (hS : xSl S ρ σ) (hSB : xSlB S ρ σ tv 6) (hY : xYdV y yb yc S v) (hV1 : xWV a b c S l) (hWB : xWB e S tv l) (hV2 : xWV a2 b2 c2 S l2) (hn : S.2.1 1 1 = nI n) (hT : xTb S n t) (hyes : ∀ k, k < n → t k < l2.length) (hal : xzal (v, tv, l, l2, σ) = true) : ∃ S', xcall false (d + 5) j_X11_play [.ref 0] S (some (.int (nI (xwk (v, tv, l, l2, σ) t n 24 (2 ^ xgH (xgOf l.length v) - 1) 0 0 0).2))) S' ∧ xFl (fun i k => (i = 1 ∧ k = 1) ∨ (i = 0 ∧ k = 18) ∨ i = 186 ∨ (74 ≤ i ∧ i ≤ 129)) S S' ∧ S'.2.1 0 18 = nI (xwk (v, tv, l, l2, σ) t n 24 (2 ^ xgH (xgOf l.length v) - 1) 0 0 0).1.length ∧ (∀ q, q < (xwk (v, tv, l, l2, σ) t n 24 (2 ^ xgH (xgOf l.length v) - 1) 0 0 0).1.length → (S'.2.1 186 q = nI ((xwk (v, tv, l, l2, σ) t n 24 (2 ^ xgH (xgOf l.length v) - 1) 0 0 0).1.getD q 0))) ∧ S'.2.1 1 1 = nI 0 := by
  have F0 : xFl (fun i k => i = 1 ∧ k = 1) S (xSI S 1 1 (nI 0)) := (xFl.rf S).SI ⟨rfl, rfl⟩
  have X0 := F0.XC hX
  have gt := c_take hX hn (d + 4)
  have T0 := hT.fr F0 (fun k h => by omega)
  have hwu2 : a2 + 3 < 74 ∧ b2 < 74 ∧ c2 < 74 ∧ e2 < 74 := by rcases hwq with h | h | h <;> omega
  have hyu : (11 ≤ y ∧ y < 17) ∧ (11 ≤ yb ∧ yb < 17) ∧ (11 ≤ yc ∧ yc < 17) := by rcases hyc with h | h <;> omega
  have V20 := hV2.fm (F0.m (R := fun _ _ => False)) (fun i k h => by rcases hwq with q | q | q <;> omega)
  have hq := (hwq.sh X0).1
  have kq := V20.1
  have gb := c_isBelow (b := l2.length) X0 T0 (by have : l2.length ≤ 5 := ho.2.2.1.2.1; omega) (d + 4)
  rw [decide_eq_true hyes] at gb
  have hwu : a + 3 < 74 ∧ b < 74 ∧ c < 74 ∧ e < 74 := by rcases hwf with h | h | h <;> omega
  have S0l := hS.fg hr F0 (fun i k h h' => by omega)
  have Y0 := xYdV.fr _ _ _ _ hY F0 (fun i k h => by omega)
  have gr := c_areRhymesThere (d + 2) hyc hr X0 (F0.r h4) S0l Y0
  rw [show v.2.all (fun s => (σ s).isSome) = true from hal] at gr
  obtain ⟨S1, g1, f1, c1, k2⟩ := c_two d hyc hwf hwq hr ho X0 (F0.r h4) (F0.r h8) (F0.r h9) S0l (hSB.fg hr F0 (fun i k h h' => by omega)) Y0 (hV1.fm (F0.m (R := fun _ _ => False)) (fun i k h => by rcases hwf with q | q | q <;> omega)) (hWB.fm (F0.m (R := fun _ _ => False)) (fun k h => by rcases hwf with q | q | q <;> omega)) V20
  obtain ⟨S2, g2, f2, D2⟩ := k2 hal
  have X1 := f1.XC X0
  have X2 := f2.XC X0
  have hg := ho.g
  have hH := hg.H
  have hpos := Nat.two_pow_pos (xgH (xgOf l.length v))
  have hH1 : 1 ≤ xgH (xgOf l.length v) := hH.1
  have h1lt : 1 < 2 ^ xgH (xgOf l.length v) := Nat.one_lt_two_pow (by omega)
  have gal := c_allHands (d + 3) hg X2 D2.1
  have F2' : xFl (fun i k => i = 0 ∧ k = 18) S2 (xSI S2 0 18 (nI 0)) := (xFl.rf S2).SI ⟨rfl, rfl⟩
  have T2 := (T0.fr f2 (fun k h => by omega)).fr F2' (fun k h => by omega)
  obtain ⟨r, S3, g3, rfl, z1, z2, z3⟩ := xcall_some (al := false) (d := d + 4) (ls := [.ref 0, .int (nI n), .float 0, .float 0, .float 0, .float 0, .float 0]) (S := S2) (as := [.ref 0, .int (nI n)]) q_X11_walk (by decide) rfl (Nat.le_of_ble_eq_true rfl) rfl
    (P := fun r S' => r = some (.int (nI (xwk (v, tv, l, l2, σ) t n 24 (2 ^ xgH (xgOf l.length v) - 1) 0 0 0).2)) ∧ xFl (fun i q => (i = 0 ∧ q = 18) ∨ (i = 186 ∧ 0 ≤ q) ∨ (i = 74 ∧ q = 7) ∨ i = 79 ∨ i = 80 ∨ (82 ≤ i ∧ i ≤ 105)) (xSI S2 0 18 (nI 0)) S' ∧ S'.2.1 0 18 = nI (0 + (xwk (v, tv, l, l2, σ) t n 24 (2 ^ xgH (xgOf l.length v) - 1) 0 0 0).1.length) ∧ ∀ q, q < (xwk (v, tv, l, l2, σ) t n 24 (2 ^ xgH (xgOf l.length v) - 1) 0 0 0).1.length → S'.2.1 186 (0 + q) = nI ((xwk (v, tv, l, l2, σ) t n 24 (2 ^ xgH (xgOf l.length v) - 1) 0 0 0).1.getD q 0)) (by
      exact wp_aload_n dX11_walk_0 rfl rfl (g10_82 dX11_walk_1 (xsh X2 sh_0) (xrr X2 r0_14) (wp_iv1 dX11_walk_4 k10_316 q_X4_allHands (by decide) (xsh X2 sh_74) (by decide) (Nat.le_of_ble_eq_true rfl) gal (wp_istore_n dX11_walk_7 ⟨Nat.le_of_ble_eq_true rfl, Or.inr rfl⟩ rfl (wp_iconst (v := nI 0) dX11_walk_8 rfl (wp_istore_n dX11_walk_9 ⟨Nat.le_of_ble_eq_true rfl, Or.inr rfl⟩ rfl (wp_iconst (v := nI 0) dX11_walk_10 rfl (wp_istore dX11_walk_11 ⟨Nat.le_of_ble_eq_true rfl, Or.inr rfl⟩ rfl (wp_aload_n dX11_walk_13 rfl rfl (wp_iconst (v := nI 0) dX11_walk_14 rfl (p10_216 dX11_walk_15 (xsh X2 sh_0) (wk_loop ho hal hyes 24 0 (2 ^ xgH (xgOf l.length v) - 1) 0 0 _ _ _ rfl (Nat.sub_lt hpos (by decide)) (fun _ => by omega) hH1 (Nat.le_refl _) (F2'.XC X2) (D2.fr F2' (fun i k h => by omega) ho) T2 (xI_same _ _ _ _)))))))))))))
  refine ⟨S3, ?_, (((F0.mono (fun i k h => by omega)).tt (f2.mono (fun i k h => by omega))).tt (F2'.mono (fun i k h => by omega))).tt (z1.mono (fun i k h => by omega)), by rw [z2, Nat.zero_add], fun q hq => by have := z3 q hq; rw [Nat.zero_add] at this; exact this, z1.i (F2'.i (f2.i (xI_same S 1 1 (nI 0)) (by omega)) (by omega)) (by omega)⟩
  refine xcall_intro (ls := [.ref 0, .float 0]) q_X11_play (by decide) rfl (Nat.le_of_ble_eq_true rfl) rfl ?_
  refine wp_aload_n dX11_play_0 rfl rfl (g10_10 dX11_play_1 (xsh hX sh_0) (xrr hX r0_0) (wp_iv1 dX11_play_4 k10_107 q_X6_take (by decide) (xsh hX sh_1) (by decide) (Nat.le_of_ble_eq_true rfl) gt (wp_istore_n dX11_play_7 ⟨Nat.le_of_ble_eq_true rfl, Or.inr rfl⟩ rfl (wp_aload_n dX11_play_8 rfl rfl (g10_10 dX11_play_9 (xsh X0 sh_0) (xrr X0 r0_0) (wp_iload_n dX11_play_12 rfl (wp_aload_n dX11_play_13 rfl rfl (g10_61 dX11_play_14 (xsh X0 sh_0) (F0.r h9) (gv10_152 dX11_play_17 hq kq (wp_iv3 dX11_play_20 k10_198 q_X6_isBelow (by decide) (xsh X0 sh_1) (by decide) (Nat.le_of_ble_eq_true rfl) gb ?_))))))))))
  refine wb_if_eq dX11_play_23 rfl (fun c23 => absurd c23 (by decide)) (fun c23 => ?_)
  refine wp_aload_n dX11_play_26 rfl rfl (wp_iv1 dX11_play_27 k10_202 q_X11_areRhymesThere (by decide) (xsh X0 sh_0) (by decide) (Nat.le_of_ble_eq_true rfl) gr ?_)
  refine wb_if_ne dX11_play_30 rfl (fun c30 => ?_) (fun c30 => absurd c30 (by decide))
  exact wp_aload_n dX11_play_35 rfl rfl (g10_82 dX11_play_36 (xsh X0 sh_0) (xrr X0 r0_14) (wp_aload_n dX11_play_39 rfl rfl (g10_36 dX11_play_40 (xsh X0 sh_0) (F0.r h4) (wp_aload_n dX11_play_43 rfl rfl (g10_57 dX11_play_44 (xsh X0 sh_0) (F0.r h8) (wp_aload_n dX11_play_47 rfl rfl (g10_61 dX11_play_48 (xsh X0 sh_0) (F0.r h9) (wp_iv4 dX11_play_51 k10_206 q_X4_gather (by decide) (xsh X0 sh_74) (by decide) (Nat.le_of_ble_eq_true rfl) g1 (wp_aload_n dX11_play_54 rfl rfl (wp_iv1 dX11_play_55 k10_210 q_X11_learnRhymes (by decide) (xsh X1 sh_0) (by decide) (Nat.le_of_ble_eq_true rfl) g2 (wp_aload_n dX11_play_58 rfl rfl (wp_iload_n dX11_play_59 rfl (wp_iv2 dX11_play_60 k10_213 q_X11_walk (by decide) (xsh X2 sh_0) (by decide) (Nat.le_of_ble_eq_true rfl) g3 (wp_ireturn dX11_play_63 rfl rfl ⟨rfl, rfl⟩))))))))))))))
def xWq (a : Nat) : Prop := a = 60 ∨ a = 64 ∨ a = 68
theorem xWq.o {a : Nat} (h : xWq a) : xWo a (a + 1) (a + 2) (a + 3) := by unfold xWq at h; unfold xWo; omega
theorem xWq.m {a : Nat} (h : xWq a) : 60 ≤ a ∧ a ≤ 68 ∧ a % 4 = 0 := by unfold xWq at h; omega
/-- the class: what it holds, and in which objects -/
def xK (S : xS) (c : xPx) (δ : Nat → Int32) (y y' ta ta' fa ra sa : Nat) (ρ : Nat → Nat) : Prop :=
  ((y = 11 ∧ y' = 14) ∨ (y = 14 ∧ y' = 11)) ∧ ((ta = 5 ∧ ta' = 8) ∨ (ta = 8 ∧ ta' = 5)) ∧ (xWq fa ∧ xWq ra ∧ xWq sa ∧ fa ≠ ra ∧ fa ≠ sa ∧ ra ≠ sa) ∧ xro ρ ∧ XC S ∧
  (S.2.2.1 0 2 = some ta ∧ S.2.2.1 0 3 = some ta' ∧ S.2.2.1 0 4 = some y ∧ S.2.2.1 0 5 = some y' ∧ S.2.2.1 0 7 = some (ρ 6) ∧ S.2.2.1 0 8 = some fa ∧ S.2.2.1 0 9 = some ra ∧ S.2.2.1 0 10 = some sa) ∧ S.2.1 (sa + 2) 0 = nI 0 ∧
  xSl S ρ c.2.2.2.2 ∧ xSlB S ρ c.2.2.2.2 c.2.1 6 ∧ xDC S ρ c.2.2.2.2 δ ∧ xYdV y (y + 1) (y + 2) S c.1 ∧ xTgV ta (ta + 1) (ta + 2) S c.2.1 ∧ xWV fa (fa + 1) (fa + 2) S c.2.2.1 ∧ xWB (fa + 3) S c.2.1 c.2.2.1 ∧ xWV ra (ra + 1) (ra + 2) S c.2.2.2.1
/-- tape, fault, answer row, hits: the class; the reference -/
def xZc (S : xS) (n : Nat) (t : Nat → Nat) (ou hi : List Nat) (fv : Int32) : Prop := S.2.1 1 1 = nI n ∧ xTb S n t ∧ S.2.1 0 11 = fv ∧ S.2.1 0 13 = nI ou.length ∧ xrow S 72 ou ∧ S.2.1 0 18 = nI hi.length ∧ xrow S 186 hi
def xZm (S : xS) (n : Nat) (t : Nat → Nat) (ou hi : List Nat) (fv : Int32) : Prop := S.2.1 187 2 = nI n ∧ xTr S n t ∧ S.2.1 187 9 = fv ∧ S.2.1 187 43 = nI ou.length ∧ xrow S 205 ou ∧ S.2.1 187 72 = nI hi.length ∧ xrow S 219 hi
def xqC (S : xS) (c : xPx) (δ : Nat → Int32) : Prop := ∃ y y' ta ta' fa ra sa ρ, xK S c δ y y' ta ta' fa ra sa ρ
def xqM (S : xS) (c : xPx) (δ : Nat → Int32) : Prop := xMS S c ∧ xDM S c.2.2.2.2 δ
/-- both sides -/
def xR (S : xS) (N : Nat) : Prop := ∃ (c : xPx) (δ : Nat → Int32) (n : Nat) (t : Nat → Nat) (ou hi : List Nat) (fv : Int32), xzo c ∧ ou.length ≤ 240 ∧ hi.length ≤ 24 ∧ xqC S c δ ∧ xZc S n t ou hi fv ∧ xNw S N ∧ xqM S c δ ∧ xZm S n t ou hi fv
theorem xrow.fr {S S' : xS} {r : Nat} {l : List Nat} {P : Nat → Nat → Prop} (h : xrow S r l) (hf : xFl P S S') (hn : ∀ k, ¬ P r k) : xrow S' r l := fun k hk => hf.i (h k hk) (hn k)
/-- a frame with references as one without, over the ints alone -/
theorem xFm.f {P R : Nat → Nat → Prop} {S S' : xS} (h : xFm P R S S') : xFl P S (S.1, S'.2.1, S.2.2) := ⟨rfl, rfl, h.2.2⟩
theorem xNw.fm {S S' : xS} {n : Nat} {P R : Nat → Nat → Prop} (h : xNw S n) (hf : xFm P R S S') (hn : ¬ P 73 3 ∧ ∀ x, ¬ P 131 x) : xNw S' n := (show xNw (S.1, S'.2.1, S.2.2) n from h.fr hf.f hn)
theorem xK.fr {S S' : xS} {c : xPx} {δ : Nat → Int32} {y y' ta ta' fa ra sa : Nat} {ρ : Nat → Nat} {P : Nat → Nat → Prop} (h : xK S c δ y y' ta ta' fa ra sa ρ) (hf : xFl P S S') (hn : ∀ i k, 5 ≤ i → i ≤ 71 → ¬ P i k) : xK S' c δ y y' ta ta' fa ra sa ρ := by
  obtain ⟨hy, ht, hw, hr, hX, ⟨r2, r3, r4, r5, r7, r8, r9, r10⟩, h0, hS, hB, hD, hY, hT, hV, hWB, hV2⟩ := h
  have hm := hf.m (R := fun _ _ => False)
  have m1 := hw.1.m
  have m2 := hw.2.1.m
  have m3 := hw.2.2.1.m
  refine ⟨hy, ht, hw, hr, hf.XC hX, ⟨hf.r r2, hf.r r3, hf.r r4, hf.r r5, hf.r r7, hf.r r8, hf.r r9, hf.r r10⟩, hf.i h0 (hn _ _ (by omega) (by omega)), hS.fg hr hf (fun i k a b => hn i k (by omega) (by omega)), hB.fg hr hf (fun i k a b => hn i k (by omega) (by omega)), hD.fm hr hm (fun a ha => hn _ _ (by have := ha.m; omega) (by have := ha.m; omega)), hY.fm hm (fun i k q => hn i k (by omega) (by omega)), hT.fm hm (fun i k q => hn i k (by omega) (by omega)), hV.fm hm (fun i k q => hn i k (by omega) (by omega)), hWB.fm hm (fun k => hn _ k (by omega) (by omega)), hV2.fm hm (fun i k q => hn i k (by omega) (by omega))⟩
theorem xqC.fr {S S' : xS} {c : xPx} {δ : Nat → Int32} {P : Nat → Nat → Prop} (h : xqC S c δ) (hf : xFl P S S') (hn : ∀ i k, 5 ≤ i → i ≤ 71 → ¬ P i k) : xqC S' c δ := by
  obtain ⟨y, y', ta, ta', fa, ra, sa, ρ, h⟩ := h
  exact ⟨y, y', ta, ta', fa, ra, sa, ρ, h.fr hf hn⟩
theorem xK.cs {S : xS} {c : xPx} {δ : Nat → Int32} {y y' ta ta' fa ra sa : Nat} {ρ : Nat → Nat} (h : xK S c δ y y' ta ta' fa ra sa ρ) : xCS S c := by
  obtain ⟨hy, ht, hw, hr, hX, ⟨r2, r3, r4, r5, r7, r8, r9, r10⟩, h0, hS, hB, hD, hY, hT, hV, hWB, hV2⟩ := h
  exact ⟨y, y + 1, y + 2, fa, fa + 1, fa + 2, fa + 3, ra, ra + 1, ra + 2, ra + 3, ρ, by unfold xYdC; omega, hw.1.o, hw.2.1.o, hr, hX, r4, r8, r9, hS, hB, hY, hV, hWB, hV2⟩
theorem xqC.cs {S : xS} {c : xPx} {δ : Nat → Int32} (h : xqC S c δ) : xCS S c := by
  obtain ⟨y, y', ta, ta', fa, ra, sa, ρ, h⟩ := h
  exact h.cs
theorem xqC.X {S : xS} {c : xPx} {δ : Nat → Int32} (h : xqC S c δ) : XC S := h.cs.X
theorem xqM.fr {S S' : xS} {c : xPx} {δ : Nat → Int32} {P : Nat → Nat → Prop} (h : xqM S c δ) (hf : xFl P S S') (hn : ∀ i q, ((i = 187 ∧ (q = 12 ∨ q = 13 ∨ q = 14 ∨ q = 15 ∨ q = 30 ∨ q = 31 ∨ q = 49)) ∨ i = 189 ∨ i = 191 ∨ i = 193 ∨ (195 ≤ i ∧ i ≤ 204) ∨ i = 208 ∨ i = 210) → ¬ P i q) : xqM S' c δ :=
  ⟨h.1.fr hf (fun i q w => hn i q (by omega)), h.2.fr hf (fun k => hn _ k (by omega))⟩
theorem xRM.f5 {s n : Nat} {S S' : xS} {t : Nat → Nat} {L : List xLn} {P : Nat → Nat → Prop} (h : xRM s S n t L) (hf : xFl P S S') (hn : ∀ i k, ((i = 195 ∧ 260 ≤ k) ∨ i = 198 ∨ i = 199 ∨ i = 200 ∨ i = 201 ∨ i = 202 ∨ i = 203) → ¬ P i k) : xRM s S' n t L :=
  ⟨fun k hk => hf.i (h.1 k hk) (hn _ _ (by omega)), fun i hi => ⟨hf.i (h.2.1 i hi).1 (hn _ _ (by omega)), hf.i (h.2.1 i hi).2.1 (hn _ _ (by omega)), hf.i (h.2.1 i hi).2.2 (hn _ _ (by omega))⟩, fun l hl => hf.i (h.2.2.1 l hl) (hn _ _ (by omega)), fun l hl => hf.i (h.2.2.2.1 l hl) (hn _ _ (by omega)), hf.i h.2.2.2.2 (hn _ _ (by omega))⟩
theorem xMl.f5 {S S' : xS} {σ : xSv} {P : Nat → Nat → Prop} (h : xMl S σ) (hf : xFl P S S') (hn : ∀ i k, ((i = 195 ∧ 260 ≤ k) ∨ i = 198 ∨ i = 199 ∨ i = 200 ∨ i = 201 ∨ i = 202 ∨ i = 203) → ¬ P i k) : xMl S' σ :=
  fun k hk => ⟨fun e => hf.i ((h k hk).1 e) (hn _ _ (by omega)), fun n t L e => ⟨((h k hk).2 n t L e).1.f5 hf hn, ((h k hk).2 n t L e).2⟩⟩
theorem xWM.f5 {p q : Nat} {S S' : xS} {l : List (List Nat)} {P : Nat → Nat → Prop} (h : xWM p q S l) (hp : 260 ≤ p) (hf : xFl P S S') (hn : ∀ i k, ((i = 195 ∧ 260 ≤ k) ∨ i = q) → ¬ P i k) : xWM p q S' l :=
  fun w hw => ⟨hf.i (h w hw).1 (hn _ _ (by omega)), fun k hk => hf.i ((h w hw).2 k hk) (hn _ _ (by omega))⟩
theorem xqM.f5 {S S' : xS} {c : xPx} {δ : Nat → Int32} {P : Nat → Nat → Prop} (h : xqM S c δ) (hf : xFl P S S') (hn : ∀ i q, ((i = 187 ∧ (q = 12 ∨ q = 13 ∨ q = 14 ∨ q = 15 ∨ q = 30 ∨ q = 31 ∨ q = 49)) ∨ i = 189 ∨ i = 191 ∨ i = 193 ∨ (i = 195 ∧ 260 ≤ q) ∨ (196 ≤ i ∧ i ≤ 204) ∨ i = 208 ∨ i = 210) → ¬ P i q) : xqM S' c δ := by
  obtain ⟨⟨h1, h2, h3, h4, h5, h6, h7⟩, h8⟩ := h
  exact ⟨⟨hf.XC h1, h2.f5 hf (fun i k w => hn i k (by omega)), h3.fr hf (fun k w => hn _ _ (by omega)) (fun a k w => hn _ _ (by omega)), h4.fr hf (fun i k w => hn _ _ (by omega)), ⟨h5.1.f5 (by decide) hf (fun i k w => hn i k (by omega)), hf.i h5.2.1 (hn _ _ (by omega)), h5.2.2⟩, h6.f5 (by decide) hf (fun i k w => hn i k (by omega)), hf.i h7 (hn _ _ (by omega))⟩, h8.fr hf (fun k => hn _ _ (by omega))⟩
theorem xqM.c {S S' : xS} {c : xPx} {δ : Nat → Int32} {P R : Nat → Nat → Prop} (h : xqM S c δ) (hf : xFm P R S S') (hX : XC S') (hn : ∀ i k, P i k → i < 187) : xqM S' c δ := by
  have := h.fr hf.f (fun i q w p => by have := hn i q p; omega)
  exact ⟨⟨hX, (show _ from this.1.2)⟩, (show xDM (S.1, S'.2.1, S.2.2) c.2.2.2.2 δ from this.2)⟩
theorem xZc.m {S S' : xS} {n : Nat} {t : Nat → Nat} {ou hi : List Nat} {fv : Int32} {P : Nat → Nat → Prop} (h : xZc S n t ou hi fv) (hf : xFl P S S') (hn : ∀ i k, P i k → 187 ≤ i) : xZc S' n t ou hi fv := by
  have w : ∀ i k, i < 187 → ¬ P i k := fun i k a p => by have := hn i k p; omega
  exact ⟨hf.i h.1 (w _ _ (by omega)), h.2.1.fr hf (fun k => w _ _ (by omega)), hf.i h.2.2.1 (w _ _ (by omega)), hf.i h.2.2.2.1 (w _ _ (by omega)), h.2.2.2.2.1.fr hf (fun k => w _ _ (by omega)), hf.i h.2.2.2.2.2.1 (w _ _ (by omega)), h.2.2.2.2.2.2.fr hf (fun k => w _ _ (by omega))⟩
theorem xZm.c {S S' : xS} {n : Nat} {t : Nat → Nat} {ou hi : List Nat} {fv : Int32} {P R : Nat → Nat → Prop} (h : xZm S n t ou hi fv) (hf : xFm P R S S') (hn : ∀ i k, P i k → i < 187) : xZm S' n t ou hi fv := by
  have w : ∀ i k, 187 ≤ i → ¬ P i k := fun i k a p => by have := hn i k p; omega
  have hf := hf.f
  show xZm (S.1, S'.2.1, S.2.2) n t ou hi fv
  exact ⟨hf.i h.1 (w _ _ (by omega)), h.2.1.fr hf (fun k => w _ _ (by omega)), hf.i h.2.2.1 (w _ _ (by omega)), hf.i h.2.2.2.1 (w _ _ (by omega)), h.2.2.2.2.1.fr hf (fun k => w _ _ (by omega)), hf.i h.2.2.2.2.2.1 (w _ _ (by omega)), h.2.2.2.2.2.2.fr hf (fun k => w _ _ (by omega))⟩
theorem xqC.m {S S' : xS} {c : xPx} {δ : Nat → Int32} {P : Nat → Nat → Prop} (h : xqC S c δ) (hf : xFl P S S') (hn : ∀ i k, P i k → 187 ≤ i) : xqC S' c δ := h.fr hf (fun i k a b p => by have := hn i k p; omega)
/-- a call on each side, each in its own cells -/
theorem xR.mk {S1 S2 : xS} {c : xPx} {δ : Nat → Int32} {n : Nat} {t : Nat → Nat} {ou hi : List Nat} {fv : Int32} {N : Nat} {Q : Nat → Nat → Prop} (ho : xzo c) (h1 : ou.length ≤ 240) (h2 : hi.length ≤ 24) (hC : xqC S1 c δ) (hZ : xZc S1 n t ou hi fv) (hN : xNw S1 N) (hf : xFl Q S1 S2) (hQ : ∀ i k, Q i k → 187 ≤ i) (hM : xqM S2 c δ) (hz : xZm S2 n t ou hi fv) : xR S2 N :=
  ⟨c, δ, n, t, ou, hi, fv, ho, h1, h2, hC.m hf hQ, hZ.m hf hQ, hN.fr hf ⟨fun p => absurd (hQ _ _ p) (by decide), fun x p => absurd (hQ _ _ p) (by decide)⟩, hM, hz⟩
/-- scratch alone, and the tape cut -/
theorem xR.go {S S1 S2 : xS} {c : xPx} {δ : Nat → Int32} {n n' : Nat} {t : Nat → Nat} {ou hi : List Nat} {fv : Int32} {N : Nat} {P Q : Nat → Nat → Prop} (ho : xzo c) (h1 : ou.length ≤ 240) (h2 : hi.length ≤ 24) (hC : xqC S c δ) (hZ : xZc S n t ou hi fv) (hM : xqM S c δ) (hz : xZm S n t ou hi fv) (hn : n' ≤ n)
    (hP : xFl P S S1) (pP : ∀ i k, P i k → (i = 1 ∧ k = 1) ∨ (73 ≤ i ∧ i < 186)) (e1 : S1.2.1 1 1 = nI n') (hN : xNw S1 N) (hQ : xFl Q S1 S2) (pQ : ∀ i k, Q i k → (i = 187 ∧ k ≠ 9 ∧ k ≠ 12 ∧ k ≠ 13 ∧ k ≠ 14 ∧ k ≠ 15 ∧ k ≠ 30 ∧ k ≠ 31 ∧ k ≠ 43 ∧ k ≠ 49 ∧ k ≠ 72) ∨ i = 190 ∨ i = 192 ∨ i = 194 ∨ i = 206 ∨ i = 207 ∨ i = 209 ∨ (211 ≤ i ∧ i ≠ 219) ∨ (i = 195 ∧ k < 12)) (e2 : S2.2.1 187 2 = nI n') : xR S2 N := by
  have w1 : ∀ i k, ¬ ((i = 1 ∧ k = 1) ∨ (73 ≤ i ∧ i < 186)) → ¬ P i k := fun i k a p => a (pP i k p)
  have hm := hP.m (R := fun _ _ => False)
  have M1 := hM.c hm (hP.XC hM.1.1) (fun i k p => by have := pP i k p; omega)
  have z1 := hz.c hm (fun i k p => by have := pP i k p; omega)
  have Z : xZc S1 n' t ou hi fv := ⟨e1, ⟨Nat.le_trans hn hZ.2.1.1, fun k hk => (hZ.2.1.fr hP (fun k => w1 _ _ (by omega))).2 k (by omega)⟩, hP.i hZ.2.2.1 (w1 _ _ (by omega)), hP.i hZ.2.2.2.1 (w1 _ _ (by omega)), hZ.2.2.2.2.1.fr hP (fun k => w1 _ _ (by omega)), hP.i hZ.2.2.2.2.2.1 (w1 _ _ (by omega)), hZ.2.2.2.2.2.2.fr hP (fun k => w1 _ _ (by omega))⟩
  have z : xZm S2 n' t ou hi fv := ⟨e2, ⟨Nat.le_trans hn hz.2.1.1, fun k hk => (z1.2.1.fr hQ (fun k q => by have := pQ _ _ q; omega)).2 k (by omega)⟩, hQ.i z1.2.2.1 (fun q => by have := pQ _ _ q; omega), hQ.i z1.2.2.2.1 (fun q => by have := pQ _ _ q; omega), z1.2.2.2.2.1.fr hQ (fun k q => by have := pQ _ _ q; omega), hQ.i z1.2.2.2.2.2.1 (fun q => by have := pQ _ _ q; omega), z1.2.2.2.2.2.2.fr hQ (fun k q => by have := pQ _ _ q; omega)⟩
  exact xR.mk ho h1 h2 (hC.fr hP (fun i k a b => w1 i k (by omega))) Z hN hQ (fun i k q => by have := pQ i k q; omega) (M1.f5 hQ (fun i k a q => by have := pQ i k q; omega)) z
