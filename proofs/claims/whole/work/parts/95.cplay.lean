/-! play of the class, the call; a game made ready -/
theorem xRD_mk {S1 S2 : xS} {v : xYd} {tv : xTg} {l l2 : List (List Nat)} {σ : xSv} (ho : xzo (v, tv, l, l2, σ)) (ha : xzal (v, tv, l, l2, σ) = true) (f : xFl (fun i _ => 106 ≤ i ∧ i ≤ 129) S1 S2) (h1 : xRC S1 (xgOf l.length v)) (h2 : xNb S1 (fun p => xwB tv (l.getD p [])) l.length) (h3 : xAl S1 (fun a => (l2.getD a []).length) l2.length) (h4 : S1.2.1 74 2 = nI v.2.length) (h5 : ∀ i, i < v.2.length → S1.2.1 76 i = nI (v.2.getD i 0)) (h6 : (∀ q, q < v.2.length → ∀ n t L, σ (v.2.getD q 0) = some (n, t, L) → xCh (106 + 4 * v.2.getD q 0) S2 (xct tv t (xbts v)) (xbts v) L 0)) : xRD S2 (v, tv, l, l2, σ) 0 := by
  refine ⟨h1.fr f (fun k h => by omega), h2.fr f (fun k h => by omega), h3.fr f (fun i k h => by omega), f.i h4 (by omega), fun i hi => f.i (h5 i hi) (by omega), fun i hi => ?_⟩
  have hs := List.all_eq_true.mp ha _ (xmem_getD (d := 0) hi)
  cases e : σ (v.2.getD i 0) with
  | none =>
    have hs' : (σ (v.2.getD i 0)).isSome = true := hs
    rw [e] at hs'
    cases hs'
  | some x =>
    obtain ⟨n, t, L⟩ := x
    have h := h6 i hi n t L e
    have e2 : xzr (v, tv, l, l2, σ) (v.2.getD i 0) = (t, L) := by unfold xzr; rw [show (((v, tv, l, l2, σ) : xPx).2.2.2.2 (v.2.getD i 0)) = some (n, t, L) from e]
    unfold xzx
    show xCh _ _ (xct tv (xzr (v, tv, l, l2, σ) (v.2.getD i 0)).1 (xbts v)) (xbts v) (xzr (v, tv, l, l2, σ) (v.2.getD i 0)).2 _
    rw [e2, ite_self]
    exact h
theorem xSl.fg {S S' : xS} {ρ : Nat → Nat} {σ : xSv} {P : Nat → Nat → Prop} (h : xSl S ρ σ) (hr : xro ρ) (hf : xFl P S S') (hn : ∀ i k, 18 ≤ i → i < 60 → ¬ P i k) : xSl S' ρ σ := h.fm hr (hf.m (R := fun _ _ => False)) (fun k _ => id) (fun a i k ha hi => hn i k (by have := ha.m; omega) (by have := ha.m; omega))
theorem xSlB.fg {S S' : xS} {ρ : Nat → Nat} {σ : xSv} {v : xTg} {P : Nat → Nat → Prop} (h : xSlB S ρ σ v 6) (hr : xro ρ) (hf : xFl P S S') (hn : ∀ i k, 18 ≤ i → i < 60 → ¬ P i k) : xSlB S' ρ σ v 6 := h.fm (hf.m (R := fun _ _ => False)) (fun q k hq => hn _ k (by have := (hr.1 q (by omega)).m; omega) (by have := (hr.1 q (by omega)).m; omega))
theorem c_two {y yb yc a b c e a2 b2 c2 e2 : Nat} {ρ : Nat → Nat} {σ : xSv} {v : xYd} {tv : xTg} {l l2 : List (List Nat)} (d : Nat) (hyc : xYdC y yb yc) (hwf : xWo a b c e) (hwq : xWo a2 b2 c2 e2) (hr : xro ρ) (ho : xzo (v, tv, l, l2, σ)) {S : xS} (hX : XC S) (h4 : S.2.2.1 0 4 = some y) (h8 : S.2.2.1 0 8 = some a) (h9 : S.2.2.1 0 9 = some a2) (hS : xSl S ρ σ) (hSB : xSlB S ρ σ tv 6) (hY : xYdV y yb yc S v) (hV1 : xWV a b c S l) (hWB : xWB e S tv l) (hV2 : xWV a2 b2 c2 S l2) : ∃ S1, xcall false (d + 4) j_X4_gather [.ref 74, .ref y, .ref a, .ref a2] S none S1 ∧ xFl (fun i k => (i = 74 ∧ (k = 2 ∨ k = 5 ∨ 10 ≤ k)) ∨ i = 76 ∨ i = 77 ∨ i = 78 ∨ (106 ≤ i ∧ i ≤ 129)) S S1 ∧ xRC S1 (xgOf l.length v) ∧ (xzal (v, tv, l, l2, σ) = true → ∃ S2, xcall false (d + 4) j_X11_learnRhymes [.ref 0] S1 none S2 ∧ xFl (fun i k => (i = 74 ∧ (k = 2 ∨ k = 5 ∨ 10 ≤ k)) ∨ i = 76 ∨ i = 77 ∨ i = 78 ∨ (106 ≤ i ∧ i ≤ 129)) S S2 ∧ xRD S2 (v, tv, l, l2, σ) 0) := by
  obtain ⟨S1, g1, f1, c1, c2', c3, c4, c5, c6⟩ := c_gather (d + 3) hyc hwf hwq ho.2.2.1.2.1 hX hY hV1 hWB hV2
  have X1 := f1.XC hX
  have hyu : (11 ≤ y ∧ y < 17) ∧ (11 ≤ yb ∧ yb < 17) ∧ (11 ≤ yc ∧ yc < 17) := by rcases hyc with h | h <;> omega
  refine ⟨S1, g1, f1.mono (fun i k h => by omega), c1, fun ha => ?_⟩
  obtain ⟨S2, g2, f2, h2⟩ := c_learnRhymes d hyc hr X1 (f1.r h4) (hS.fg hr f1 (fun i k h h' => by omega)) (xYdV.fr _ _ _ _ hY f1 (fun i k h => by omega)) (hSB.fg hr f1 (fun i k h h' => by omega)) c2'
  exact ⟨S2, g2, (f1.mono (fun i k h => by omega)).tt (f2.mono (fun i k h => by omega)), xRD_mk ho ha f2 c1 c3 c4 c5 c6 h2⟩
theorem c_play_no1 {y yb yc a b c e a2 b2 c2 e2 : Nat} {ρ : Nat → Nat} {σ : xSv} {v : xYd} {tv : xTg} {l l2 : List (List Nat)} {n : Nat} {t : Nat → Nat} (d : Nat) (hyc : xYdC y yb yc) (hwf : xWo a b c e) (hwq : xWo a2 b2 c2 e2) (hr : xro ρ) (ho : xzo (v, tv, l, l2, σ)) {S : xS} (hX : XC S) (h4 : S.2.2.1 0 4 = some y) (h8 : S.2.2.1 0 8 = some a) (h9 : S.2.2.1 0 9 = some a2) (hS : xSl S ρ σ) (hSB : xSlB S ρ σ tv 6) (hY : xYdV y yb yc S v) (hV1 : xWV a b c S l) (hWB : xWB e S tv l) (hV2 : xWV a2 b2 c2 S l2) (hn : S.2.1 1 1 = nI n) (hT : xTb S n t) (hno : ¬ ∀ k, k < n → t k < l2.length) : xcall false (d + 5) j_X11_play [.ref 0] S (some (.int (-1))) (xSI S 1 1 (nI 0)) := by
  have F0 : xFl (fun i k => i = 1 ∧ k = 1) S (xSI S 1 1 (nI 0)) := (xFl.rf S).SI ⟨rfl, rfl⟩
  have X0 := F0.XC hX
  have gt := c_take hX hn (d + 4)
  have T0 := hT.fr F0 (fun k h => by omega)
  have hwu2 : a2 + 3 < 74 ∧ b2 < 74 ∧ c2 < 74 ∧ e2 < 74 := by rcases hwq with h | h | h <;> omega
  have hyu : (11 ≤ y ∧ y < 17) ∧ (11 ≤ yb ∧ yb < 17) ∧ (11 ≤ yc ∧ yc < 17) := by rcases hyc with h | h <;> omega
  have V20 := hV2.fm (F0.m (R := fun _ _ => False)) (fun i k h => by rcases hwq with q | q | q <;> omega)
  have hq := (hwq.sh X0).1
  have kq := V20.1
  have gb := c_isBelow (b := l2.length) X0 T0 (by have : l2.length ≤ 5 := ho.2.2.1.2.1; omega) (d + 4)
  rw [decide_eq_false hno] at gb
  refine xcall_intro (ls := [.ref 0, .float 0]) q_X11_play (by decide) rfl (Nat.le_of_ble_eq_true rfl) rfl ?_
  refine wp_aload_n dX11_play_0 rfl rfl (g10_10 dX11_play_1 (xsh hX sh_0) (xrr hX r0_0) (wp_iv1 dX11_play_4 k10_107 q_X6_take (by decide) (xsh hX sh_1) (by decide) (Nat.le_of_ble_eq_true rfl) gt (wp_istore_n dX11_play_7 ⟨Nat.le_of_ble_eq_true rfl, Or.inr rfl⟩ rfl (wp_aload_n dX11_play_8 rfl rfl (g10_10 dX11_play_9 (xsh X0 sh_0) (xrr X0 r0_0) (wp_iload_n dX11_play_12 rfl (wp_aload_n dX11_play_13 rfl rfl (g10_61 dX11_play_14 (xsh X0 sh_0) (F0.r h9) (gv10_152 dX11_play_17 hq kq (wp_iv3 dX11_play_20 k10_198 q_X6_isBelow (by decide) (xsh X0 sh_1) (by decide) (Nat.le_of_ble_eq_true rfl) gb ?_))))))))))
  refine wb_if_eq dX11_play_23 rfl (fun c23 => ?_) (fun c23 => absurd c23 (by decide))
  exact wp_iconst (v := -1) dX11_play_33 rfl (wp_ireturn dX11_play_34 rfl rfl ⟨rfl, rfl⟩)
theorem c_play_no2 {y yb yc a b c e a2 b2 c2 e2 : Nat} {ρ : Nat → Nat} {σ : xSv} {v : xYd} {tv : xTg} {l l2 : List (List Nat)} {n : Nat} {t : Nat → Nat} (d : Nat) (hyc : xYdC y yb yc) (hwf : xWo a b c e) (hwq : xWo a2 b2 c2 e2) (hr : xro ρ) (ho : xzo (v, tv, l, l2, σ)) {S : xS} (hX : XC S) (h4 : S.2.2.1 0 4 = some y) (h8 : S.2.2.1 0 8 = some a) (h9 : S.2.2.1 0 9 = some a2) (hS : xSl S ρ σ) (hSB : xSlB S ρ σ tv 6) (hY : xYdV y yb yc S v) (hV1 : xWV a b c S l) (hWB : xWB e S tv l) (hV2 : xWV a2 b2 c2 S l2) (hn : S.2.1 1 1 = nI n) (hT : xTb S n t) (hyes : ∀ k, k < n → t k < l2.length) (hal : xzal (v, tv, l, l2, σ) = false) : xcall false (d + 5) j_X11_play [.ref 0] S (some (.int (-1))) (xSI S 1 1 (nI 0)) := by
  have F0 : xFl (fun i k => i = 1 ∧ k = 1) S (xSI S 1 1 (nI 0)) := (xFl.rf S).SI ⟨rfl, rfl⟩
  have X0 := F0.XC hX
  have gt := c_take hX hn (d + 4)
  have T0 := hT.fr F0 (fun k h => by omega)
  have hwu2 : a2 + 3 < 74 ∧ b2 < 74 ∧ c2 < 74 ∧ e2 < 74 := by rcases hwq with h | h | h <;> omega
  have hyu : (11 ≤ y ∧ y < 17) ∧ (11 ≤ yb ∧ yb < 17) ∧ (11 ≤ yc ∧ yc < 17) := by rcases hyc with h | h <;> omega
  have V20 := hV2.fm (F0.m (R := fun _ _ => False)) (fun i k h => by rcases hwq with q | q | q <;> omega)
  have hq := (hwq.sh X0).1
  have kq := V20.1
  have gb := c_isBelow (b := l2.length) X0 T0 (by have : l2.length ≤ 5 := ho.2.2.1.2.1; omega) (d + 4)
  rw [decide_eq_true hyes] at gb
  have gr := c_areRhymesThere (d + 2) hyc hr X0 (F0.r h4) (hS.fg hr F0 (fun i k h h' => by omega)) (xYdV.fr _ _ _ _ hY F0 (fun i k h => by omega))
  rw [show v.2.all (fun s => (σ s).isSome) = false from hal] at gr
  refine xcall_intro (ls := [.ref 0, .float 0]) q_X11_play (by decide) rfl (Nat.le_of_ble_eq_true rfl) rfl ?_
  refine wp_aload_n dX11_play_0 rfl rfl (g10_10 dX11_play_1 (xsh hX sh_0) (xrr hX r0_0) (wp_iv1 dX11_play_4 k10_107 q_X6_take (by decide) (xsh hX sh_1) (by decide) (Nat.le_of_ble_eq_true rfl) gt (wp_istore_n dX11_play_7 ⟨Nat.le_of_ble_eq_true rfl, Or.inr rfl⟩ rfl (wp_aload_n dX11_play_8 rfl rfl (g10_10 dX11_play_9 (xsh X0 sh_0) (xrr X0 r0_0) (wp_iload_n dX11_play_12 rfl (wp_aload_n dX11_play_13 rfl rfl (g10_61 dX11_play_14 (xsh X0 sh_0) (F0.r h9) (gv10_152 dX11_play_17 hq kq (wp_iv3 dX11_play_20 k10_198 q_X6_isBelow (by decide) (xsh X0 sh_1) (by decide) (Nat.le_of_ble_eq_true rfl) gb ?_))))))))))
  refine wb_if_eq dX11_play_23 rfl (fun c23 => absurd c23 (by decide)) (fun c23 => ?_)
  refine wp_aload_n dX11_play_26 rfl rfl (wp_iv1 dX11_play_27 k10_202 q_X11_areRhymesThere (by decide) (xsh X0 sh_0) (by decide) (Nat.le_of_ble_eq_true rfl) gr ?_)
  refine wb_if_ne dX11_play_30 rfl (fun c30 => absurd c30 (by decide)) (fun c30 => ?_)
  exact wp_iconst (v := -1) dX11_play_33 rfl (wp_ireturn dX11_play_34 rfl rfl ⟨rfl, rfl⟩)
theorem c_play {y yb yc a b c e a2 b2 c2 e2 : Nat} {ρ : Nat → Nat} {σ : xSv} {v : xYd} {tv : xTg} {l l2 : List (List Nat)} {n : Nat} {t : Nat → Nat} (d : Nat) (hyc : xYdC y yb yc) (hwf : xWo a b c e) (hwq : xWo a2 b2 c2 e2) (hr : xro ρ) (ho : xzo (v, tv, l, l2, σ)) {S : xS} (hX : XC S) (h4 : S.2.2.1 0 4 = some y) (h8 : S.2.2.1 0 8 = some a) (h9 : S.2.2.1 0 9 = some a2) (hS : xSl S ρ σ) (hSB : xSlB S ρ σ tv 6) (hY : xYdV y yb yc S v) (hV1 : xWV a b c S l) (hWB : xWB e S tv l) (hV2 : xWV a2 b2 c2 S l2) (hn : S.2.1 1 1 = nI n) (hT : xTb S n t) (hyes : ∀ k, k < n → t k < l2.length) (hal : xzal (v, tv, l, l2, σ) = true) : ∃ S', xcall false (d + 5) j_X11_play [.ref 0] S (some (.int (nI (xwk (v, tv, l, l2, σ) t n 24 (2 ^ xgH (xgOf l.length v) - 1) 0 0 0).2))) S' ∧ xFl (fun i k => (i = 1 ∧ k = 1) ∨ (i = 0 ∧ k = 18) ∨ i = 186 ∨ (74 ≤ i ∧ i ≤ 129)) S S' ∧ S'.2.1 0 18 = nI (xwk (v, tv, l, l2, σ) t n 24 (2 ^ xgH (xgOf l.length v) - 1) 0 0 0).1.length ∧ ∀ q, q < (xwk (v, tv, l, l2, σ) t n 24 (2 ^ xgH (xgOf l.length v) - 1) 0 0 0).1.length → S'.2.1 186 q = nI ((xwk (v, tv, l, l2, σ) t n 24 (2 ^ xgH (xgOf l.length v) - 1) 0 0 0).1.getD q 0) := by
  have F0 : xFl (fun i k => i = 1 ∧ k = 1) S (xSI S 1 1 (nI 0)) := (xFl.rf S).SI ⟨rfl, rfl⟩
  have X0 := F0.XC hX
  have gt := c_take hX hn (d + 4)
  have T0 := hT.fr F0 (fun k h => by omega)
  have hwu2 : a2 + 3 < 74 ∧ b2 < 74 ∧ c2 < 74 ∧ e2 < 74 := by rcases hwq with h | h | h <;> omega
  have hyu : (11 ≤ y ∧ y < 17) ∧ (11 ≤ yb ∧ yb < 17) ∧ (11 ≤ yc ∧ yc < 17) := by rcases hyc with h | h <;> omega
  have V20 := hV2.fm (F0.m (R := fun _ _ => False)) (fun i k h => by rcases hwq with q | q | q <;> omega)
  have hq := (hwq.sh X0).1
  have kq := V20.1
  have gb := c_isBelow (b := l2.length) X0 T0 (by have : l2.length ≤ 5 := ho.2.2.1.2.1; omega) (d + 4)
  rw [decide_eq_true hyes] at gb
  have hwu : a + 3 < 74 ∧ b < 74 ∧ c < 74 ∧ e < 74 := by rcases hwf with h | h | h <;> omega
  have S0l := hS.fg hr F0 (fun i k h h' => by omega)
  have Y0 := xYdV.fr _ _ _ _ hY F0 (fun i k h => by omega)
  have gr := c_areRhymesThere (d + 2) hyc hr X0 (F0.r h4) S0l Y0
  rw [show v.2.all (fun s => (σ s).isSome) = true from hal] at gr
  obtain ⟨S1, g1, f1, c1, k2⟩ := c_two d hyc hwf hwq hr ho X0 (F0.r h4) (F0.r h8) (F0.r h9) S0l (hSB.fg hr F0 (fun i k h h' => by omega)) Y0 (hV1.fm (F0.m (R := fun _ _ => False)) (fun i k h => by rcases hwf with q | q | q <;> omega)) (hWB.fm (F0.m (R := fun _ _ => False)) (fun k h => by rcases hwf with q | q | q <;> omega)) V20
  obtain ⟨S2, g2, f2, D2⟩ := k2 hal
  have X1 := f1.XC X0
  have X2 := f2.XC X0
  have hg := ho.g
  have hH := hg.H
  have hpos := Nat.two_pow_pos (xgH (xgOf l.length v))
  have hH1 : 1 ≤ xgH (xgOf l.length v) := hH.1
  have h1lt : 1 < 2 ^ xgH (xgOf l.length v) := Nat.one_lt_two_pow (by omega)
  have gal := c_allHands (d + 3) hg X2 D2.1
  have F2' : xFl (fun i k => i = 0 ∧ k = 18) S2 (xSI S2 0 18 (nI 0)) := (xFl.rf S2).SI ⟨rfl, rfl⟩
  have T2 := (T0.fr f2 (fun k h => by omega)).fr F2' (fun k h => by omega)
  obtain ⟨r, S3, g3, rfl, z1, z2, z3⟩ := xcall_some (al := false) (d := d + 4) (ls := [.ref 0, .int (nI n), .float 0, .float 0, .float 0, .float 0, .float 0]) (S := S2) (as := [.ref 0, .int (nI n)]) q_X11_walk (by decide) rfl (Nat.le_of_ble_eq_true rfl) rfl
    (P := fun r S' => r = some (.int (nI (xwk (v, tv, l, l2, σ) t n 24 (2 ^ xgH (xgOf l.length v) - 1) 0 0 0).2)) ∧ xFl (fun i q => (i = 0 ∧ q = 18) ∨ (i = 186 ∧ 0 ≤ q) ∨ (i = 74 ∧ q = 7) ∨ i = 79 ∨ i = 80 ∨ (82 ≤ i ∧ i ≤ 105)) (xSI S2 0 18 (nI 0)) S' ∧ S'.2.1 0 18 = nI (0 + (xwk (v, tv, l, l2, σ) t n 24 (2 ^ xgH (xgOf l.length v) - 1) 0 0 0).1.length) ∧ ∀ q, q < (xwk (v, tv, l, l2, σ) t n 24 (2 ^ xgH (xgOf l.length v) - 1) 0 0 0).1.length → S'.2.1 186 (0 + q) = nI ((xwk (v, tv, l, l2, σ) t n 24 (2 ^ xgH (xgOf l.length v) - 1) 0 0 0).1.getD q 0)) (by
      exact wp_aload_n dX11_walk_0 rfl rfl (g10_82 dX11_walk_1 (xsh X2 sh_0) (xrr X2 r0_14) (wp_iv1 dX11_walk_4 k10_316 q_X4_allHands (by decide) (xsh X2 sh_74) (by decide) (Nat.le_of_ble_eq_true rfl) gal (wp_istore_n dX11_walk_7 ⟨Nat.le_of_ble_eq_true rfl, Or.inr rfl⟩ rfl (wp_iconst (v := nI 0) dX11_walk_8 rfl (wp_istore_n dX11_walk_9 ⟨Nat.le_of_ble_eq_true rfl, Or.inr rfl⟩ rfl (wp_iconst (v := nI 0) dX11_walk_10 rfl (wp_istore dX11_walk_11 ⟨Nat.le_of_ble_eq_true rfl, Or.inr rfl⟩ rfl (wp_aload_n dX11_walk_13 rfl rfl (wp_iconst (v := nI 0) dX11_walk_14 rfl (p10_216 dX11_walk_15 (xsh X2 sh_0) (wk_loop ho hal hyes 24 0 (2 ^ xgH (xgOf l.length v) - 1) 0 0 _ _ _ rfl (Nat.sub_lt hpos (by decide)) (fun _ => by omega) hH1 (Nat.le_refl _) (F2'.XC X2) (D2.fr F2' (fun i k h => by omega) ho) T2 (xI_same _ _ _ _)))))))))))))
  refine ⟨S3, ?_, (((F0.mono (fun i k h => by omega)).tt (f2.mono (fun i k h => by omega))).tt (F2'.mono (fun i k h => by omega))).tt (z1.mono (fun i k h => by omega)), by rw [z2, Nat.zero_add], fun q hq => by have := z3 q hq; rw [Nat.zero_add] at this; exact this⟩
  refine xcall_intro (ls := [.ref 0, .float 0]) q_X11_play (by decide) rfl (Nat.le_of_ble_eq_true rfl) rfl ?_
  refine wp_aload_n dX11_play_0 rfl rfl (g10_10 dX11_play_1 (xsh hX sh_0) (xrr hX r0_0) (wp_iv1 dX11_play_4 k10_107 q_X6_take (by decide) (xsh hX sh_1) (by decide) (Nat.le_of_ble_eq_true rfl) gt (wp_istore_n dX11_play_7 ⟨Nat.le_of_ble_eq_true rfl, Or.inr rfl⟩ rfl (wp_aload_n dX11_play_8 rfl rfl (g10_10 dX11_play_9 (xsh X0 sh_0) (xrr X0 r0_0) (wp_iload_n dX11_play_12 rfl (wp_aload_n dX11_play_13 rfl rfl (g10_61 dX11_play_14 (xsh X0 sh_0) (F0.r h9) (gv10_152 dX11_play_17 hq kq (wp_iv3 dX11_play_20 k10_198 q_X6_isBelow (by decide) (xsh X0 sh_1) (by decide) (Nat.le_of_ble_eq_true rfl) gb ?_))))))))))
  refine wb_if_eq dX11_play_23 rfl (fun c23 => absurd c23 (by decide)) (fun c23 => ?_)
  refine wp_aload_n dX11_play_26 rfl rfl (wp_iv1 dX11_play_27 k10_202 q_X11_areRhymesThere (by decide) (xsh X0 sh_0) (by decide) (Nat.le_of_ble_eq_true rfl) gr ?_)
  refine wb_if_ne dX11_play_30 rfl (fun c30 => ?_) (fun c30 => absurd c30 (by decide))
  exact wp_aload_n dX11_play_35 rfl rfl (g10_82 dX11_play_36 (xsh X0 sh_0) (xrr X0 r0_14) (wp_aload_n dX11_play_39 rfl rfl (g10_36 dX11_play_40 (xsh X0 sh_0) (F0.r h4) (wp_aload_n dX11_play_43 rfl rfl (g10_57 dX11_play_44 (xsh X0 sh_0) (F0.r h8) (wp_aload_n dX11_play_47 rfl rfl (g10_61 dX11_play_48 (xsh X0 sh_0) (F0.r h9) (wp_iv4 dX11_play_51 k10_206 q_X4_gather (by decide) (xsh X0 sh_74) (by decide) (Nat.le_of_ble_eq_true rfl) g1 (wp_aload_n dX11_play_54 rfl rfl (wp_iv1 dX11_play_55 k10_210 q_X11_learnRhymes (by decide) (xsh X1 sh_0) (by decide) (Nat.le_of_ble_eq_true rfl) g2 (wp_aload_n dX11_play_58 rfl rfl (wp_iload_n dX11_play_59 rfl (wp_iv2 dX11_play_60 k10_213 q_X11_walk (by decide) (xsh X2 sh_0) (by decide) (Nat.le_of_ble_eq_true rfl) g3 (wp_ireturn dX11_play_63 rfl rfl ⟨rfl, rfl⟩))))))))))))))
