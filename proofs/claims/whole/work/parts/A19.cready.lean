/-! a GAME of the class: made ready; game and sure -/
/-- the class's state, as far as plays and games read it -/
def xCS (S : xS) (c : xPx) : Prop := ∃ y yb yc a b c' e a2 b2 c2 e2 : Nat, ∃ ρ : Nat → Nat, xYdC y yb yc ∧ xWo a b c' e ∧ xWo a2 b2 c2 e2 ∧ xro ρ ∧ XC S ∧ S.2.2.1 0 4 = some y ∧ S.2.2.1 0 8 = some a ∧ S.2.2.1 0 9 = some a2 ∧ xSl S ρ c.2.2.2.2 ∧ xSlB S ρ c.2.2.2.2 c.2.1 6 ∧ xYdV y yb yc S c.1 ∧ xWV a b c' S c.2.2.1 ∧ xWB e S c.2.1 c.2.2.1 ∧ xWV a2 b2 c2 S c.2.2.2.1
theorem xCS.X {S : xS} {c : xPx} (h : xCS S c) : XC S := by
  obtain ⟨y, yb, yc, a, b, c', e, a2, b2, c2, e2, ρ, h1, h2, h3, h4, h5, _⟩ := h
  exact h5
theorem xCS.fr {S S' : xS} {c : xPx} {P : Nat → Nat → Prop} (h : xCS S c) (hf : xFl P S S') (hn : ∀ i q, 11 ≤ i → i ≤ 71 → ¬ P i q) : xCS S' c := by
  obtain ⟨y, yb, yc, a, b, c', e, a2, b2, c2, e2, ρ, h1, h2, h3, h4, h5, h6, h7, h8, h9, h10, h11, h12, h13, h14⟩ := h
  have hyu : (11 ≤ y ∧ y < 17) ∧ (11 ≤ yb ∧ yb < 17) ∧ (11 ≤ yc ∧ yc < 17) := by rcases h1 with h | h <;> omega
  have hwu : (60 ≤ a ∧ a ≤ 71) ∧ (60 ≤ b ∧ b ≤ 71) ∧ (60 ≤ c' ∧ c' ≤ 71) ∧ (60 ≤ e ∧ e ≤ 71) := by rcases h2 with h | h | h <;> omega
  have hwu2 : (60 ≤ a2 ∧ a2 ≤ 71) ∧ (60 ≤ b2 ∧ b2 ≤ 71) ∧ (60 ≤ c2 ∧ c2 ≤ 71) ∧ (60 ≤ e2 ∧ e2 ≤ 71) := by rcases h3 with h | h | h <;> omega
  exact ⟨y, yb, yc, a, b, c', e, a2, b2, c2, e2, ρ, h1, h2, h3, h4, hf.XC h5, hf.r h6, hf.r h7, hf.r h8, h9.fg h4 hf (fun i k w1 w2 => hn _ _ (by omega) (by omega)), h10.fg h4 hf (fun i k w1 w2 => hn _ _ (by omega) (by omega)), xYdV.fr _ _ _ _ h11 hf (fun i k w => hn _ _ (by omega) (by omega)), h12.fm (hf.m (R := fun _ _ => False)) (fun i k w => hn _ _ (by omega) (by omega)), h13.fm (hf.m (R := fun _ _ => False)) (fun k => hn _ _ (by omega) (by omega)), h14.fm (hf.m (R := fun _ _ => False)) (fun i k w => hn _ _ (by omega) (by omega))⟩
theorem xbt_z (i : Nat) : bt 0 i = false := by unfold bt; simp
theorem xfolk {x : Int32} {P : Nat} (hP : P ≤ 12) : x &&& (nI (2 ^ P - 1) ^^^ (-1)) = 0 ↔ ∃ n, n < 2 ^ P ∧ x = nI n := by
  constructor
  · intro h
    have hb : ∀ i, P ≤ i → i < 32 → bt x i = false := by
      intro i h1 h2
      have e := congrArg (fun z => bt z i) h
      have e : bt (x &&& (nI (2 ^ P - 1) ^^^ (-1))) i = bt 0 i := e
      rw [b_and, b_xor, b_m1 i h2, bt_nI _ _ h2, Nat.testBit_two_pow_sub_one, decide_eq_false (by omega), xbt_z] at e
      cases hx : bt x i with
      | false => rfl
      | true => rw [hx] at e; cases e
    refine ⟨x.toBitVec.toNat, ?_, ?_⟩
    · refine Nat.lt_pow_two_of_testBit _ (fun i hi => ?_)
      rcases Nat.lt_or_ge i 32 with w | w
      · exact hb i hi w
      · exact Nat.testBit_lt_two_pow (Nat.lt_of_lt_of_le x.toBitVec.isLt (Nat.pow_le_pow_right (by decide) w))
    · refine b_ext (fun i hi => ?_)
      rw [bt_nI _ _ hi]
      rfl
  · rintro ⟨n, hn, rfl⟩
    refine b_ext (fun i hi => ?_)
    rw [b_and, b_xor, b_m1 i hi, bt_nI _ _ hi, bt_nI _ _ hi, Nat.testBit_two_pow_sub_one, xbt_z]
    rcases Nat.lt_or_ge i P with w | w
    · rw [decide_eq_true w]; cases n.testBit i <;> rfl
    · rw [Nat.testBit_lt_two_pow (Nat.lt_of_lt_of_le hn (Nat.pow_le_pow_right (by decide) w))]; rfl
/-- the marks of the class's GAME: none is of a later reckoning -/
def xNw (S : xS) (n : Nat) : Prop := S.2.1 73 3 = nI n ∧ ∀ x, x < 2048 → ∃ v, v ≤ n ∧ S.2.1 131 x = nI v
theorem xNw.fr {S S' : xS} {n : Nat} {P : Nat → Nat → Prop} (h : xNw S n) (hf : xFl P S S') (hn : ¬ P 73 3 ∧ ∀ x, ¬ P 131 x) : xNw S' n := ⟨hf.i h.1 hn.1, fun x hx => by obtain ⟨v, h1, h2⟩ := h.2 x hx; exact ⟨v, h1, hf.i h2 (hn.2 x)⟩⟩
theorem c_isGameReady {c : xPx} (d : Nat) (ho : xzo c) {S : xS} (h : xCS S c) : ∃ b S', xcall false (d + 5) j_X11_isGameReady [.ref 0] S (some (.int (xB b))) S' ∧ xFl (fun i k => (i = 74 ∧ (k = 2 ∨ k = 5 ∨ 10 ≤ k)) ∨ i = 76 ∨ i = 77 ∨ i = 78 ∨ (106 ≤ i ∧ i ≤ 129)) S S' ∧ (b = true ↔ (xzal c = true ∧ xgH (xzg c) ≤ 8)) ∧ (b = true → xRD S' c 0) := by
  obtain ⟨y, yb, yc, a, b, c', e, a2, b2, c2, e2, ρ, h1, h2, h3, h4, hX, h6, h7, h8, h9, h10, h11, h12, h13, h14⟩ := h
  obtain ⟨v, tv, l, l2, σ⟩ := c
  obtain ⟨S1, g1, f1, c1, k2⟩ := c_two d h1 h2 h3 h4 ho hX h6 h7 h8 h9 h10 h11 h12 h13 h14
  have X1 := f1.XC hX
  have hyu : (11 ≤ y ∧ y < 17) ∧ (11 ≤ yb ∧ yb < 17) ∧ (11 ≤ yc ∧ yc < 17) := by rcases h1 with h | h <;> omega
  have gt := c_isTooGreat (d + 4) ho.g X1 c1
  have ga := c_areRhymesThere (d + 2) h1 h4 X1 (f1.r h6) (h9.fg h4 f1 (fun i k w1 w2 => by omega)) (xYdV.fr _ _ _ _ h11 f1 (fun i k w => by omega))
  rcases Nat.lt_or_ge 8 (xgH (xgOf l.length v)) with w | w
  · rw [show decide (8 < xgH (xzg (v, tv, l, l2, σ))) = true from decide_eq_true w] at gt
    refine ⟨false, S1, ?_, f1, ⟨fun q => (by cases q), fun q => absurd q.2 (Nat.not_le.mpr w)⟩, fun q => (by cases q)⟩
    refine xcall_intro (ls := [.ref 0]) q_X11_isGameReady (by decide) rfl (Nat.le_of_ble_eq_true rfl) rfl ?_
    refine wp_aload_n dX11_isGameReady_0 rfl rfl (g10_82 dX11_isGameReady_1 (xsh hX sh_0) (xrr hX r0_14) (wp_aload_n dX11_isGameReady_4 rfl rfl (g10_36 dX11_isGameReady_5 (xsh hX sh_0) h6 (wp_aload_n dX11_isGameReady_8 rfl rfl (g10_57 dX11_isGameReady_9 (xsh hX sh_0) h7 (wp_aload_n dX11_isGameReady_12 rfl rfl (g10_61 dX11_isGameReady_13 (xsh hX sh_0) h8 (wp_iv4 dX11_isGameReady_16 k10_206 q_X4_gather (by decide) (xsh hX sh_74) (by decide) (Nat.le_of_ble_eq_true rfl) g1 (wp_aload_n dX11_isGameReady_19 rfl rfl (g10_82 dX11_isGameReady_20 (xsh X1 sh_0) (xrr X1 r0_14) (wp_iv1 dX11_isGameReady_23 k10_301 q_X4_isTooGreat (by decide) (xsh X1 sh_74) (by decide) (Nat.le_of_ble_eq_true rfl) gt ?_)))))))))))
    refine wb_if_ne dX11_isGameReady_26 rfl (fun c26 => ?_) (fun c26 => absurd c26 (by decide))
    exact wp_iconst (v := nI 0) dX11_isGameReady_36 rfl (wb_ret dX11_isGameReady_37 rfl rfl ⟨rfl, rfl⟩)
  · rw [show decide (8 < xgH (xzg (v, tv, l, l2, σ))) = false from decide_eq_false (Nat.not_lt.mpr w)] at gt
    cases hal : xzal (v, tv, l, l2, σ) with
    | false =>
      rw [show v.2.all (fun s => (σ s).isSome) = false from hal] at ga
      refine ⟨false, S1, ?_, f1, ⟨fun q => (by cases q), fun q => (by cases q.1)⟩, fun q => (by cases q)⟩
      refine xcall_intro (ls := [.ref 0]) q_X11_isGameReady (by decide) rfl (Nat.le_of_ble_eq_true rfl) rfl ?_
      refine wp_aload_n dX11_isGameReady_0 rfl rfl (g10_82 dX11_isGameReady_1 (xsh hX sh_0) (xrr hX r0_14) (wp_aload_n dX11_isGameReady_4 rfl rfl (g10_36 dX11_isGameReady_5 (xsh hX sh_0) h6 (wp_aload_n dX11_isGameReady_8 rfl rfl (g10_57 dX11_isGameReady_9 (xsh hX sh_0) h7 (wp_aload_n dX11_isGameReady_12 rfl rfl (g10_61 dX11_isGameReady_13 (xsh hX sh_0) h8 (wp_iv4 dX11_isGameReady_16 k10_206 q_X4_gather (by decide) (xsh hX sh_74) (by decide) (Nat.le_of_ble_eq_true rfl) g1 (wp_aload_n dX11_isGameReady_19 rfl rfl (g10_82 dX11_isGameReady_20 (xsh X1 sh_0) (xrr X1 r0_14) (wp_iv1 dX11_isGameReady_23 k10_301 q_X4_isTooGreat (by decide) (xsh X1 sh_74) (by decide) (Nat.le_of_ble_eq_true rfl) gt ?_)))))))))))
      refine wb_if_ne dX11_isGameReady_26 rfl (fun c26 => absurd c26 (by decide)) (fun c26 => ?_)
      refine wp_aload_n dX11_isGameReady_29 rfl rfl (wp_iv1 dX11_isGameReady_30 k10_202 q_X11_areRhymesThere (by decide) (xsh X1 sh_0) (by decide) (Nat.le_of_ble_eq_true rfl) ga ?_)
      refine wb_if_ne dX11_isGameReady_33 rfl (fun c33 => absurd c33 (by decide)) (fun c33 => ?_)
      exact wp_iconst (v := nI 0) dX11_isGameReady_36 rfl (wb_ret dX11_isGameReady_37 rfl rfl ⟨rfl, rfl⟩)
    | true =>
      rw [show v.2.all (fun s => (σ s).isSome) = true from hal] at ga
      obtain ⟨S2, g2, f2, D2⟩ := k2 hal
      refine ⟨true, S2, ?_, f2, ⟨fun _ => ⟨rfl, w⟩, fun _ => rfl⟩, fun _ => D2⟩
      refine xcall_intro (ls := [.ref 0]) q_X11_isGameReady (by decide) rfl (Nat.le_of_ble_eq_true rfl) rfl ?_
      refine wp_aload_n dX11_isGameReady_0 rfl rfl (g10_82 dX11_isGameReady_1 (xsh hX sh_0) (xrr hX r0_14) (wp_aload_n dX11_isGameReady_4 rfl rfl (g10_36 dX11_isGameReady_5 (xsh hX sh_0) h6 (wp_aload_n dX11_isGameReady_8 rfl rfl (g10_57 dX11_isGameReady_9 (xsh hX sh_0) h7 (wp_aload_n dX11_isGameReady_12 rfl rfl (g10_61 dX11_isGameReady_13 (xsh hX sh_0) h8 (wp_iv4 dX11_isGameReady_16 k10_206 q_X4_gather (by decide) (xsh hX sh_74) (by decide) (Nat.le_of_ble_eq_true rfl) g1 (wp_aload_n dX11_isGameReady_19 rfl rfl (g10_82 dX11_isGameReady_20 (xsh X1 sh_0) (xrr X1 r0_14) (wp_iv1 dX11_isGameReady_23 k10_301 q_X4_isTooGreat (by decide) (xsh X1 sh_74) (by decide) (Nat.le_of_ble_eq_true rfl) gt ?_)))))))))))
      refine wb_if_ne dX11_isGameReady_26 rfl (fun c26 => absurd c26 (by decide)) (fun c26 => ?_)
      refine wp_aload_n dX11_isGameReady_29 rfl rfl (wp_iv1 dX11_isGameReady_30 k10_202 q_X11_areRhymesThere (by decide) (xsh X1 sh_0) (by decide) (Nat.le_of_ble_eq_true rfl) ga ?_)
      refine wb_if_ne dX11_isGameReady_33 rfl (fun c33 => ?_) (fun c33 => absurd c33 (by decide))
      exact wp_aload_n dX11_isGameReady_38 rfl rfl (wp_iv1 dX11_isGameReady_39 k10_210 q_X11_learnRhymes (by decide) (xsh X1 sh_0) (by decide) (Nat.le_of_ble_eq_true rfl) g2 (wp_iconst (v := nI 1) dX11_isGameReady_42 rfl (wb_ret dX11_isGameReady_43 rfl rfl ⟨rfl, rfl⟩)))
theorem c_areFolk {c : xPx} {see : Int32} (d : Nat) (ho : xzo c) {S : xS} (h : xCS S c) : ∃ b, xcall false d j_X11_areFolk [.ref 0, .int see] S (some (.int (xB b))) S ∧ (b = true ↔ ∃ n, n < 2 ^ c.2.2.1.length ∧ see = nI n) := by
  obtain ⟨y, yb, yc, a, b, c', e, a2, b2, c2, e2, ρ, h1, h2, h3, h4, hX, h6, h7, h8, h9, h10, h11, h12, h13, h14⟩ := h
  have hP : c.2.2.1.length ≤ 12 := ho.2.1.2.1
  have ppos := Nat.two_pow_pos c.2.2.1.length
  have ha := (h2.sh hX).1
  have ka := h12.1
  rcases Decidable.em (see &&& (nI (2 ^ c.2.2.1.length - 1) ^^^ (-1)) = 0) with w | w
  · refine ⟨true, ?_, ⟨fun _ => (xfolk hP).mp w, fun _ => rfl⟩⟩
    refine xcall_intro (ls := [.ref 0, .int see]) q_X11_areFolk (by decide) rfl (Nat.le_of_ble_eq_true rfl) rfl ?_
    refine wp_iload_n dX11_areFolk_0 rfl (wp_iconst (v := nI 1) dX11_areFolk_1 rfl (wp_aload_n dX11_areFolk_2 rfl rfl (g10_57 dX11_areFolk_3 (xsh hX sh_0) h7 (gv10_152 dX11_areFolk_6 ha ka (wv_ishl dX11_areFolk_9 (xshl1 (by omega)) (wp_iconst (v := nI 1) dX11_areFolk_10 rfl (wv_isub dX11_areFolk_11 (pk_sub (by omega)) (wp_iconst (v := -1) dX11_areFolk_12 rfl (wp_ixor dX11_areFolk_13 (wp_iand dX11_areFolk_14 ?_))))))))))
    refine wp_if_ne dX11_areFolk_15 rfl (fun c15 => absurd c15 (not_not_intro w)) (fun c15 => ?_)
    exact wp_iconst (v := nI 1) dX11_areFolk_18 rfl (wp_goto dX11_areFolk_19 rfl (wb_ret dX11_areFolk_23 rfl rfl ⟨rfl, rfl⟩))
  · refine ⟨false, ?_, ⟨fun q => (by cases q), fun q => absurd ((xfolk hP).mpr q) w⟩⟩
    refine xcall_intro (ls := [.ref 0, .int see]) q_X11_areFolk (by decide) rfl (Nat.le_of_ble_eq_true rfl) rfl ?_
    refine wp_iload_n dX11_areFolk_0 rfl (wp_iconst (v := nI 1) dX11_areFolk_1 rfl (wp_aload_n dX11_areFolk_2 rfl rfl (g10_57 dX11_areFolk_3 (xsh hX sh_0) h7 (gv10_152 dX11_areFolk_6 ha ka (wv_ishl dX11_areFolk_9 (xshl1 (by omega)) (wp_iconst (v := nI 1) dX11_areFolk_10 rfl (wv_isub dX11_areFolk_11 (pk_sub (by omega)) (wp_iconst (v := -1) dX11_areFolk_12 rfl (wp_ixor dX11_areFolk_13 (wp_iand dX11_areFolk_14 ?_))))))))))
    refine wp_if_ne dX11_areFolk_15 rfl (fun c15 => ?_) (fun c15 => absurd c15 w)
    exact wp_iconst (v := nI 0) dX11_areFolk_22 rfl (wb_ret dX11_areFolk_23 rfl rfl ⟨rfl, rfl⟩)
theorem c_isPerson {c : xPx} {p : Int32} (d : Nat) (ho : xzo c) {S : xS} (h : xCS S c) : ∃ b, xcall false d j_X11_isPerson [.ref 0, .int p] S (some (.int (xB b))) S ∧ (b = true ↔ ∃ n, n < c.2.2.1.length ∧ p = nI n) := by
  obtain ⟨y, yb, yc, a, b, c', e, a2, b2, c2, e2, ρ, h1, h2, h3, h4, hX, h6, h7, h8, h9, h10, h11, h12, h13, h14⟩ := h
  have hP : c.2.2.1.length ≤ 12 := ho.2.1.2.1
  have ppos := Nat.two_pow_pos c.2.2.1.length
  have ha := (h2.sh hX).1
  have ka := h12.1
  rcases Decidable.em (p < 0) with w | w
  · refine ⟨false, ?_, ⟨fun q => (by cases q), fun ⟨n, hn, en⟩ => absurd w (by rw [en]; exact nI_pos (by omega))⟩⟩
    refine xcall_intro (ls := [.ref 0, .int p]) q_X11_isPerson (by decide) rfl (Nat.le_of_ble_eq_true rfl) rfl ?_
    refine wp_iload_n dX11_isPerson_0 rfl ?_
    refine wp_if_lt dX11_isPerson_1 rfl (fun c1 => ?_) (fun c1 => absurd c1 (not_not_intro w))
    exact wp_iconst (v := nI 0) dX11_isPerson_19 rfl (wb_ret dX11_isPerson_20 rfl rfl ⟨rfl, rfl⟩)
  · obtain ⟨n, hn, rfl⟩ := nI_of w
    rcases Nat.lt_or_ge n c.2.2.1.length with w2 | w2
    · refine ⟨true, ?_, ⟨fun _ => ⟨n, w2, rfl⟩, fun _ => rfl⟩⟩
      refine xcall_intro (ls := [.ref 0, .int (nI n)]) q_X11_isPerson (by decide) rfl (Nat.le_of_ble_eq_true rfl) rfl ?_
      refine wp_iload_n dX11_isPerson_0 rfl ?_
      refine wn_if_lt dX11_isPerson_1 rfl (by omega) ?_
      refine wp_iload_n dX11_isPerson_4 rfl (wp_aload_n dX11_isPerson_5 rfl rfl (g10_57 dX11_isPerson_6 (xsh hX sh_0) h7 (gv10_152 dX11_isPerson_9 ha ka ?_)))
      refine wn_icmp_ge dX11_isPerson_12 rfl (by omega) (by omega) (fun c12 => absurd c12 (by omega)) (fun c12 => ?_)
      exact wp_iconst (v := nI 1) dX11_isPerson_15 rfl (wp_goto dX11_isPerson_16 rfl (wb_ret dX11_isPerson_20 rfl rfl ⟨rfl, rfl⟩))
    · refine ⟨false, ?_, ⟨fun q => (by cases q), fun ⟨n', hn', en⟩ => absurd ((nI_eq hn (by omega)).mp en) (by omega)⟩⟩
      refine xcall_intro (ls := [.ref 0, .int (nI n)]) q_X11_isPerson (by decide) rfl (Nat.le_of_ble_eq_true rfl) rfl ?_
      refine wp_iload_n dX11_isPerson_0 rfl ?_
      refine wn_if_lt dX11_isPerson_1 rfl (by omega) ?_
      refine wp_iload_n dX11_isPerson_4 rfl (wp_aload_n dX11_isPerson_5 rfl rfl (g10_57 dX11_isPerson_6 (xsh hX sh_0) h7 (gv10_152 dX11_isPerson_9 ha ka ?_)))
      refine wn_icmp_ge dX11_isPerson_12 rfl (by omega) (by omega) (fun c12 => ?_) (fun c12 => absurd c12 (by omega))
      exact wp_iconst (v := nI 0) dX11_isPerson_19 rfl (wb_ret dX11_isPerson_20 rfl rfl ⟨rfl, rfl⟩)
theorem c_setOut {c : xPx} {w : Option Nat} {see n : Nat} (d : Nat) {S : xS} (hX : XC S) (kn : S.2.1 73 3 = nI n) : xcall false d j_X2_setOut [.ref 73, .int (nI see), .int (xjv w), .int (xB (xaim c))] S none (xSI (xSI (xSI (xSI S 73 6 (nI see)) 73 7 (xjv w)) 73 5 (xB (xaim c))) 73 3 (nI (n + 1))) := by
  refine xcall_intro (ls := [.ref 73, .int (nI see), .int (xjv w), .int (xB (xaim c))]) q_X2_setOut (by decide) rfl (Nat.le_of_ble_eq_true rfl) rfl ?_
  exact wp_aload_n dX2_setOut_0 rfl rfl (wp_iload_n dX2_setOut_1 rfl (p2_82 dX2_setOut_2 (xsh hX sh_73) (wp_aload_n dX2_setOut_5 rfl rfl (wp_iload_n dX2_setOut_6 rfl (p2_85 dX2_setOut_7 (xsh hX sh_73) (wp_aload_n dX2_setOut_10 rfl rfl (wp_iload_n dX2_setOut_11 rfl (p2_88 dX2_setOut_12 (xsh hX sh_73) (xB_01 _) (wp_aload_n dX2_setOut_15 rfl rfl (wp_dup dX2_setOut_16 rfl (gv2_91 dX2_setOut_17 (xsh hX sh_73) (xi (xi (xi kn (Or.inr (by decide))) (Or.inr (by decide))) (Or.inr (by decide))) (wp_iconst (v := nI 1) dX2_setOut_20 rfl (wv_iadd dX2_setOut_21 (nI_add _ _) (p2_91 dX2_setOut_22 (xsh hX sh_73) (wp_return dX2_setOut_25 rfl ⟨rfl, rfl⟩)))))))))))))))
theorem xPr_0 {c : xPx} {w : Option Nat} {see n : Nat} (ho : xzo c) (h8 : xgH (xzg c) ≤ 8) {S : xS} (hX : XC S) (hD : xRD S c 0) (hN : xNw S n) (hn : n < 2 ^ 29) : xFl (fun i q => i = 73 ∧ (q = 3 ∨ q = 5 ∨ q = 6 ∨ q = 7)) S (xSI (xSI (xSI (xSI S 73 6 (nI see)) 73 7 (xjv w)) 73 5 (xB (xaim c))) 73 3 (nI (n + 1))) ∧ xPr (xSI (xSI (xSI (xSI S 73 6 (nI see)) 73 7 (xjv w)) 73 5 (xB (xaim c))) 73 3 (nI (n + 1))) c w see (n + 1) := by
  have F : xFl (fun i q => i = 73 ∧ (q = 3 ∨ q = 5 ∨ q = 6 ∨ q = 7)) S (xSI (xSI (xSI (xSI S 73 6 (nI see)) 73 7 (xjv w)) 73 5 (xB (xaim c))) 73 3 (nI (n + 1))) := ((((xFl.rf S).SI ⟨rfl, by decide⟩).SI ⟨rfl, by decide⟩).SI ⟨rfl, by decide⟩).SI ⟨rfl, by decide⟩
  refine ⟨F, F.XC hX, hD.fr F (fun i q h => by omega) ho, ⟨xI_same _ _ _ _, xi (xI_same _ _ _ _) (Or.inr (by decide)), xi (xi (xi (xI_same _ _ _ _) (Or.inr (by decide))) (Or.inr (by decide))) (Or.inr (by decide)), xi (xi (xI_same _ _ _ _) (Or.inr (by decide))) (Or.inr (by decide))⟩, fun x hx => ?_, fun m s k hg e => ?_⟩
  · obtain ⟨v, h1, h2⟩ := hN.2 x hx
    exact ⟨v, by omega, F.i h2 (by omega)⟩
  · have e2 : S.2.1 131 (m * 8 + s) = nI (n + 1) := (F.2.2 131 _ (by omega)).symm.trans e
    obtain ⟨v, h1, h2⟩ := hN.2 _ (hg.key h8).2.2
    rw [h2] at e2
    have := (nI_eq (by omega) (by omega)).mp e2
    omega
theorem c_whole {c : xPx} {w : Option Nat} {see n : Nat} (d : Nat) (ho : xzo c) (ha : xzal c = true) (h8 : xgH (xzg c) ≤ 8) (hw : ∀ p, w = some p → p < 12) (hsee : see < 2 ^ 12) {S : xS} (hX : XC S) (hD : xRD S c 0) (hN : xNw S n) (hn : n < 2 ^ 29) : ∃ S', xcall false (d + 21) j_X2_worthOf [.ref 73, .int (nI (2 ^ xgH (xzg c) - 1)), .int (nI 0), .int (nI 0)] (xSI (xSI (xSI (xSI S 73 6 (nI see)) 73 7 (xjv w)) 73 5 (xB (xaim c))) 73 3 (nI (n + 1))) (some (.int (nI (xWo9 c w see (2 ^ xgH (xzg c) - 1) 0 0)))) S' ∧ xFl (fun i q => (i = 73 ∧ (q = 3 ∨ q = 5 ∨ q = 6 ∨ q = 7)) ∨ (i = 74 ∧ q = 7) ∨ i = 79 ∨ i = 80 ∨ (82 ≤ i ∧ i ≤ 105) ∨ i = 130 ∨ i = 131) S S' ∧ xNw S' (n + 1) := by
  obtain ⟨F, P⟩ := xPr_0 (w := w) (see := see) ho h8 hX hD hN hn
  have g0 := xgd_0 ho
  obtain ⟨S', g1, f1, m1⟩ := c_worthOf (w := w) (see := see) (nw := n + 1) ho h8 hw ha hsee (by omega) (xgH (xzg c)) (d + 2 * (8 - xgH (xzg c))) (2 ^ xgH (xzg c) - 1) 0 0 (xSI (xSI (xSI (xSI S 73 6 (nI see)) 73 7 (xjv w)) 73 5 (xB (xaim c))) 73 3 (nI (n + 1))) (Nat.zero_add _) g0.1 g0.2.2.1 g0.2.2.2 (fun _ => g0.2.1) P
  rw [show d + 2 * (8 - xgH (xzg c)) + 2 * xgH (xzg c) + 5 = d + 21 by omega] at g1
  exact ⟨S', g1, (F.mono (fun i q h => by omega)).tt (f1.mono (fun i q h => by unfold xFW at h; omega)), f1.i P.2.2.1.1 (by unfold xFW; omega), m1.1⟩
theorem c_leftBy {c : xPx} {see n : Nat} (d : Nat) (ho : xzo c) (ha : xzal c = true) (h8 : xgH (xzg c) ≤ 8) (hsee : see < 2 ^ 12) {S : xS} (hX : XC S) (hD : xRD S c 0) (hN : xNw S n) (hn : n < 2 ^ 29) : ∃ S', xcall false (d + 22) j_X2_leftBy [.ref 73, .int (nI see), .int (xB (xaim c))] S (some (.int (nI (xWo9 c none see (2 ^ xgH (xzg c) - 1) 0 0)))) S' ∧ xFl (fun i q => (i = 73 ∧ (q = 3 ∨ q = 5 ∨ q = 6 ∨ q = 7)) ∨ (i = 74 ∧ q = 7) ∨ i = 79 ∨ i = 80 ∨ (82 ≤ i ∧ i ≤ 105) ∨ i = 130 ∨ i = 131) S S' ∧ xNw S' (n + 1) := by
  have gs := c_setOut (c := c) (w := none) (see := see) (d + 21) hX hN.1
  obtain ⟨S', g1, f1, m1⟩ := c_whole (w := none) (see := see) d ho ha h8 (fun p q => by cases q) hsee hX hD hN hn
  obtain ⟨F, P⟩ := xPr_0 (w := none) (see := see) ho h8 hX hD hN hn
  have X1 := F.XC hX
  have gh := c_allHands (d + 21) ho.g X1 P.2.1.1
  refine ⟨S', ?_, f1, m1⟩
  refine xcall_intro (ls := [.ref 73, .int (nI see), .int (xB (xaim c))]) q_X2_leftBy (by decide) rfl (Nat.le_of_ble_eq_true rfl) rfl ?_
  exact wp_aload_n dX2_leftBy_0 rfl rfl (wp_iload_n dX2_leftBy_1 rfl (wp_iconst (v := -1) dX2_leftBy_2 rfl (wp_iload_n dX2_leftBy_3 rfl (wp_iv4 dX2_leftBy_4 k2_38 q_X2_setOut (by decide) (xsh hX sh_73) (by decide) (Nat.le_of_ble_eq_true rfl) gs (wp_aload_n dX2_leftBy_7 rfl rfl (wp_aload_n dX2_leftBy_8 rfl rfl (g2_14 dX2_leftBy_9 (xsh X1 sh_73) (xrr X1 r73_0) (wp_iv1 dX2_leftBy_12 k2_42 q_X4_allHands (by decide) (xsh X1 sh_74) (by decide) (Nat.le_of_ble_eq_true rfl) gh (wp_iconst (v := nI 0) dX2_leftBy_15 rfl (wp_iconst (v := nI 0) dX2_leftBy_16 rfl (wp_iv4 dX2_leftBy_17 k2_46 q_X2_worthOf (by decide) (xsh X1 sh_73) (by decide) (Nat.le_of_ble_eq_true rfl) g1 (wp_ireturn dX2_leftBy_20 rfl rfl ⟨rfl, rfl⟩))))))))))))
theorem c_isSure {c : xPx} {p n : Nat} (d : Nat) (ho : xzo c) (ha : xzal c = true) (h8 : xgH (xzg c) ≤ 8) (hp : p < 12) {S : xS} (hX : XC S) (hD : xRD S c 0) (hN : xNw S n) (hn : n < 2 ^ 29) : ∃ S', xcall false (d + 22) j_X2_isSure [.ref 73, .int (nI p), .int (xB (xaim c))] S (some (.int (xB (decide (xWo9 c (some p) 0 (2 ^ xgH (xzg c) - 1) 0 0 = 1))))) S' ∧ xFl (fun i q => (i = 73 ∧ (q = 3 ∨ q = 5 ∨ q = 6 ∨ q = 7)) ∨ (i = 74 ∧ q = 7) ∨ i = 79 ∨ i = 80 ∨ (82 ≤ i ∧ i ≤ 105) ∨ i = 130 ∨ i = 131) S S' ∧ xNw S' (n + 1) := by
  have gs := c_setOut (c := c) (w := some p) (see := 0) (d + 21) hX hN.1
  obtain ⟨S', g1, f1, m1⟩ := c_whole (w := some p) (see := 0) d ho ha h8 (fun q e => by cases e; exact hp) (by decide) hX hD hN hn
  obtain ⟨F, P⟩ := xPr_0 (w := some p) (see := 0) ho h8 hX hD hN hn
  have X1 := F.XC hX
  have gh := c_allHands (d + 21) ho.g X1 P.2.1.1
  have le : xWo9 c (some p) 0 (2 ^ xgH (xzg c) - 1) 0 0 ≤ 1 := by
    unfold xWo9
    split
    · exact xEE_1 (k := 0)
    · exact xVu_le _ _ _ _
  refine ⟨S', ?_, f1, m1⟩
  rcases Decidable.em (xWo9 c (some p) 0 (2 ^ xgH (xzg c) - 1) 0 0 = 1) with w | w
  · rw [decide_eq_true w]
    refine xcall_intro (ls := [.ref 73, .int (nI p), .int (xB (xaim c))]) q_X2_isSure (by decide) rfl (Nat.le_of_ble_eq_true rfl) rfl ?_
    refine wp_aload_n dX2_isSure_0 rfl rfl (wp_iconst (v := nI 0) dX2_isSure_1 rfl (wp_iload_n dX2_isSure_2 rfl (wp_iload_n dX2_isSure_3 rfl (wp_iv4 dX2_isSure_4 k2_38 q_X2_setOut (by decide) (xsh hX sh_73) (by decide) (Nat.le_of_ble_eq_true rfl) gs (wp_aload_n dX2_isSure_7 rfl rfl (wp_aload_n dX2_isSure_8 rfl rfl (g2_14 dX2_isSure_9 (xsh X1 sh_73) (xrr X1 r73_0) (wp_iv1 dX2_isSure_12 k2_42 q_X4_allHands (by decide) (xsh X1 sh_74) (by decide) (Nat.le_of_ble_eq_true rfl) gh (wp_iconst (v := nI 0) dX2_isSure_15 rfl (wp_iconst (v := nI 0) dX2_isSure_16 rfl (wp_iv4 dX2_isSure_17 k2_46 q_X2_worthOf (by decide) (xsh X1 sh_73) (by decide) (Nat.le_of_ble_eq_true rfl) g1 (wp_iconst (v := nI 1) dX2_isSure_20 rfl ?_))))))))))))
    refine wn_icmp_ne dX2_isSure_21 rfl (by omega) (by omega) (fun c21 => absurd c21 (by omega)) (fun c21 => ?_)
    exact wp_iconst (v := nI 1) dX2_isSure_24 rfl (wp_goto dX2_isSure_25 rfl (wb_ret dX2_isSure_29 rfl rfl ⟨rfl, rfl⟩))
  · rw [decide_eq_false w]
    refine xcall_intro (ls := [.ref 73, .int (nI p), .int (xB (xaim c))]) q_X2_isSure (by decide) rfl (Nat.le_of_ble_eq_true rfl) rfl ?_
    refine wp_aload_n dX2_isSure_0 rfl rfl (wp_iconst (v := nI 0) dX2_isSure_1 rfl (wp_iload_n dX2_isSure_2 rfl (wp_iload_n dX2_isSure_3 rfl (wp_iv4 dX2_isSure_4 k2_38 q_X2_setOut (by decide) (xsh hX sh_73) (by decide) (Nat.le_of_ble_eq_true rfl) gs (wp_aload_n dX2_isSure_7 rfl rfl (wp_aload_n dX2_isSure_8 rfl rfl (g2_14 dX2_isSure_9 (xsh X1 sh_73) (xrr X1 r73_0) (wp_iv1 dX2_isSure_12 k2_42 q_X4_allHands (by decide) (xsh X1 sh_74) (by decide) (Nat.le_of_ble_eq_true rfl) gh (wp_iconst (v := nI 0) dX2_isSure_15 rfl (wp_iconst (v := nI 0) dX2_isSure_16 rfl (wp_iv4 dX2_isSure_17 k2_46 q_X2_worthOf (by decide) (xsh X1 sh_73) (by decide) (Nat.le_of_ble_eq_true rfl) g1 (wp_iconst (v := nI 1) dX2_isSure_20 rfl ?_))))))))))))
    refine wn_icmp_ne dX2_isSure_21 rfl (by omega) (by omega) (fun c21 => ?_) (fun c21 => absurd c21 (by omega))
    exact wp_iconst (v := nI 0) dX2_isSure_28 rfl (wb_ret dX2_isSure_29 rfl rfl ⟨rfl, rfl⟩)
