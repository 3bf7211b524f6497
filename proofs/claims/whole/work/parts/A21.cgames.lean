/-! a GAME of the class: game, says, sure, the calls -/
theorem xWo9_g {c : xPx} {n : Nat} : xWo9 c none n (2 ^ xgH (xzg c) - 1) 0 0 = (if xovr (xzg c) (2 ^ xgH (xzg c) - 1) = true then 2 ^ xgP (xzg c) - 1 else xVg c 0 n (2 ^ xgH (xzg c) - 1) 0 0) := by
  unfold xWo9
  rw [xpm_fl]
  rfl
theorem xWo9_u {c : xPx} {p : Nat} (ho : xzo c) (hp : p < xgP (xzg c)) : xWo9 c (some p) 0 (2 ^ xgH (xzg c) - 1) 0 0 = (if xovr (xzg c) (2 ^ xgH (xzg c) - 1) = true then 1 - c.1.1 7 else xVu c 0 p (2 ^ xgH (xzg c) - 1) 0 0) := by
  have b7 : c.1.1 7 ≤ 1 := ho.1.1 7 (by decide)
  unfold xWo9
  rw [xpm_fl]
  have e : xEE c (some p) 0 (2 ^ xgP (xzg c) - 1) = 1 - c.1.1 7 := by
    show (if xmt9 c p (2 ^ xgP (xzg c) - 1) = true then 1 else 0) = _
    unfold xmt9 xaim
    rw [Nat.testBit_two_pow_sub_one, decide_eq_true hp]
    rcases Decidable.em (c.1.1 7 = 0) with w | w
    · rw [decide_eq_true w, decide_eq_true rfl, if_pos rfl, w]
    · rw [decide_eq_false w, decide_eq_false (by decide), if_neg (by decide)]; omega
  rw [e]
  rfl
theorem c_game_no {c : xPx} {see : Int32} (d : Nat) (ho : xzo c) {S : xS} (h : xCS S c) (hno : ¬ (xzal c = true ∧ xgH (xzg c) ≤ 8 ∧ ∃ n, n < 2 ^ xgP (xzg c) ∧ see = nI n)) : ∃ S', xcall false (d + 23) j_X11_game [.ref 0, .int see] S (some (.int (-1))) S' ∧ xFl (fun i k => (i = 74 ∧ (k = 2 ∨ k = 5 ∨ 10 ≤ k)) ∨ i = 76 ∨ i = 77 ∨ i = 78 ∨ (106 ≤ i ∧ i ≤ 129)) S S' := by
  have hX := h.X
  obtain ⟨b, S1, g1, f1, hb, hD⟩ := c_isGameReady (d + 17) ho h
  have X1 := f1.XC hX
  refine ⟨S1, ?_, f1⟩
  cases b with
  | false =>
    refine xcall_intro (ls := [.ref 0, .int see]) q_X11_game (by decide) rfl (Nat.le_of_ble_eq_true rfl) rfl ?_
    refine wp_aload_n dX11_game_0 rfl rfl (wp_iv1 dX11_game_1 k10_236 q_X11_isGameReady (by decide) (xsh hX sh_0) (by decide) (Nat.le_of_ble_eq_true rfl) g1 ?_)
    refine wb_if_eq dX11_game_4 rfl (fun c4 => ?_) (fun c4 => absurd c4 (by decide))
    exact wp_iconst (v := -1) dX11_game_15 rfl (wp_ireturn dX11_game_16 rfl rfl ⟨rfl, rfl⟩)
  | true =>
    obtain ⟨b2, g2, hb2⟩ := c_areFolk (see := see) (d + 22) ho (h.fr f1 (fun i q w1 w2 => by omega))
    have hb0 : b2 = false := by
      cases b2 with
      | false => rfl
      | true => exact absurd ⟨(hb.mp rfl).1, (hb.mp rfl).2, hb2.mp rfl⟩ hno
    subst hb0
    refine xcall_intro (ls := [.ref 0, .int see]) q_X11_game (by decide) rfl (Nat.le_of_ble_eq_true rfl) rfl ?_
    refine wp_aload_n dX11_game_0 rfl rfl (wp_iv1 dX11_game_1 k10_236 q_X11_isGameReady (by decide) (xsh hX sh_0) (by decide) (Nat.le_of_ble_eq_true rfl) g1 ?_)
    refine wb_if_eq dX11_game_4 rfl (fun c4 => absurd c4 (by decide)) (fun c4 => ?_)
    refine wp_aload_n dX11_game_7 rfl rfl (wp_iload_n dX11_game_8 rfl (wp_iv2 dX11_game_9 k10_239 q_X11_areFolk (by decide) (xsh X1 sh_0) (by decide) (Nat.le_of_ble_eq_true rfl) g2 ?_))
    refine wb_if_ne dX11_game_12 rfl (fun c12 => absurd c12 (by decide)) (fun c12 => ?_)
    exact wp_iconst (v := -1) dX11_game_15 rfl (wp_ireturn dX11_game_16 rfl rfl ⟨rfl, rfl⟩)
theorem c_game {c : xPx} {see : Int32} {n N : Nat} (d : Nat) (ho : xzo c) {S : xS} (h : xCS S c) (ha : xzal c = true) (h8 : xgH (xzg c) ≤ 8) (hn : n < 2 ^ xgP (xzg c)) (hsn : see = nI n) (hN : xNw S N) (hNb : N < 2 ^ 29) : ∃ S', xcall false (d + 23) j_X11_game [.ref 0, .int see] S (some (.int (nI (if xovr (xzg c) (2 ^ xgH (xzg c) - 1) = true then 2 ^ xgP (xzg c) - 1 else xVg c 0 n (2 ^ xgH (xzg c) - 1) 0 0)))) S' ∧ xFl (fun i q => (i = 73 ∧ (q = 3 ∨ q = 5 ∨ q = 6 ∨ q = 7)) ∨ i = 74 ∨ (76 ≤ i ∧ i ≤ 131)) S S' ∧ xNw S' (N + 1) := by
  have hX := h.X
  have hP : xgP (xzg c) ≤ 12 := ho.g.2.1
  have p12 : 2 ^ xgP (xzg c) ≤ 2 ^ 12 := Nat.pow_le_pow_right (by decide) hP
  subst hsn
  obtain ⟨b, S1, g1, f1, hb, hD⟩ := c_isGameReady (d + 17) ho h
  have X1 := f1.XC hX
  have hb0 : b = true := hb.mpr ⟨ha, h8⟩
  subst hb0
  have h1 := h.fr f1 (fun i q w1 w2 => by omega)
  obtain ⟨b2, g2, hb2⟩ := c_areFolk (see := nI n) (d + 22) ho h1
  have hb2' : b2 = true := hb2.mpr ⟨n, hn, rfl⟩
  subst hb2'
  obtain ⟨S2, g3, f3, n3⟩ := c_leftBy (see := n) d ho ha h8 (by omega) X1 (hD rfl) (hN.fr f1 ⟨by omega, fun x => by omega⟩) hNb
  obtain ⟨y, yb, yc, a, b, c', e, a2, b2, c2, e2, ρ, q1, q2, q3, q4, q5, q6, q7, q8, q9, q10, q11, q12, q13, q14⟩ := h1
  have gw := c_wantsLeft (d + 22) q1 X1 q11
  have hy := (q1.sh X1).1
  rw [xWo9_g] at g3
  refine ⟨S2, ?_, (f1.mono (fun i q w => by omega)).tt (f3.mono (fun i q w => by omega)), n3⟩
  refine xcall_intro (ls := [.ref 0, .int (nI n)]) q_X11_game (by decide) rfl (Nat.le_of_ble_eq_true rfl) rfl ?_
  refine wp_aload_n dX11_game_0 rfl rfl (wp_iv1 dX11_game_1 k10_236 q_X11_isGameReady (by decide) (xsh hX sh_0) (by decide) (Nat.le_of_ble_eq_true rfl) g1 ?_)
  refine wb_if_eq dX11_game_4 rfl (fun c4 => absurd c4 (by decide)) (fun c4 => ?_)
  refine wp_aload_n dX11_game_7 rfl rfl (wp_iload_n dX11_game_8 rfl (wp_iv2 dX11_game_9 k10_239 q_X11_areFolk (by decide) (xsh X1 sh_0) (by decide) (Nat.le_of_ble_eq_true rfl) g2 ?_))
  refine wb_if_ne dX11_game_12 rfl (fun c12 => ?_) (fun c12 => absurd c12 (by decide))
  exact wp_aload_n dX11_game_17 rfl rfl (g10_74 dX11_game_18 (xsh X1 sh_0) (xrr X1 r0_15) (wp_iload_n dX11_game_21 rfl (wp_aload_n dX11_game_22 rfl rfl (g10_36 dX11_game_23 (xsh X1 sh_0) q6 (wp_iv1 dX11_game_26 k10_242 q_X10_wantsLeft (by decide) hy (by decide) (Nat.le_of_ble_eq_true rfl) gw (wp_iv3 dX11_game_29 k10_245 q_X2_leftBy (by decide) (xsh X1 sh_73) (by decide) (Nat.le_of_ble_eq_true rfl) g3 (wp_ireturn dX11_game_32 rfl rfl ⟨rfl, rfl⟩)))))))
theorem c_says_no {c : xPx} {see : Int32} (d : Nat) (ho : xzo c) {S : xS} (h : xCS S c) (hno : ¬ (xzal c = true ∧ xgH (xzg c) ≤ 8 ∧ ∃ n, n < 2 ^ xgP (xzg c) ∧ see = nI n)) : ∃ S', xcall false (d + 23) j_X11_says [.ref 0, .int see] S (some (.int (-1))) S' ∧ xFl (fun i k => (i = 74 ∧ (k = 2 ∨ k = 5 ∨ 10 ≤ k)) ∨ i = 76 ∨ i = 77 ∨ i = 78 ∨ (106 ≤ i ∧ i ≤ 129)) S S' := by
  have hX := h.X
  obtain ⟨b, S1, g1, f1, hb, hD⟩ := c_isGameReady (d + 17) ho h
  have X1 := f1.XC hX
  refine ⟨S1, ?_, f1⟩
  cases b with
  | false =>
    refine xcall_intro (ls := [.ref 0, .int see]) q_X11_says (by decide) rfl (Nat.le_of_ble_eq_true rfl) rfl ?_
    refine wp_aload_n dX11_says_0 rfl rfl (wp_iv1 dX11_says_1 k10_236 q_X11_isGameReady (by decide) (xsh hX sh_0) (by decide) (Nat.le_of_ble_eq_true rfl) g1 ?_)
    refine wb_if_eq dX11_says_4 rfl (fun c4 => ?_) (fun c4 => absurd c4 (by decide))
    exact wp_iconst (v := -1) dX11_says_15 rfl (wp_ireturn dX11_says_16 rfl rfl ⟨rfl, rfl⟩)
  | true =>
    obtain ⟨b2, g2, hb2⟩ := c_areFolk (see := see) (d + 22) ho (h.fr f1 (fun i q w1 w2 => by omega))
    have hb0 : b2 = false := by
      cases b2 with
      | false => rfl
      | true => exact absurd ⟨(hb.mp rfl).1, (hb.mp rfl).2, hb2.mp rfl⟩ hno
    subst hb0
    refine xcall_intro (ls := [.ref 0, .int see]) q_X11_says (by decide) rfl (Nat.le_of_ble_eq_true rfl) rfl ?_
    refine wp_aload_n dX11_says_0 rfl rfl (wp_iv1 dX11_says_1 k10_236 q_X11_isGameReady (by decide) (xsh hX sh_0) (by decide) (Nat.le_of_ble_eq_true rfl) g1 ?_)
    refine wb_if_eq dX11_says_4 rfl (fun c4 => absurd c4 (by decide)) (fun c4 => ?_)
    refine wp_aload_n dX11_says_7 rfl rfl (wp_iload_n dX11_says_8 rfl (wp_iv2 dX11_says_9 k10_239 q_X11_areFolk (by decide) (xsh X1 sh_0) (by decide) (Nat.le_of_ble_eq_true rfl) g2 ?_))
    refine wb_if_ne dX11_says_12 rfl (fun c12 => absurd c12 (by decide)) (fun c12 => ?_)
    exact wp_iconst (v := -1) dX11_says_15 rfl (wp_ireturn dX11_says_16 rfl rfl ⟨rfl, rfl⟩)
theorem c_says {c : xPx} {see : Int32} {n N : Nat} (d : Nat) (ho : xzo c) {S : xS} (h : xCS S c) (ha : xzal c = true) (h8 : xgH (xzg c) ≤ 8) (hn : n < 2 ^ xgP (xzg c)) (hsn : see = nI n) (hN : xNw S N) (hNb : N < 2 ^ 29) : ∃ S', xcall false (d + 23) j_X11_says [.ref 0, .int see] S (some (.int (if xovr (xzg c) (2 ^ xgH (xzg c) - 1) = true then -1 else xsy c n (xgH (xzg c)) (2 ^ xgH (xzg c) - 1) 0 0))) S' ∧ xFl (fun i q => (i = 73 ∧ (q = 3 ∨ q = 5 ∨ q = 6 ∨ q = 7)) ∨ i = 74 ∨ (76 ≤ i ∧ i ≤ 131)) S S' ∧ xNw S' (N + 1) := by
  have hX := h.X
  have hP : xgP (xzg c) ≤ 12 := ho.g.2.1
  have p12 : 2 ^ xgP (xzg c) ≤ 2 ^ 12 := Nat.pow_le_pow_right (by decide) hP
  subst hsn
  obtain ⟨b, S1, g1, f1, hb, hD⟩ := c_isGameReady (d + 17) ho h
  have X1 := f1.XC hX
  have hb0 : b = true := hb.mpr ⟨ha, h8⟩
  subst hb0
  have h1 := h.fr f1 (fun i q w1 w2 => by omega)
  obtain ⟨b2, g2, hb2⟩ := c_areFolk (see := nI n) (d + 22) ho h1
  have hb2' : b2 = true := hb2.mpr ⟨n, hn, rfl⟩
  subst hb2'
  obtain ⟨S2, g3, f3, n3⟩ := c_firstAnswer (see := n) d ho ha h8 (by omega) X1 (hD rfl) (hN.fr f1 ⟨by omega, fun x => by omega⟩) hNb
  obtain ⟨y, yb, yc, a, b, c', e, a2, b2, c2, e2, ρ, q1, q2, q3, q4, q5, q6, q7, q8, q9, q10, q11, q12, q13, q14⟩ := h1
  have gw := c_wantsLeft (d + 22) q1 X1 q11
  have hy := (q1.sh X1).1
  refine ⟨S2, ?_, (f1.mono (fun i q w => by omega)).tt (f3.mono (fun i q w => by omega)), n3⟩
  refine xcall_intro (ls := [.ref 0, .int (nI n)]) q_X11_says (by decide) rfl (Nat.le_of_ble_eq_true rfl) rfl ?_
  refine wp_aload_n dX11_says_0 rfl rfl (wp_iv1 dX11_says_1 k10_236 q_X11_isGameReady (by decide) (xsh hX sh_0) (by decide) (Nat.le_of_ble_eq_true rfl) g1 ?_)
  refine wb_if_eq dX11_says_4 rfl (fun c4 => absurd c4 (by decide)) (fun c4 => ?_)
  refine wp_aload_n dX11_says_7 rfl rfl (wp_iload_n dX11_says_8 rfl (wp_iv2 dX11_says_9 k10_239 q_X11_areFolk (by decide) (xsh X1 sh_0) (by decide) (Nat.le_of_ble_eq_true rfl) g2 ?_))
  refine wb_if_ne dX11_says_12 rfl (fun c12 => ?_) (fun c12 => absurd c12 (by decide))
  exact wp_aload_n dX11_says_17 rfl rfl (g10_74 dX11_says_18 (xsh X1 sh_0) (xrr X1 r0_15) (wp_iload_n dX11_says_21 rfl (wp_aload_n dX11_says_22 rfl rfl (g10_36 dX11_says_23 (xsh X1 sh_0) q6 (wp_iv1 dX11_says_26 k10_242 q_X10_wantsLeft (by decide) hy (by decide) (Nat.le_of_ble_eq_true rfl) gw (wp_iv3 dX11_says_29 k10_249 q_X2_firstAnswer (by decide) (xsh X1 sh_73) (by decide) (Nat.le_of_ble_eq_true rfl) g3 (wp_ireturn dX11_says_32 rfl rfl ⟨rfl, rfl⟩)))))))
theorem c_sure_no {c : xPx} {who : Int32} (d : Nat) (ho : xzo c) {S : xS} (h : xCS S c) (hno : ¬ (xzal c = true ∧ xgH (xzg c) ≤ 8 ∧ ∃ n, n < xgP (xzg c) ∧ who = nI n)) : ∃ S', xcall false (d + 23) j_X11_sure [.ref 0, .int who] S (some (.int (-1))) S' ∧ xFl (fun i k => (i = 74 ∧ (k = 2 ∨ k = 5 ∨ 10 ≤ k)) ∨ i = 76 ∨ i = 77 ∨ i = 78 ∨ (106 ≤ i ∧ i ≤ 129)) S S' := by
  have hX := h.X
  obtain ⟨b, S1, g1, f1, hb, hD⟩ := c_isGameReady (d + 17) ho h
  have X1 := f1.XC hX
  refine ⟨S1, ?_, f1⟩
  cases b with
  | false =>
    refine xcall_intro (ls := [.ref 0, .int who]) q_X11_sure (by decide) rfl (Nat.le_of_ble_eq_true rfl) rfl ?_
    refine wp_aload_n dX11_sure_0 rfl rfl (wp_iv1 dX11_sure_1 k10_236 q_X11_isGameReady (by decide) (xsh hX sh_0) (by decide) (Nat.le_of_ble_eq_true rfl) g1 ?_)
    refine wb_if_eq dX11_sure_4 rfl (fun c4 => ?_) (fun c4 => absurd c4 (by decide))
    exact wp_iconst (v := -1) dX11_sure_15 rfl (wp_ireturn dX11_sure_16 rfl rfl ⟨rfl, rfl⟩)
  | true =>
    obtain ⟨b2, g2, hb2⟩ := c_isPerson (p := who) (d + 22) ho (h.fr f1 (fun i q w1 w2 => by omega))
    have hb0 : b2 = false := by
      cases b2 with
      | false => rfl
      | true => exact absurd ⟨(hb.mp rfl).1, (hb.mp rfl).2, hb2.mp rfl⟩ hno
    subst hb0
    refine xcall_intro (ls := [.ref 0, .int who]) q_X11_sure (by decide) rfl (Nat.le_of_ble_eq_true rfl) rfl ?_
    refine wp_aload_n dX11_sure_0 rfl rfl (wp_iv1 dX11_sure_1 k10_236 q_X11_isGameReady (by decide) (xsh hX sh_0) (by decide) (Nat.le_of_ble_eq_true rfl) g1 ?_)
    refine wb_if_eq dX11_sure_4 rfl (fun c4 => absurd c4 (by decide)) (fun c4 => ?_)
    refine wp_aload_n dX11_sure_7 rfl rfl (wp_iload_n dX11_sure_8 rfl (wp_iv2 dX11_sure_9 k10_252 q_X11_isPerson (by decide) (xsh X1 sh_0) (by decide) (Nat.le_of_ble_eq_true rfl) g2 ?_))
    refine wb_if_ne dX11_sure_12 rfl (fun c12 => absurd c12 (by decide)) (fun c12 => ?_)
    exact wp_iconst (v := -1) dX11_sure_15 rfl (wp_ireturn dX11_sure_16 rfl rfl ⟨rfl, rfl⟩)
theorem c_sure {c : xPx} {n N : Nat} (d : Nat) (ho : xzo c) {S : xS} (h : xCS S c) (ha : xzal c = true) (h8 : xgH (xzg c) ≤ 8) (hn : n < xgP (xzg c)) (hN : xNw S N) (hNb : N < 2 ^ 29) : ∃ S', xcall false (d + 23) j_X11_sure [.ref 0, .int (nI n)] S (some (.int (nI (if xovr (xzg c) (2 ^ xgH (xzg c) - 1) = true then 1 - c.1.1 7 else xVu c 0 n (2 ^ xgH (xzg c) - 1) 0 0)))) S' ∧ xFl (fun i q => (i = 73 ∧ (q = 3 ∨ q = 5 ∨ q = 6 ∨ q = 7)) ∨ i = 74 ∨ (76 ≤ i ∧ i ≤ 131)) S S' ∧ xNw S' (N + 1) := by
  have hX := h.X
  have hP : xgP (xzg c) ≤ 12 := ho.g.2.1
  obtain ⟨b, S1, g1, f1, hb, hD⟩ := c_isGameReady (d + 17) ho h
  have X1 := f1.XC hX
  have hb0 : b = true := hb.mpr ⟨ha, h8⟩
  subst hb0
  have h1 := h.fr f1 (fun i q w1 w2 => by omega)
  obtain ⟨b2, g2, hb2⟩ := c_isPerson (p := nI n) (d + 22) ho h1
  have hb2' : b2 = true := hb2.mpr ⟨n, hn, rfl⟩
  subst hb2'
  obtain ⟨S2, g3, f3, n3⟩ := c_isSure (p := n) d ho ha h8 (by omega) X1 (hD rfl) (hN.fr f1 ⟨by omega, fun x => by omega⟩) hNb
  obtain ⟨y, yb, yc, a, b, c', e, a2, b2, c2, e2, ρ, q1, q2, q3, q4, q5, q6, q7, q8, q9, q10, q11, q12, q13, q14⟩ := h1
  have gw := c_wantsLeft (d + 22) q1 X1 q11
  have hy := (q1.sh X1).1
  have le : xWo9 c (some n) 0 (2 ^ xgH (xzg c) - 1) 0 0 ≤ 1 := by
    unfold xWo9
    split
    · exact xEE_1 (k := 0)
    · exact xVu_le _ _ _ _
  rw [← xWo9_u ho hn]
  refine ⟨S2, ?_, (f1.mono (fun i q w => by omega)).tt (f3.mono (fun i q w => by omega)), n3⟩
  rcases Decidable.em (xWo9 c (some n) 0 (2 ^ xgH (xzg c) - 1) 0 0 = 1) with w | w
  · rw [decide_eq_true w] at g3
    rw [w]
    refine xcall_intro (ls := [.ref 0, .int (nI n)]) q_X11_sure (by decide) rfl (Nat.le_of_ble_eq_true rfl) rfl ?_
    refine wp_aload_n dX11_sure_0 rfl rfl (wp_iv1 dX11_sure_1 k10_236 q_X11_isGameReady (by decide) (xsh hX sh_0) (by decide) (Nat.le_of_ble_eq_true rfl) g1 ?_)
    refine wb_if_eq dX11_sure_4 rfl (fun c4 => absurd c4 (by decide)) (fun c4 => ?_)
    refine wp_aload_n dX11_sure_7 rfl rfl (wp_iload_n dX11_sure_8 rfl (wp_iv2 dX11_sure_9 k10_252 q_X11_isPerson (by decide) (xsh X1 sh_0) (by decide) (Nat.le_of_ble_eq_true rfl) g2 ?_))
    refine wb_if_ne dX11_sure_12 rfl (fun c12 => ?_) (fun c12 => absurd c12 (by decide))
    refine wp_aload_n dX11_sure_17 rfl rfl (g10_74 dX11_sure_18 (xsh X1 sh_0) (xrr X1 r0_15) (wp_iload_n dX11_sure_21 rfl (wp_aload_n dX11_sure_22 rfl rfl (g10_36 dX11_sure_23 (xsh X1 sh_0) q6 (wp_iv1 dX11_sure_26 k10_242 q_X10_wantsLeft (by decide) hy (by decide) (Nat.le_of_ble_eq_true rfl) gw (wp_iv3 dX11_sure_29 k10_255 q_X2_isSure (by decide) (xsh X1 sh_73) (by decide) (Nat.le_of_ble_eq_true rfl) g3 ?_))))))
    refine wb_if_eq dX11_sure_32 rfl (fun c32 => absurd c32 (by decide)) (fun c32 => ?_)
    exact wp_iconst (v := nI 1) dX11_sure_35 rfl (wp_goto dX11_sure_36 rfl (wp_ireturn dX11_sure_40 rfl rfl ⟨rfl, rfl⟩))
  · rw [decide_eq_false w] at g3
    rw [show xWo9 c (some n) 0 (2 ^ xgH (xzg c) - 1) 0 0 = 0 by omega]
    refine xcall_intro (ls := [.ref 0, .int (nI n)]) q_X11_sure (by decide) rfl (Nat.le_of_ble_eq_true rfl) rfl ?_
    refine wp_aload_n dX11_sure_0 rfl rfl (wp_iv1 dX11_sure_1 k10_236 q_X11_isGameReady (by decide) (xsh hX sh_0) (by decide) (Nat.le_of_ble_eq_true rfl) g1 ?_)
    refine wb_if_eq dX11_sure_4 rfl (fun c4 => absurd c4 (by decide)) (fun c4 => ?_)
    refine wp_aload_n dX11_sure_7 rfl rfl (wp_iload_n dX11_sure_8 rfl (wp_iv2 dX11_sure_9 k10_252 q_X11_isPerson (by decide) (xsh X1 sh_0) (by decide) (Nat.le_of_ble_eq_true rfl) g2 ?_))
    refine wb_if_ne dX11_sure_12 rfl (fun c12 => ?_) (fun c12 => absurd c12 (by decide))
    refine wp_aload_n dX11_sure_17 rfl rfl (g10_74 dX11_sure_18 (xsh X1 sh_0) (xrr X1 r0_15) (wp_iload_n dX11_sure_21 rfl (wp_aload_n dX11_sure_22 rfl rfl (g10_36 dX11_sure_23 (xsh X1 sh_0) q6 (wp_iv1 dX11_sure_26 k10_242 q_X10_wantsLeft (by decide) hy (by decide) (Nat.le_of_ble_eq_true rfl) gw (wp_iv3 dX11_sure_29 k10_255 q_X2_isSure (by decide) (xsh X1 sh_73) (by decide) (Nat.le_of_ble_eq_true rfl) g3 ?_))))))
    refine wb_if_eq dX11_sure_32 rfl (fun c32 => ?_) (fun c32 => absurd c32 (by decide))
    exact wp_iconst (v := nI 0) dX11_sure_39 rfl (wp_ireturn dX11_sure_40 rfl rfl ⟨rfl, rfl⟩)
