/-! a GAME of the reference: mayPlay, game, says -/
/-- the reference's state, as far as plays and games read it -/
def xMS (S : xS) (c : xPx) : Prop := XC S ∧ xMl S c.2.2.2.2 ∧ xTgM S c.2.1 ∧ xYdM S c.1 ∧ xWMo S c.2.2.1 ∧ xWM 1844 197 S c.2.2.2.1 ∧ S.2.1 187 31 = nI c.2.2.2.1.length
theorem xMS.fr {S S' : xS} {c : xPx} {P : Nat → Nat → Prop} (h : xMS S c) (hf : xFl P S S') (hn : ∀ i q, ((i = 187 ∧ (q = 12 ∨ q = 13 ∨ q = 14 ∨ q = 15 ∨ q = 30 ∨ q = 31 ∨ q = 49)) ∨ i = 189 ∨ i = 191 ∨ i = 193 ∨ (195 ≤ i ∧ i ≤ 203) ∨ i = 208 ∨ i = 210) → ¬ P i q) : xMS S' c := by
  obtain ⟨h1, h2, h3, h4, h5, h6, h7⟩ := h
  exact ⟨hf.XC h1, h2.fr hf (fun i k w => hn _ _ (by omega)), h3.fr hf (fun q w => hn _ _ (by omega)) (fun a q w => hn _ _ (by omega)), h4.fr hf (fun i q w => hn _ _ (by omega)), h5.fr hf (fun i k w => hn _ _ (by omega)), fun q hq => ⟨hf.i (h6 q hq).1 (hn _ _ (by omega)), fun k hk => hf.i ((h6 q hq).2 k hk) (hn _ _ (by omega))⟩, hf.i h7 (hn _ _ (by omega))⟩
theorem m_prepareYardS {c : xPx} (d : Nat) (ho : xzo c) {S : xS} (h : xMS S c) : ∃ S', xcall false (d + 5) j_X12_prepareYard [.ref 187] S (some (.int (xB (xzal c)))) S' ∧ xFl (fun i k => (i = 187 ∧ (k = 58 ∨ k = 59 ∨ k = 60)) ∨ i = 212 ∨ i = 213 ∨ i = 214 ∨ i = 215 ∨ i = 217 ∨ i = 218) S S' ∧ (xzal c = true → xMpd S' c 0) := by
  obtain ⟨v, tv, l, l2, σ⟩ := c
  obtain ⟨h1, h2, h3, h4, h5, h6, h7⟩ := h
  exact m_prepareYard d ho h1 h2 h3 h4 h5 h6 h7
theorem m_mayPlay {c : xPx} {see : Int32} (d : Nat) (ho : xzo c) {S : xS} (h : xMS S c) : ∃ b S', xcall false (d + 6) j_X12_mayPlay [.ref 187, .int see] S (some (.int (xB b))) S' ∧ xFl (fun i k => (i = 187 ∧ (k = 58 ∨ k = 59 ∨ k = 60)) ∨ i = 212 ∨ i = 213 ∨ i = 214 ∨ i = 215 ∨ i = 217 ∨ i = 218) S S' ∧ (b = true ↔ (xzal c = true ∧ xgH (xzg c) ≤ 8 ∧ ∃ n, n < 2 ^ xgP (xzg c) ∧ see = nI n)) ∧ (b = true → xMpd S' c 0) := by
  have hX := h.1
  have g24 := ho.g.H
  have hP : c.2.2.1.length ≤ 12 := ho.g.2.1
  have p12 : 2 ^ c.2.2.1.length ≤ 2 ^ 12 := Nat.pow_le_pow_right (by decide) hP
  have k30 := h.2.2.2.2.1.2.1
  obtain ⟨S1, g1, f1, z1⟩ := m_prepareYardS d ho h
  have X1 := f1.XC hX
  obtain ⟨r, S', g2, b, rfl, z⟩ := xcall_some (al := false) (d := d + 6) (ls := [.ref 187, .int see]) (S := S) (as := [.ref 187, .int see]) q_X12_mayPlay (by decide) rfl (Nat.le_of_ble_eq_true rfl) rfl (P := (fun r S' => ∃ b, r = some (.int (xB b)) ∧ xFl (fun i k => (i = 187 ∧ (k = 58 ∨ k = 59 ∨ k = 60)) ∨ i = 212 ∨ i = 213 ∨ i = 214 ∨ i = 215 ∨ i = 217 ∨ i = 218) S S' ∧ (b = true ↔ (xzal c = true ∧ xgH (xzg c) ≤ 8 ∧ ∃ n, n < 2 ^ xgP (xzg c) ∧ see = nI n)) ∧ (b = true → xMpd S' c 0))) (by
    cases hal : xzal c with
    | false =>
      rw [hal] at g1
      have fin : ∀ b, b = false → ∃ b', some (Value.int (xB b)) = some (Value.int (xB b')) ∧ xFl (fun i k => (i = 187 ∧ (k = 58 ∨ k = 59 ∨ k = 60)) ∨ i = 212 ∨ i = 213 ∨ i = 214 ∨ i = 215 ∨ i = 217 ∨ i = 218) S S1 ∧ (b' = true ↔ (false = true ∧ xgH (xzg c) ≤ 8 ∧ ∃ n, n < 2 ^ xgP (xzg c) ∧ see = nI n)) ∧ (b' = true → xMpd S1 c 0) := fun b hb => ⟨b, rfl, f1, by subst hb; exact ⟨fun h => (by cases h), fun h => h.1⟩, fun h => by rw [hb] at h; cases h⟩
      refine wp_aload_n dX12_mayPlay_0 rfl rfl (wp_iv1 dX12_mayPlay_1 k11_452 q_X12_prepareYard (by decide) (xsh hX sh_187) (by decide) (Nat.le_of_ble_eq_true rfl) g1 ?_)
      refine wb_if_eq dX12_mayPlay_4 rfl (fun c4 => ?_) (fun c4 => absurd c4 (by decide))
      exact wp_iconst (v := nI 0) dX12_mayPlay_34 rfl (wb_ret dX12_mayPlay_35 rfl rfl (fin false rfl))
    | true =>
      rw [hal] at g1
      have D1 := z1 hal
      have kH := D1.1
      have k30' := D1.2.2.2.2.2.2.2.2.1
      have no : ¬ (xgH (xzg c) ≤ 8 ∧ ∃ n, n < 2 ^ xgP (xzg c) ∧ see = nI n) → ∀ b, b = false → ∃ b', some (Value.int (xB b)) = some (Value.int (xB b')) ∧ xFl (fun i k => (i = 187 ∧ (k = 58 ∨ k = 59 ∨ k = 60)) ∨ i = 212 ∨ i = 213 ∨ i = 214 ∨ i = 215 ∨ i = 217 ∨ i = 218) S S1 ∧ (b' = true ↔ (true = true ∧ xgH (xzg c) ≤ 8 ∧ ∃ n, n < 2 ^ xgP (xzg c) ∧ see = nI n)) ∧ (b' = true → xMpd S1 c 0) := fun hn b hb => ⟨b, rfl, f1, by subst hb; exact ⟨fun h => (by cases h), fun h => absurd h.2 hn⟩, fun h => by rw [hb] at h; cases h⟩
      rcases Nat.lt_or_ge 8 (xgH (xzg c)) with w | w
      · have fin := no (fun q => by have := q.1; omega)
        refine wp_aload_n dX12_mayPlay_0 rfl rfl (wp_iv1 dX12_mayPlay_1 k11_452 q_X12_prepareYard (by decide) (xsh hX sh_187) (by decide) (Nat.le_of_ble_eq_true rfl) g1 ?_)
        refine wb_if_eq dX12_mayPlay_4 rfl (fun c4 => absurd c4 (by decide)) (fun c4 => ?_)
        refine wp_aload_n dX12_mayPlay_7 rfl rfl (gv11_391 dX12_mayPlay_8 (xsh X1 sh_187) kH (wp_bipush (v := nI 8) dX12_mayPlay_11 rfl ?_))
        refine wn_icmp_gt dX12_mayPlay_13 rfl (by omega) (by omega) (fun c13 => ?_) (fun c13 => absurd c13 (by omega))
        exact wp_iconst (v := nI 0) dX12_mayPlay_34 rfl (wb_ret dX12_mayPlay_35 rfl rfl (fin false rfl))
      · rcases Decidable.em (see < 0) with w2 | w2
        · have fin := no (fun q => by obtain ⟨_, n, hn, e⟩ := q; have hn' : n < 2 ^ c.2.2.1.length := hn; rw [e] at w2; exact nI_pos (by omega) w2)
          refine wp_aload_n dX12_mayPlay_0 rfl rfl (wp_iv1 dX12_mayPlay_1 k11_452 q_X12_prepareYard (by decide) (xsh hX sh_187) (by decide) (Nat.le_of_ble_eq_true rfl) g1 ?_)
          refine wb_if_eq dX12_mayPlay_4 rfl (fun c4 => absurd c4 (by decide)) (fun c4 => ?_)
          refine wp_aload_n dX12_mayPlay_7 rfl rfl (gv11_391 dX12_mayPlay_8 (xsh X1 sh_187) kH (wp_bipush (v := nI 8) dX12_mayPlay_11 rfl ?_))
          refine wn_icmp_gt dX12_mayPlay_13 rfl (by omega) (by omega) (fun c13 => absurd c13 (by omega)) (fun c13 => ?_)
          refine wp_iload_n dX12_mayPlay_16 rfl ?_
          refine wp_if_lt dX12_mayPlay_17 rfl (fun c17 => ?_) (fun c17 => absurd c17 (not_not_intro w2))
          exact wp_iconst (v := nI 0) dX12_mayPlay_34 rfl (wb_ret dX12_mayPlay_35 rfl rfl (fin false rfl))
        · obtain ⟨n, hn, rfl⟩ := nI_of w2
          rcases Nat.lt_or_ge n (2 ^ c.2.2.1.length) with w3 | w3
          · have fin : ∀ b, b = true → ∃ b', some (Value.int (xB b)) = some (Value.int (xB b')) ∧ xFl (fun i k => (i = 187 ∧ (k = 58 ∨ k = 59 ∨ k = 60)) ∨ i = 212 ∨ i = 213 ∨ i = 214 ∨ i = 215 ∨ i = 217 ∨ i = 218) S S1 ∧ (b' = true ↔ (true = true ∧ xgH (xzg c) ≤ 8 ∧ ∃ n', n' < 2 ^ xgP (xzg c) ∧ nI n = nI n')) ∧ (b' = true → xMpd S1 c 0) := fun b hb => ⟨b, rfl, f1, by subst hb; exact ⟨fun _ => ⟨rfl, w, n, w3, rfl⟩, fun _ => rfl⟩, fun _ => D1⟩
            refine wp_aload_n dX12_mayPlay_0 rfl rfl (wp_iv1 dX12_mayPlay_1 k11_452 q_X12_prepareYard (by decide) (xsh hX sh_187) (by decide) (Nat.le_of_ble_eq_true rfl) g1 ?_)
            refine wb_if_eq dX12_mayPlay_4 rfl (fun c4 => absurd c4 (by decide)) (fun c4 => ?_)
            refine wp_aload_n dX12_mayPlay_7 rfl rfl (gv11_391 dX12_mayPlay_8 (xsh X1 sh_187) kH (wp_bipush (v := nI 8) dX12_mayPlay_11 rfl ?_))
            refine wn_icmp_gt dX12_mayPlay_13 rfl (by omega) (by omega) (fun c13 => absurd c13 (by omega)) (fun c13 => ?_)
            refine wp_iload_n dX12_mayPlay_16 rfl ?_
            refine wn_if_lt dX12_mayPlay_17 rfl (by omega) ?_
            refine wp_iload_n dX12_mayPlay_20 rfl (wp_iconst (v := nI 1) dX12_mayPlay_21 rfl (wp_aload_n dX12_mayPlay_22 rfl rfl (gv11_183 dX12_mayPlay_23 (xsh X1 sh_187) k30' (wv_ishl dX12_mayPlay_26 (xshl1 (by omega)) ?_))))
            refine wn_icmp_ge dX12_mayPlay_27 rfl (by omega) (by omega) (fun c27 => absurd c27 (by omega)) (fun c27 => ?_)
            exact wp_iconst (v := nI 1) dX12_mayPlay_30 rfl (wp_goto dX12_mayPlay_31 rfl (wb_ret dX12_mayPlay_35 rfl rfl (fin true rfl)))
          · have fin := no (fun q => by obtain ⟨_, n', hn', e⟩ := q; have hn2 : n' < 2 ^ c.2.2.1.length := hn'; have := (nI_eq (by omega) (by omega)).mp e; omega)
            refine wp_aload_n dX12_mayPlay_0 rfl rfl (wp_iv1 dX12_mayPlay_1 k11_452 q_X12_prepareYard (by decide) (xsh hX sh_187) (by decide) (Nat.le_of_ble_eq_true rfl) g1 ?_)
            refine wb_if_eq dX12_mayPlay_4 rfl (fun c4 => absurd c4 (by decide)) (fun c4 => ?_)
            refine wp_aload_n dX12_mayPlay_7 rfl rfl (gv11_391 dX12_mayPlay_8 (xsh X1 sh_187) kH (wp_bipush (v := nI 8) dX12_mayPlay_11 rfl ?_))
            refine wn_icmp_gt dX12_mayPlay_13 rfl (by omega) (by omega) (fun c13 => absurd c13 (by omega)) (fun c13 => ?_)
            refine wp_iload_n dX12_mayPlay_16 rfl ?_
            refine wn_if_lt dX12_mayPlay_17 rfl (by omega) ?_
            refine wp_iload_n dX12_mayPlay_20 rfl (wp_iconst (v := nI 1) dX12_mayPlay_21 rfl (wp_aload_n dX12_mayPlay_22 rfl rfl (gv11_183 dX12_mayPlay_23 (xsh X1 sh_187) k30' (wv_ishl dX12_mayPlay_26 (xshl1 (by omega)) ?_))))
            refine wn_icmp_ge dX12_mayPlay_27 rfl (by omega) (by omega) (fun c27 => ?_) (fun c27 => absurd c27 (by omega))
            exact wp_iconst (v := nI 0) dX12_mayPlay_34 rfl (wb_ret dX12_mayPlay_35 rfl rfl (fin false rfl)))
  exact ⟨b, S', g2, z⟩
theorem m_game_no {c : xPx} {see : Int32} (d : Nat) (ho : xzo c) {S : xS} (h : xMS S c) (hno : ¬ (xzal c = true ∧ xgH (xzg c) ≤ 8 ∧ ∃ n, n < 2 ^ xgP (xzg c) ∧ see = nI n)) : ∃ S', xcall false (d + 7) j_X12_game [.ref 187, .int see] S (some (.int (-1))) S' ∧ xFl (fun i k => (i = 187 ∧ (k = 0 ∨ (58 ≤ k ∧ k ≤ 70))) ∨ (212 ≤ i ∧ i ≤ 218) ∨ i = 220 ∨ i = 221) S S' := by
  have hX := h.1
  have F0 : xFl (fun i k => i = 187 ∧ k = 0) S (xSI S 187 0 (nI 0)) := (xFl.rf S).SI ⟨rfl, rfl⟩
  have h0 := h.fr F0 (fun i q w => by omega)
  obtain ⟨b, S1, g1, f1, hb, hD⟩ := m_mayPlay (see := see) (d + 0) ho h0
  have X1 := f1.XC h0.1
  have hb0 : b = false := by cases b with | false => rfl | true => exact absurd (hb.mp rfl) hno
  subst hb0
  refine ⟨S1, ?_, (F0.mono (fun i k w => by omega)).tt (f1.mono (fun i k w => by omega))⟩
  refine xcall_intro (ls := [.ref 187, .int see]) q_X12_game (by decide) rfl (Nat.le_of_ble_eq_true rfl) rfl ?_
  refine wp_aload_n dX12_game_0 rfl rfl (wp_iconst (v := nI 0) dX12_game_1 rfl (p11_1 dX12_game_2 (xsh hX sh_187) (wp_aload_n dX12_game_5 rfl rfl (wp_iload_n dX12_game_6 rfl (wp_iv2 dX12_game_7 k11_509 q_X12_mayPlay (by decide) (xsh hX sh_187) (by decide) (Nat.le_of_ble_eq_true rfl) g1 ?_)))))
  refine wb_if_ne dX12_game_10 rfl (fun c10 => absurd c10 (by decide)) (fun c10 => ?_)
  exact wp_iconst (v := -1) dX12_game_13 rfl (wp_ireturn dX12_game_14 rfl rfl ⟨rfl, rfl⟩)
theorem m_game {c : xPx} {see : Int32} {n : Nat} (d : Nat) (ho : xzo c) {S : xS} (h : xMS S c) (ha : xzal c = true) (h8 : xgH (xzg c) ≤ 8) (hn : n < 2 ^ xgP (xzg c)) (hsn : see = nI n) : ∃ S', xcall false (d + 7) j_X12_game [.ref 187, .int see] S (some (.int (nI (if xovr (xzg c) (2 ^ xgH (xzg c) - 1) = true then 2 ^ xgP (xzg c) - 1 else xVg c 0 n (2 ^ xgH (xzg c) - 1) 0 0)))) S' ∧ xFl (fun i k => (i = 187 ∧ (k = 0 ∨ (58 ≤ k ∧ k ≤ 70))) ∨ (212 ≤ i ∧ i ≤ 218) ∨ i = 220 ∨ i = 221) S S' := by
  have hX := h.1
  have F0 : xFl (fun i k => i = 187 ∧ k = 0) S (xSI S 187 0 (nI 0)) := (xFl.rf S).SI ⟨rfl, rfl⟩
  have h0 := h.fr F0 (fun i q w => by omega)
  obtain ⟨b, S1, g1, f1, hb, hD⟩ := m_mayPlay (see := see) (d + 0) ho h0
  have X1 := f1.XC h0.1
  have hb0 : b = true := hb.mpr ⟨ha, h8, n, hn, hsn⟩
  subst hb0
  subst hsn
  have D1 := hD rfl
  have hP : c.2.2.1.length ≤ 12 := ho.g.2.1
  have p12 : 2 ^ c.2.2.1.length ≤ 2 ^ 12 := Nat.pow_le_pow_right (by decide) hP
  have ppos := Nat.two_pow_pos c.2.2.1.length
  have hn' : n < 2 ^ c.2.2.1.length := hn
  have k30 := D1.2.2.2.2.2.2.2.2.1
  have go := m_isOverAtFirst (d + 6) ho X1 (D1.2.2.2.2.2.2.2.1.1 2 (by decide)) (D1.2.2.2.2.2.2.2.1.1 5 (by decide)) k30
  cases hov : xovr (xzg c) (2 ^ xgH (xzg c) - 1) with
  | true =>
    rw [hov] at go
    rw [if_pos rfl]
    refine ⟨S1, ?_, (F0.mono (fun i k w => by omega)).tt (f1.mono (fun i k w => by omega))⟩
    show xcall _ _ _ _ _ (some (.int (nI (2 ^ c.2.2.1.length - 1)))) _
    refine xcall_intro (ls := [.ref 187, .int (nI n)]) q_X12_game (by decide) rfl (Nat.le_of_ble_eq_true rfl) rfl ?_
    refine wp_aload_n dX12_game_0 rfl rfl (wp_iconst (v := nI 0) dX12_game_1 rfl (p11_1 dX12_game_2 (xsh hX sh_187) (wp_aload_n dX12_game_5 rfl rfl (wp_iload_n dX12_game_6 rfl (wp_iv2 dX12_game_7 k11_509 q_X12_mayPlay (by decide) (xsh hX sh_187) (by decide) (Nat.le_of_ble_eq_true rfl) g1 ?_)))))
    refine wb_if_ne dX12_game_10 rfl (fun c10 => ?_) (fun c10 => absurd c10 (by decide))
    refine wp_aload_n dX12_game_15 rfl rfl (wp_iv1 dX12_game_16 k11_458 q_X12_isOverAtFirst (by decide) (xsh X1 sh_187) (by decide) (Nat.le_of_ble_eq_true rfl) go ?_)
    refine wb_if_eq dX12_game_19 rfl (fun c19 => absurd c19 (by decide)) (fun c19 => ?_)
    exact wp_iconst (v := nI 1) dX12_game_22 rfl (wp_aload_n dX12_game_23 rfl rfl (gv11_183 dX12_game_24 (xsh X1 sh_187) k30 (wv_ishl dX12_game_27 (xshl1 (by omega)) (wp_iconst (v := nI 1) dX12_game_28 rfl (wv_isub dX12_game_29 (pk_sub (by omega)) (wp_ireturn dX12_game_30 rfl rfl ⟨rfl, rfl⟩))))))
  | false =>
    rw [hov] at go
    rw [if_neg (by decide)]
    obtain ⟨S2, g2, f2, B, hB, hV⟩ := m_solve (see := n) (d + 0) ho ha h8 (by decide) (by omega) X1 D1
    have X2 := f2.XC X1
    have D2 := D1.fr ho f2 (fun i q h => by omega)
    have gb := m_begin (d + 5) ho X2 D2.1
    have g0 := xgd_0 ho
    have hq := (g0.b ho h8).2.2.2.1
    have v := hV _ _ _ g0 hB.2.2.1 hq
    refine ⟨S2, ?_, ((F0.mono (fun i k w => by omega)).tt (f1.mono (fun i k w => by omega))).tt (f2.mono (fun i k w => by omega))⟩
    refine xcall_intro (ls := [.ref 187, .int (nI n)]) q_X12_game (by decide) rfl (Nat.le_of_ble_eq_true rfl) rfl ?_
    refine wp_aload_n dX12_game_0 rfl rfl (wp_iconst (v := nI 0) dX12_game_1 rfl (p11_1 dX12_game_2 (xsh hX sh_187) (wp_aload_n dX12_game_5 rfl rfl (wp_iload_n dX12_game_6 rfl (wp_iv2 dX12_game_7 k11_509 q_X12_mayPlay (by decide) (xsh hX sh_187) (by decide) (Nat.le_of_ble_eq_true rfl) g1 ?_)))))
    refine wb_if_ne dX12_game_10 rfl (fun c10 => ?_) (fun c10 => absurd c10 (by decide))
    refine wp_aload_n dX12_game_15 rfl rfl (wp_iv1 dX12_game_16 k11_458 q_X12_isOverAtFirst (by decide) (xsh X1 sh_187) (by decide) (Nat.le_of_ble_eq_true rfl) go ?_)
    refine wb_if_eq dX12_game_19 rfl (fun c19 => ?_) (fun c19 => absurd c19 (by decide))
    exact wp_aload_n dX12_game_31 rfl rfl (wp_iload_n dX12_game_32 rfl (wp_iv2 dX12_game_33 k11_512 q_X12_solve (by decide) (xsh X1 sh_187) (by decide) (Nat.le_of_ble_eq_true rfl) g2 (wp_aload_n dX12_game_36 rfl rfl (g11_358 dX12_game_37 (xsh X2 sh_187) (xrr X2 r187_74) (wp_aload_n dX12_game_40 rfl rfl (wp_iv1 dX12_game_41 k11_485 q_X12_begin (by decide) (xsh X2 sh_187) (by decide) (Nat.le_of_ble_eq_true rfl) gb (wn_iaload dX12_game_44 (xsh X2 sh_221) rfl (by omega) (by decide) v (wp_ireturn dX12_game_45 rfl rfl ⟨rfl, rfl⟩))))))))
/-- what the first one asked says -/
def xsy (c : xPx) (see : Nat) : Nat → Nat → Nat → Nat → Int32
  | 0, _, _, _ => -1
  | f + 1, m, s, k => if xzA c k = true then nI (if see.testBit (xzq c 0 m s k) = true then xff (fun a => xmt9 c (xzq c 0 m s k) (xvl c 0 (fun _ L => L) (xVg c 0 see) m s k a)) c.2.2.2.1.length 0 else 0) else (xen c 0 m s k 0).elim (xsy c see f (xn1 c 0 m s k 0) (xn2 c 0 m s k 0) (k + 1)) (fun _ => -1)
theorem sy9_loop {c : xPx} {see d : Nat} {B : Nat → Bool} (ho : xzo c) (ha : xzal c = true) (h8 : xgH (xzg c) ≤ 8) (hsee : see < 2 ^ 12) : ∀ (f m s k : Nat) (S : xS), k + f = xgH (xzg c) → xgd c m s k → B (xqt c m s k) = true → XC S → xMpd S c 0 → xMK S c 0 B → xVs S c (xVg c 0 see) B 16384 → Wp false (d + 7) 11 cX12_says (some .int) false 32 [.ref 187, .int (nI see), .int (nI (xqt c m s k))] [] S (fun r S' => r = some (.int (xsy c see f m s k)) ∧ xFl (fun i q => (i = 187 ∧ 61 ≤ q ∧ q ≤ 70) ∨ i = 216) S S') := by
  have hP : xgP (xzg c) ≤ 12 := ho.g.2.1
  have p12 : 2 ^ xgP (xzg c) ≤ 2 ^ 12 := Nat.pow_le_pow_right (by decide) hP
  intro f
  induction f with
  | zero =>
    intro m s k S hk hg
    have := hg.k
    omega
  | succ f ih =>
    intro m s k S hk hg hm hX hD hB hV
    obtain ⟨S1, gw, f1, W1, k70, k63⟩ := m_walkState (d + 3) ho ha h8 (by decide) hg hX hD
    have X1 := f1.XC hX
    have hcl := hB.2.2.2 m s k hg hm
    have suc : ∀ a, a < xzw c k → xen c 0 m s k a = none → S1.2.1 221 (xqt c (xn1 c 0 m s k a) (xn2 c 0 m s k a) (k + 1)) = nI (xVg c 0 see (xn1 c 0 m s k a) (xn2 c 0 m s k a) (k + 1)) := fun a ha e => f1.i (hV _ _ _ (hg.nx ho e) (hcl a ha e) ((hg.nx ho e).b ho h8).2.2.2.1) (by omega)
    rw [xsy]
    cases hask : xzA c k with
    | true =>
      rw [hask] at gw
      rw [if_pos rfl]
      obtain ⟨S2, ga, f2⟩ := m_answerIn (see := see) (d + 2) ho ha h8 (by decide) hsee hg hask W1 k63 suc
      have fin : xFl (fun i q => (i = 187 ∧ 61 ≤ q ∧ q ≤ 70) ∨ i = 216) S S2 := (f1.mono (fun i q h => by omega)).tt (f2.mono (fun i q h => by omega))
      refine wp_aload_n dX12_says_32 rfl rfl (wp_iload_n dX12_says_33 rfl (wp_iv2 dX12_says_34 k11_491 q_X12_walkState (by decide) (xsh hX sh_187) (by decide) (Nat.le_of_ble_eq_true rfl) gw ?_))
      refine wb_if_eq dX12_says_37 rfl (fun c37 => absurd c37 (by decide)) (fun c37 => ?_)
      exact wp_aload_n dX12_says_40 rfl rfl (wp_iload_n dX12_says_41 rfl (wp_iload_n dX12_says_42 rfl (wp_iv3 dX12_says_43 k11_506 q_X12_answerIn (by decide) (xsh X1 sh_187) (by decide) (Nat.le_of_ble_eq_true rfl) ga (wp_ireturn dX12_says_46 rfl rfl ⟨rfl, fin⟩))))
    | false =>
      rw [hask] at gw
      rw [if_neg (by decide)]
      have hw : xzw c k = 1 := by unfold xzw; rw [hask, if_neg (by decide)]
      obtain ⟨S2, gf, f2, k64, out⟩ := m_finishState (a := 0) (d + 3) ho ha h8 (by decide) hg W1 (Or.inr ⟨hask, rfl⟩)
      have X2 := f2.XC X1
      have FF : xFl (fun i q => (i = 187 ∧ 61 ≤ q ∧ q ≤ 70) ∨ i = 216) S S2 := (f1.mono (fun i q h => by omega)).tt (f2.mono (fun i q h => by omega))
      rcases out with ⟨L, e1, k65, hL⟩ | ⟨e1, k65, k66, k67, k68, k69, hn⟩
      · rw [e1]
        have fin : some (Value.int (-1)) = some (.int ((some L).elim (xsy c see f (xn1 c 0 m s k 0) (xn2 c 0 m s k 0) (k + 1)) (fun _ => -1))) ∧ xFl (fun i q => (i = 187 ∧ 61 ≤ q ∧ q ≤ 70) ∨ i = 216) S S2 := ⟨rfl, FF⟩
        refine wp_aload_n dX12_says_32 rfl rfl (wp_iload_n dX12_says_33 rfl (wp_iv2 dX12_says_34 k11_491 q_X12_walkState (by decide) (xsh hX sh_187) (by decide) (Nat.le_of_ble_eq_true rfl) gw ?_))
        refine wb_if_eq dX12_says_37 rfl (fun c37 => ?_) (fun c37 => absurd c37 (by decide))
        refine wp_aload_n dX12_says_47 rfl rfl (wp_iload_n dX12_says_48 rfl (wp_iconst (v := -1) dX12_says_49 rfl (wp_iv3 dX12_says_50 k11_494 q_X12_finishState (by decide) (xsh X1 sh_187) (by decide) (Nat.le_of_ble_eq_true rfl) gf (wp_aload_n dX12_says_53 rfl rfl (gv11_427 dX12_says_54 (xsh X2 sh_187) k65 ?_)))))
        refine wn_if_lt dX12_says_57 rfl (by omega) ?_
        exact wp_iconst (v := -1) dX12_says_60 rfl (wp_ireturn dX12_says_61 rfl rfl fin)
      · rw [e1]
        have gs := m_stateOf (m := xn1 c 0 m s k 0) (s := xn2 c 0 m s k 0) (r := (k + 1) % c.1.2.length) (b := xbk (xzg c) (k + 1)) (d + 6) (S := S2)
        have nx := (ih (xn1 c 0 m s k 0) (xn2 c 0 m s k 0) (k + 1) S2 (by omega) hn (hcl 0 (by omega) e1) X2 (W1.2.1.fr ho f2 (fun i q h => by omega)) ((hB.fr f1 (fun x h => by omega)).fr f2 (fun x h => by omega)) ((hV.fr f1 (fun x h => by omega)).fr f2 (fun x h => by omega))).mono (Q' := (fun r S' => r = some (.int ((none : Option Nat).elim (xsy c see f (xn1 c 0 m s k 0) (xn2 c 0 m s k 0) (k + 1)) (fun _ => -1))) ∧ xFl (fun i q => (i = 187 ∧ 61 ≤ q ∧ q ≤ 70) ∨ i = 216) S S')) (fun r S' z => ⟨z.1, FF.tt z.2⟩)
        refine wp_aload_n dX12_says_32 rfl rfl (wp_iload_n dX12_says_33 rfl (wp_iv2 dX12_says_34 k11_491 q_X12_walkState (by decide) (xsh hX sh_187) (by decide) (Nat.le_of_ble_eq_true rfl) gw ?_))
        refine wb_if_eq dX12_says_37 rfl (fun c37 => ?_) (fun c37 => absurd c37 (by decide))
        refine wp_aload_n dX12_says_47 rfl rfl (wp_iload_n dX12_says_48 rfl (wp_iconst (v := -1) dX12_says_49 rfl (wp_iv3 dX12_says_50 k11_494 q_X12_finishState (by decide) (xsh X1 sh_187) (by decide) (Nat.le_of_ble_eq_true rfl) gf (wp_aload_n dX12_says_53 rfl rfl (gv11_427 dX12_says_54 (xsh X2 sh_187) k65 ?_)))))
        refine wp_if_lt dX12_says_57 rfl (fun c57 => ?_) (fun c57 => absurd c57 (not_not_intro (by decide)))
        exact wp_aload_n dX12_says_62 rfl rfl (gv11_430 dX12_says_63 (xsh X2 sh_187) k66 (wp_aload_n dX12_says_66 rfl rfl (gv11_445 dX12_says_67 (xsh X2 sh_187) k67 (wp_aload_n dX12_says_70 rfl rfl (gv11_433 dX12_says_71 (xsh X2 sh_187) k68 (wp_aload_n dX12_says_74 rfl rfl (gv11_436 dX12_says_75 (xsh X2 sh_187) k69 (wp_is4 dX12_says_78 k11_481 q_X12_stateOf (by decide) (Nat.le_of_ble_eq_true rfl) gs (wp_istore_n dX12_says_81 ⟨Nat.le_of_ble_eq_true rfl, Or.inr rfl⟩ rfl (wp_goto dX12_says_82 rfl nx))))))))))
theorem m_says_no {c : xPx} {see : Int32} (d : Nat) (ho : xzo c) {S : xS} (h : xMS S c) (hno : ¬ (xzal c = true ∧ xgH (xzg c) ≤ 8 ∧ ∃ n, n < 2 ^ xgP (xzg c) ∧ see = nI n)) : ∃ S', xcall false (d + 8) j_X12_says [.ref 187, .int see] S (some (.int (-1))) S' ∧ xFl (fun i k => (i = 187 ∧ (k = 0 ∨ (58 ≤ k ∧ k ≤ 70))) ∨ (212 ≤ i ∧ i ≤ 218) ∨ i = 220 ∨ i = 221) S S' := by
  have hX := h.1
  have F0 : xFl (fun i k => i = 187 ∧ k = 0) S (xSI S 187 0 (nI 0)) := (xFl.rf S).SI ⟨rfl, rfl⟩
  have h0 := h.fr F0 (fun i q w => by omega)
  obtain ⟨b, S1, g1, f1, hb, hD⟩ := m_mayPlay (see := see) (d + 1) ho h0
  have X1 := f1.XC h0.1
  have hb0 : b = false := by cases b with | false => rfl | true => exact absurd (hb.mp rfl) hno
  subst hb0
  refine ⟨S1, ?_, (F0.mono (fun i k w => by omega)).tt (f1.mono (fun i k w => by omega))⟩
  refine xcall_intro (ls := [.ref 187, .int see, .float 0]) q_X12_says (by decide) rfl (Nat.le_of_ble_eq_true rfl) rfl ?_
  refine wp_aload_n dX12_says_0 rfl rfl (wp_iconst (v := nI 0) dX12_says_1 rfl (p11_1 dX12_says_2 (xsh hX sh_187) (wp_aload_n dX12_says_5 rfl rfl (wp_iload_n dX12_says_6 rfl (wp_iv2 dX12_says_7 k11_509 q_X12_mayPlay (by decide) (xsh hX sh_187) (by decide) (Nat.le_of_ble_eq_true rfl) g1 ?_)))))
  refine wb_if_eq dX12_says_10 rfl (fun c10 => ?_) (fun c10 => absurd c10 (by decide))
  exact wp_iconst (v := -1) dX12_says_20 rfl (wp_ireturn dX12_says_21 rfl rfl ⟨rfl, rfl⟩)
theorem m_says {c : xPx} {see : Int32} {n : Nat} (d : Nat) (ho : xzo c) {S : xS} (h : xMS S c) (ha : xzal c = true) (h8 : xgH (xzg c) ≤ 8) (hn : n < 2 ^ xgP (xzg c)) (hsn : see = nI n) : ∃ S', xcall false (d + 8) j_X12_says [.ref 187, .int see] S (some (.int (if xovr (xzg c) (2 ^ xgH (xzg c) - 1) = true then -1 else xsy c n (xgH (xzg c)) (2 ^ xgH (xzg c) - 1) 0 0))) S' ∧ xFl (fun i k => (i = 187 ∧ (k = 0 ∨ (58 ≤ k ∧ k ≤ 70))) ∨ (212 ≤ i ∧ i ≤ 218) ∨ i = 220 ∨ i = 221) S S' := by
  have hX := h.1
  have F0 : xFl (fun i k => i = 187 ∧ k = 0) S (xSI S 187 0 (nI 0)) := (xFl.rf S).SI ⟨rfl, rfl⟩
  have h0 := h.fr F0 (fun i q w => by omega)
  obtain ⟨b, S1, g1, f1, hb, hD⟩ := m_mayPlay (see := see) (d + 1) ho h0
  have X1 := f1.XC h0.1
  have hb0 : b = true := hb.mpr ⟨ha, h8, n, hn, hsn⟩
  subst hb0
  subst hsn
  have D1 := hD rfl
  have hP : c.2.2.1.length ≤ 12 := ho.g.2.1
  have p12 : 2 ^ c.2.2.1.length ≤ 2 ^ 12 := Nat.pow_le_pow_right (by decide) hP
  have hn' : n < 2 ^ c.2.2.1.length := hn
  have k30 := D1.2.2.2.2.2.2.2.2.1
  have go := m_isOverAtFirst (d + 7) ho X1 (D1.2.2.2.2.2.2.2.1.1 2 (by decide)) (D1.2.2.2.2.2.2.2.1.1 5 (by decide)) k30
  cases hov : xovr (xzg c) (2 ^ xgH (xzg c) - 1) with
  | true =>
    rw [hov] at go
    rw [if_pos rfl]
    refine ⟨S1, ?_, (F0.mono (fun i k w => by omega)).tt (f1.mono (fun i k w => by omega))⟩
    refine xcall_intro (ls := [.ref 187, .int (nI n), .float 0]) q_X12_says (by decide) rfl (Nat.le_of_ble_eq_true rfl) rfl ?_
    refine wp_aload_n dX12_says_0 rfl rfl (wp_iconst (v := nI 0) dX12_says_1 rfl (p11_1 dX12_says_2 (xsh hX sh_187) (wp_aload_n dX12_says_5 rfl rfl (wp_iload_n dX12_says_6 rfl (wp_iv2 dX12_says_7 k11_509 q_X12_mayPlay (by decide) (xsh hX sh_187) (by decide) (Nat.le_of_ble_eq_true rfl) g1 ?_)))))
    refine wb_if_eq dX12_says_10 rfl (fun c10 => absurd c10 (by decide)) (fun c10 => ?_)
    refine wp_aload_n dX12_says_13 rfl rfl (wp_iv1 dX12_says_14 k11_458 q_X12_isOverAtFirst (by decide) (xsh X1 sh_187) (by decide) (Nat.le_of_ble_eq_true rfl) go ?_)
    refine wb_if_eq dX12_says_17 rfl (fun c17 => absurd c17 (by decide)) (fun c17 => ?_)
    exact wp_iconst (v := -1) dX12_says_20 rfl (wp_ireturn dX12_says_21 rfl rfl ⟨rfl, rfl⟩)
  | false =>
    rw [hov] at go
    rw [if_neg (by decide)]
    obtain ⟨S2, g2, f2, B, hB, hV⟩ := m_solve (see := n) (d + 1) ho ha h8 (by decide) (by omega) X1 D1
    have X2 := f2.XC X1
    have D2 := D1.fr ho f2 (fun i q h => by omega)
    have gb := m_begin (d + 6) ho X2 D2.1
    have lp := sy9_loop (d := d + 1) ho ha h8 (by omega) (xgH (xzg c)) (2 ^ xgH (xzg c) - 1) 0 0 S2 (Nat.zero_add _) (xgd_0 ho) hB.2.2.1 X2 D2 hB hV
    obtain ⟨r, S', g3, rfl, z⟩ := xcall_some (al := false) (d := d + 8) (ls := [.ref 187, .int (nI n), .float 0]) (S := S) (as := [.ref 187, .int (nI n)]) q_X12_says (by decide) rfl (Nat.le_of_ble_eq_true rfl) rfl (P := (fun r S' => r = some (.int (xsy c n (xgH (xzg c)) (2 ^ xgH (xzg c) - 1) 0 0)) ∧ xFl (fun i q => (i = 187 ∧ 61 ≤ q ∧ q ≤ 70) ∨ i = 216) S2 S')) (by
        refine wp_aload_n dX12_says_0 rfl rfl (wp_iconst (v := nI 0) dX12_says_1 rfl (p11_1 dX12_says_2 (xsh hX sh_187) (wp_aload_n dX12_says_5 rfl rfl (wp_iload_n dX12_says_6 rfl (wp_iv2 dX12_says_7 k11_509 q_X12_mayPlay (by decide) (xsh hX sh_187) (by decide) (Nat.le_of_ble_eq_true rfl) g1 ?_)))))
        refine wb_if_eq dX12_says_10 rfl (fun c10 => absurd c10 (by decide)) (fun c10 => ?_)
        refine wp_aload_n dX12_says_13 rfl rfl (wp_iv1 dX12_says_14 k11_458 q_X12_isOverAtFirst (by decide) (xsh X1 sh_187) (by decide) (Nat.le_of_ble_eq_true rfl) go ?_)
        refine wb_if_eq dX12_says_17 rfl (fun c17 => ?_) (fun c17 => absurd c17 (by decide))
        exact wp_aload_n dX12_says_22 rfl rfl (wp_iload_n dX12_says_23 rfl (wp_iv2 dX12_says_24 k11_512 q_X12_solve (by decide) (xsh X1 sh_187) (by decide) (Nat.le_of_ble_eq_true rfl) g2 (wp_aload_n dX12_says_27 rfl rfl (wp_iv1 dX12_says_28 k11_485 q_X12_begin (by decide) (xsh X2 sh_187) (by decide) (Nat.le_of_ble_eq_true rfl) gb (wp_istore_n dX12_says_31 ⟨Nat.le_of_ble_eq_true rfl, Or.inr rfl⟩ rfl lp))))))
    exact ⟨S', g3, (((F0.mono (fun i k w => by omega)).tt (f1.mono (fun i k w => by omega))).tt (f2.mono (fun i k w => by omega))).tt (z.mono (fun i k w => by omega))⟩
