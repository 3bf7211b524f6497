/-! a PLAY of the reference: peopleIn, many, behind -/
def xpi (f : Bool) (m : Nat) : Nat → Nat
  | 0 => 0
  | h + 1 => if m.testBit h = true then xpi f m h ||| 2 ^ xow f h else xpi f m h
theorem xpi_F (m : Nat) : ∀ h i, (xpi false m h).testBit i = (decide (i < h) && m.testBit i)
  | 0, i => by rw [xpi, Nat.zero_testBit, decide_eq_false (Nat.not_lt_zero i), Bool.false_and]
  | h + 1, i => by
    have e : xow false h = h := rfl
    have ih := xpi_F m h i
    rw [xpi]
    rcases Decidable.em (i = h) with w | w
    · subst w
      rw [decide_eq_true (Nat.lt_succ_self i), Bool.true_and]
      rw [decide_eq_false (Nat.lt_irrefl i), Bool.false_and] at ih
      cases hb : m.testBit i with
      | true => rw [if_pos rfl, Nat.testBit_or, ih, e, Nat.testBit_two_pow, decide_eq_true rfl]; rfl
      | false => rw [if_neg (by decide), ih]
    · have ed : decide (i < h + 1) = decide (i < h) := by
        rcases Nat.lt_or_ge i h with q | q
        · rw [decide_eq_true q, decide_eq_true (by omega)]
        · rw [decide_eq_false (by omega), decide_eq_false (by omega)]
      rw [ed, ← ih]
      split
      · rw [Nat.testBit_or, e, Nat.testBit_two_pow, decide_eq_false (fun q => w q.symm), Bool.or_false]
      · rfl
theorem xpi_T (m : Nat) : ∀ p, xpi true m (2 * p) = xpo m p
  | 0 => rfl
  | p + 1 => by
    have ih := xpi_T m p
    have e1 : xow true (2 * p) = p := by unfold xow; rw [if_pos rfl]; omega
    have e2 : xow true (2 * p + 1) = p := by unfold xow; rw [if_pos rfl]; omega
    have q4 : m / 2 ^ (2 * p) % 4 = m / 2 ^ (2 * p) % 2 + 2 * (m / 2 ^ (2 * p + 1) % 2) := by
      have : m / 2 ^ (2 * p + 1) = m / 2 ^ (2 * p) / 2 := by rw [Nat.pow_succ, Nat.div_div_eq_div_mul]
      omega
    rw [xtbb, xtbb] at q4
    rw [show 2 * (p + 1) = 2 * p + 1 + 1 by omega, xpi, xpi, xpo, ih, e1, e2, q4]
    cases m.testBit (2 * p) <;> cases m.testBit (2 * p + 1) <;> simp [Nat.or_assoc]
theorem xpi_pm {g : xRg} {m : Nat} (hm : m < 2 ^ xgH g) : xpi (xgf g) m (xgH g) = xpm g m := by
  unfold xpm
  unfold xgH at hm ⊢
  cases e : xgf g with
  | true => rw [if_pos rfl, if_pos rfl]; exact xpi_T m _
  | false =>
    rw [e, if_neg (by decide)] at hm
    rw [if_neg (by decide), if_neg (by decide)]
    refine Nat.eq_of_testBit_eq (fun i => ?_)
    rw [xpi_F]
    rcases Nat.lt_or_ge i (xgP g) with w | w
    · rw [decide_eq_true w, Bool.true_and]
    · rw [decide_eq_false (by omega), Bool.false_and, Nat.testBit_lt_two_pow (Nat.lt_of_lt_of_le hm (Nat.pow_le_pow_right (by decide) w))]
theorem xpi_lt {f : Bool} {m h n : Nat} (hn : ∀ i, i < h → xow f i < n) : xpi f m h < 2 ^ n := by
  induction h with
  | zero => exact Nat.two_pow_pos n
  | succ h ih =>
    have i1 := ih (fun i hi => hn i (by omega))
    rw [xpi]
    split
    · exact Nat.or_lt_two_pow i1 (Nat.pow_lt_pow_right (by decide) (hn h (by omega)))
    · exact i1
theorem pi_loop {c : xPx} {m d : Nat} (ho : xzo c) (hm : m < 2 ^ 31) {S : xS} (hX : XC S) (kH : S.2.1 187 60 = nI (xgH (xzg c))) (h8 : S.2.1 208 1 = nI (c.1.1 1)) : ∀ (j h : Nat), h + j = xgH (xzg c) → Wp false (d + 1) 11 cX12_peopleIn (some .int) false 4 [.ref 187, .int (nI m), .int (nI (xpi (xgf (xzg c)) m h)), .int (nI h)] [] S (fun r S' => r = some (.int (nI (xpi (xgf (xzg c)) m (xgH (xzg c))))) ∧ S' = S) := by
  have g24 := ho.g.H
  have hP := ho.g.2.1
  intro j
  induction j with
  | zero =>
    intro h hh
    have hhh : h = xgH (xzg c) := by omega
    subst hhh
    refine wp_iload_n dX12_peopleIn_4 rfl (wp_aload_n dX12_peopleIn_5 rfl rfl (gv11_391 dX12_peopleIn_6 (xsh hX sh_187) kH ?_))
    refine wn_icmp_ge dX12_peopleIn_9 rfl (by omega) (by omega) (fun c9 => ?_) (fun c9 => absurd c9 (by omega))
    exact wp_iload_n dX12_peopleIn_41 rfl (wp_ireturn dX12_peopleIn_42 rfl rfl ⟨rfl, rfl⟩)
  | succ j ih =>
    intro h hh
    have eb := xbitt (h := h) hm
    have nx := ih (h + 1) (by omega)
    rw [xpi] at nx
    have gp := m_personOf (h := h) (d + 0) ho (by omega) hX h8
    have hw := xow_lt (g := xzg c) (h := h) (by omega)
    cases e : m.testBit h with
    | true =>
      rw [e, if_pos rfl] at eb nx
      refine wp_iload_n dX12_peopleIn_4 rfl (wp_aload_n dX12_peopleIn_5 rfl rfl (gv11_391 dX12_peopleIn_6 (xsh hX sh_187) kH ?_))
      refine wn_icmp_ge dX12_peopleIn_9 rfl (by omega) (by omega) (fun c9 => absurd c9 (by omega)) (fun c9 => ?_)
      refine wp_iload_n dX12_peopleIn_12 rfl (wp_iload_n dX12_peopleIn_13 rfl (wv_ishr dX12_peopleIn_14 (xshR hm (by omega)) (wp_iconst (v := nI 1) dX12_peopleIn_15 rfl (wv_iand dX12_peopleIn_16 eb (wp_iconst (v := nI 1) dX12_peopleIn_17 rfl ?_)))))
      refine wn_icmp_ne dX12_peopleIn_18 rfl (by omega) (by omega) (fun c18 => absurd c18 (by omega)) (fun c18 => ?_)
      exact wp_iload_n dX12_peopleIn_21 rfl (wp_iconst (v := nI 1) dX12_peopleIn_22 rfl (wp_aload_n dX12_peopleIn_23 rfl rfl (wp_iload_n dX12_peopleIn_24 rfl (wp_iv2 dX12_peopleIn_25 k11_418 q_X12_personOf (by decide) (xsh hX sh_187) (by decide) (Nat.le_of_ble_eq_true rfl) gp (wv_ishl dX12_peopleIn_28 (xshl1 (by omega)) (wv_ior dX12_peopleIn_29 (fa_or _ _) (wp_goto dX12_peopleIn_30 rfl (wp_istore_n dX12_peopleIn_34 ⟨Nat.le_of_ble_eq_true rfl, Or.inr rfl⟩ rfl (wp_iinc dX12_peopleIn_35 rfl (nI_1 _) ⟨Nat.le_of_ble_eq_true rfl, Or.inr rfl⟩ rfl (wp_goto dX12_peopleIn_38 rfl nx))))))))))
    | false =>
      rw [e, if_neg (by decide)] at eb nx
      refine wp_iload_n dX12_peopleIn_4 rfl (wp_aload_n dX12_peopleIn_5 rfl rfl (gv11_391 dX12_peopleIn_6 (xsh hX sh_187) kH ?_))
      refine wn_icmp_ge dX12_peopleIn_9 rfl (by omega) (by omega) (fun c9 => absurd c9 (by omega)) (fun c9 => ?_)
      refine wp_iload_n dX12_peopleIn_12 rfl (wp_iload_n dX12_peopleIn_13 rfl (wv_ishr dX12_peopleIn_14 (xshR hm (by omega)) (wp_iconst (v := nI 1) dX12_peopleIn_15 rfl (wv_iand dX12_peopleIn_16 eb (wp_iconst (v := nI 1) dX12_peopleIn_17 rfl ?_)))))
      refine wn_icmp_ne dX12_peopleIn_18 rfl (by omega) (by omega) (fun c18 => ?_) (fun c18 => absurd c18 (by omega))
      exact wp_iload_n dX12_peopleIn_33 rfl (wp_istore_n dX12_peopleIn_34 ⟨Nat.le_of_ble_eq_true rfl, Or.inr rfl⟩ rfl (wp_iinc dX12_peopleIn_35 rfl (nI_1 _) ⟨Nat.le_of_ble_eq_true rfl, Or.inr rfl⟩ rfl (wp_goto dX12_peopleIn_38 rfl nx)))
theorem m_peopleIn {c : xPx} {m : Nat} (d : Nat) (ho : xzo c) (hm : m < 2 ^ xgH (xzg c)) {S : xS} (hX : XC S) (kH : S.2.1 187 60 = nI (xgH (xzg c))) (h8 : S.2.1 208 1 = nI (c.1.1 1)) : xcall false (d + 1) j_X12_peopleIn [.ref 187, .int (nI m)] S (some (.int (nI (xpm (xzg c) m)))) S := by
  have h24 := x24 ho.g.H.2.1 hm
  have lp := pi_loop (d := d) ho (show m < 2 ^ 31 by omega) hX kH h8 (xgH (xzg c)) 0 (Nat.zero_add _)
  rw [xpi_pm hm] at lp
  refine xcall_intro (ls := [.ref 187, .int (nI m), .float 0, .float 0]) q_X12_peopleIn (by decide) rfl (Nat.le_of_ble_eq_true rfl) rfl ?_
  exact wp_iconst (v := nI 0) dX12_peopleIn_0 rfl (wp_istore_n dX12_peopleIn_1 ⟨Nat.le_of_ble_eq_true rfl, Or.inr rfl⟩ rfl (wp_iconst (v := nI 0) dX12_peopleIn_2 rfl (wp_istore_n dX12_peopleIn_3 ⟨Nat.le_of_ble_eq_true rfl, Or.inr rfl⟩ rfl lp)))
theorem mny_loop {b d : Nat} (hb : b < 2 ^ 31) {S : xS} : ∀ (j h : Nat), h + j = 24 → Wp false d 11 cX12_many (some .int) false 4 [.int (nI b), .int (nI (xcb b h)), .int (nI h)] [] S (fun r S' => r = some (.int (nI (xcb b 24))) ∧ S' = S) := by
  intro j
  induction j with
  | zero =>
    intro h hh
    have hhh : h = 24 := by omega
    subst hhh
    refine wp_iload_n dX12_many_4 rfl (wp_bipush (v := nI 24) dX12_many_5 rfl ?_)
    refine wn_icmp_ge dX12_many_7 rfl (by omega) (by omega) (fun c7 => ?_) (fun c7 => absurd c7 (by omega))
    exact wp_iload_n dX12_many_24 rfl (wp_ireturn dX12_many_25 rfl rfl ⟨rfl, rfl⟩)
  | succ j ih =>
    intro h hh
    have eb := xbitt (h := h) hb
    have nx := ih (h + 1) (by omega)
    rw [xcb] at nx
    refine wp_iload_n dX12_many_4 rfl (wp_bipush (v := nI 24) dX12_many_5 rfl ?_)
    refine wn_icmp_ge dX12_many_7 rfl (by omega) (by omega) (fun c7 => absurd c7 (by omega)) (fun c7 => ?_)
    exact wp_iload_n dX12_many_10 rfl (wp_iload_n dX12_many_11 rfl (wp_iload_n dX12_many_12 rfl (wv_ishr dX12_many_13 (xshR hb (by omega)) (wp_iconst (v := nI 1) dX12_many_14 rfl (wv_iand dX12_many_15 eb (wv_iadd dX12_many_16 (nI_add _ _) (wp_istore_n dX12_many_17 ⟨Nat.le_of_ble_eq_true rfl, Or.inr rfl⟩ rfl (wp_iinc dX12_many_18 rfl (nI_1 _) ⟨Nat.le_of_ble_eq_true rfl, Or.inr rfl⟩ rfl (wp_goto dX12_many_21 rfl nx)))))))))
theorem m_many {b : Nat} (d : Nat) (hb : b < 2 ^ 31) {S : xS} : xcall false d j_X12_many [.int (nI b)] S (some (.int (nI (xcb b 24)))) S := by
  refine xcall_intro (ls := [.int (nI b), .float 0, .float 0]) q_X12_many (by decide) rfl (Nat.le_of_ble_eq_true rfl) rfl ?_
  exact wp_iconst (v := nI 0) dX12_many_0 rfl (wp_istore_n dX12_many_1 ⟨Nat.le_of_ble_eq_true rfl, Or.inr rfl⟩ rfl (wp_iconst (v := nI 0) dX12_many_2 rfl (wp_istore_n dX12_many_3 ⟨Nat.le_of_ble_eq_true rfl, Or.inr rfl⟩ rfl (mny_loop hb 24 0 (Nat.zero_add _)))))
theorem bh_loop {m H z d : Nat} {b : Bool} {x2 : Value} (h24 : H ≤ 24) (hm : m < 2 ^ 31) {S : xS} (hX : XC S) (kH : S.2.1 187 60 = nI H) : ∀ (j h : Nat), h < H → xlu m H b j (xsdd H b h) ≠ [] → Wp false d 11 cX12_behind (some .int) false 15 [.ref 187, .int (nI m), x2, .int (xwy b), .int (nI (xsdd H b h))] [] S (fun r S' => r = some (.int (nI (xfi m H b z j h))) ∧ S' = S) := by
  intro j
  induction j with
  | zero => intro h hh hn; exact absurd rfl hn
  | succ j ih =>
    intro h hh hn
    have hlt := xsdd_lt b hh
    have eb := xbitt (h := xsdd H b h) hm
    obtain ⟨w, ew, er⟩ := xwy_step b hlt h24
    rw [xlu] at hn
    rw [xfi]
    cases e : m.testBit (xsdd H b h) with
    | true =>
      rw [e, if_pos rfl] at eb
      rw [if_pos rfl]
      refine wp_iload_n dX12_behind_15 rfl (wp_iload dX12_behind_16 rfl (wv_ishr dX12_behind_18 (xshR hm (by omega)) (wp_iconst (v := nI 1) dX12_behind_19 rfl (wv_iand dX12_behind_20 eb ?_))))
      refine wn_if_ne dX12_behind_21 rfl (by omega) (fun c21 => ?_) (fun c21 => absurd c21 (by omega))
      exact wp_iload dX12_behind_43 rfl (wp_ireturn dX12_behind_45 rfl rfl ⟨rfl, rfl⟩)
    | false =>
      rw [e, if_neg (by decide)] at eb
      rw [e, if_neg (by decide), List.nil_append] at hn
      rw [if_neg (by decide)]
      have nx := ih (xsdd H b h) hlt hn
      refine wp_iload_n dX12_behind_15 rfl (wp_iload dX12_behind_16 rfl (wv_ishr dX12_behind_18 (xshR hm (by omega)) (wp_iconst (v := nI 1) dX12_behind_19 rfl (wv_iand dX12_behind_20 eb ?_))))
      refine wn_if_ne dX12_behind_21 rfl (by omega) (fun c21 => absurd c21 (by omega)) (fun c21 => ?_)
      exact wp_iload dX12_behind_24 rfl (wp_iload_n dX12_behind_26 rfl (wv_iadd dX12_behind_27 rfl (wp_aload_n dX12_behind_28 rfl rfl (gv11_391 dX12_behind_29 (xsh hX sh_187) kH (wv_iadd dX12_behind_32 ew (wp_aload_n dX12_behind_33 rfl rfl (gv11_391 dX12_behind_34 (xsh hX sh_187) kH (wv_irem dX12_behind_37 (nI_n0 (by omega) (by omega)) er (wp_istore dX12_behind_38 ⟨Nat.le_of_ble_eq_true rfl, Or.inr rfl⟩ rfl (wp_goto dX12_behind_40 rfl nx))))))))))
theorem m_behind {m H h : Nat} {b : Bool} (d : Nat) (h24 : H ≤ 24) (hm : m < 2 ^ H) (h0 : 0 < m) (hh : h < H) {S : xS} (hX : XC S) (kH : S.2.1 187 60 = nI H) : xcall false d j_X12_behind [.ref 187, .int (nI m), .int (nI h), .int (xwy b)] S (some (.int (nI (xfi m H b h H h)))) S := by
  have hlt := xsdd_lt b hh
  obtain ⟨w, ew, er⟩ := xwy_step b hh h24
  obtain ⟨x, hx, hb⟩ := xtb_ex hm h0
  have h31 := x24 h24 hm
  have mem := xlu_mem b hx hb hlt
  have lp := bh_loop (z := h) (d := d) (x2 := .int (nI h)) h24 (show m < 2 ^ 31 by omega) hX kH H h hh (fun q => by rw [q] at mem; cases mem)
  refine xcall_intro (ls := [.ref 187, .int (nI m), .int (nI h), .int (xwy b), .float 0]) q_X12_behind (by decide) rfl (Nat.le_of_ble_eq_true rfl) rfl ?_
  exact wp_iload_n dX12_behind_0 rfl (wp_iload_n dX12_behind_1 rfl (wv_iadd dX12_behind_2 rfl (wp_aload_n dX12_behind_3 rfl rfl (gv11_391 dX12_behind_4 (xsh hX sh_187) kH (wv_iadd dX12_behind_7 ew (wp_aload_n dX12_behind_8 rfl rfl (gv11_391 dX12_behind_9 (xsh hX sh_187) kH (wv_irem dX12_behind_12 (nI_n0 (by omega) (by omega)) er (wp_istore dX12_behind_13 ⟨Nat.le_of_ble_eq_true rfl, Or.inr rfl⟩ rfl lp)))))))))
