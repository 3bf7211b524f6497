/-! records of the reference: isRecord, holds, explain -/
theorem ir_ok {n b d : Nat} {t : Nat → Nat} (hb : b ≤ 128) {S : xS} (hX : XC S) (hT : xTn S n t b) (k30 : S.2.1 187 30 = nI b) : ∀ (j i : Nat), i + j = n → Wp false d 11 cX12_isRecord (some .boolean) false 13 [.ref 187, .int (nI i)] [] S (fun r S' => r = some (.int (xB true)) ∧ S' = S) := by
  obtain ⟨h260, k3, h⟩ := hT
  intro j
  induction j with
  | zero =>
    intro i hi
    have hii : i = n := by omega
    subst hii
    refine wp_iload_n dX12_isRecord_13 rfl (wp_aload_n dX12_isRecord_14 rfl rfl (gv11_18 dX12_isRecord_15 (xsh hX sh_187) k3 ?_))
    refine wn_icmp_ge dX12_isRecord_18 rfl (by omega) (by omega) (fun c18 => ?_) (fun c18 => absurd c18 (by omega))
    exact wp_iconst (v := nI 1) dX12_isRecord_51 rfl (wb_ret dX12_isRecord_52 rfl rfl ⟨rfl, rfl⟩)
  | succ j ih =>
    intro i hi
    have nx := ih (i + 1) (by omega)
    obtain ⟨h1, h2⟩ := h i (by omega)
    refine wp_iload_n dX12_isRecord_13 rfl (wp_aload_n dX12_isRecord_14 rfl rfl (gv11_18 dX12_isRecord_15 (xsh hX sh_187) k3 ?_))
    refine wn_icmp_ge dX12_isRecord_18 rfl (by omega) (by omega) (fun c18 => absurd c18 (by omega)) (fun c18 => ?_)
    refine wp_aload_n dX12_isRecord_21 rfl rfl (g11_14 dX12_isRecord_22 (xsh hX sh_187) (xrr hX r187_1) (wp_iload_n dX12_isRecord_25 rfl (wn_baload dX12_isRecord_26 (xsh hX sh_188) (Or.inl rfl) (by omega) (by decide) h2 ?_)))
    refine wn_if_lt dX12_isRecord_27 rfl (by omega) ?_
    refine wp_aload_n dX12_isRecord_30 rfl rfl (g11_14 dX12_isRecord_31 (xsh hX sh_187) (xrr hX r187_1) (wp_iload_n dX12_isRecord_34 rfl (wn_baload dX12_isRecord_35 (xsh hX sh_188) (Or.inl rfl) (by omega) (by decide) h2 (wp_aload_n dX12_isRecord_36 rfl rfl (gv11_183 dX12_isRecord_37 (xsh hX sh_187) k30 ?_)))))
    refine wn_icmp_lt dX12_isRecord_40 rfl (by omega) (by omega) (fun c40 => ?_) (fun c40 => absurd c40 (by omega))
    exact wp_iinc dX12_isRecord_45 rfl (nI_1 _) ⟨Nat.le_of_ble_eq_true rfl, Or.inr rfl⟩ rfl (wp_goto dX12_isRecord_48 rfl nx)
theorem ir_no {n b d : Nat} {t : Nat → Nat} (hb : b ≤ 128) {S : xS} (hX : XC S) (hT : xTr S n t) (k3 : S.2.1 187 3 = nI n) (k30 : S.2.1 187 30 = nI b) : ∀ (j i : Nat), i + j = n → (¬ ∀ k, i ≤ k → k < n → t k < b) → Wp false d 11 cX12_isRecord (some .boolean) false 13 [.ref 187, .int (nI i)] [] S (fun r S' => r = some (.int (xB false)) ∧ S' = S) := by
  obtain ⟨h260, h⟩ := hT
  intro j
  induction j with
  | zero =>
    intro i hi hn
    exact absurd (fun k h1 h2 => absurd h2 (by omega)) hn
  | succ j ih =>
    intro i hi hn
    obtain ⟨h1, h2⟩ := h i (by omega)
    rcases Nat.lt_or_ge (t i) b with w | w
    · have nx := ih (i + 1) (by omega) (fun q => hn (fun k h1 h2 => by
        rcases Nat.eq_or_lt_of_le h1 with e | e
        · rw [← e]; exact w
        · exact q k e h2))
      rw [xby_lo _ (by omega)] at h2
      refine wp_iload_n dX12_isRecord_13 rfl (wp_aload_n dX12_isRecord_14 rfl rfl (gv11_18 dX12_isRecord_15 (xsh hX sh_187) k3 ?_))
      refine wn_icmp_ge dX12_isRecord_18 rfl (by omega) (by omega) (fun c18 => absurd c18 (by omega)) (fun c18 => ?_)
      refine wp_aload_n dX12_isRecord_21 rfl rfl (g11_14 dX12_isRecord_22 (xsh hX sh_187) (xrr hX r187_1) (wp_iload_n dX12_isRecord_25 rfl (wn_baload dX12_isRecord_26 (xsh hX sh_188) (Or.inl rfl) (by omega) (by decide) h2 ?_)))
      refine wn_if_lt dX12_isRecord_27 rfl (by omega) ?_
      refine wp_aload_n dX12_isRecord_30 rfl rfl (g11_14 dX12_isRecord_31 (xsh hX sh_187) (xrr hX r187_1) (wp_iload_n dX12_isRecord_34 rfl (wn_baload dX12_isRecord_35 (xsh hX sh_188) (Or.inl rfl) (by omega) (by decide) h2 (wp_aload_n dX12_isRecord_36 rfl rfl (gv11_183 dX12_isRecord_37 (xsh hX sh_187) k30 ?_)))))
      refine wn_icmp_lt dX12_isRecord_40 rfl (by omega) (by omega) (fun c40 => ?_) (fun c40 => absurd c40 (by omega))
      exact wp_iinc dX12_isRecord_45 rfl (nI_1 _) ⟨Nat.le_of_ble_eq_true rfl, Or.inr rfl⟩ rfl (wp_goto dX12_isRecord_48 rfl nx)
    · rcases Nat.lt_or_ge (t i) 128 with w2 | w2
      · rw [xby_lo _ w2] at h2
        refine wp_iload_n dX12_isRecord_13 rfl (wp_aload_n dX12_isRecord_14 rfl rfl (gv11_18 dX12_isRecord_15 (xsh hX sh_187) k3 ?_))
        refine wn_icmp_ge dX12_isRecord_18 rfl (by omega) (by omega) (fun c18 => absurd c18 (by omega)) (fun c18 => ?_)
        refine wp_aload_n dX12_isRecord_21 rfl rfl (g11_14 dX12_isRecord_22 (xsh hX sh_187) (xrr hX r187_1) (wp_iload_n dX12_isRecord_25 rfl (wn_baload dX12_isRecord_26 (xsh hX sh_188) (Or.inl rfl) (by omega) (by decide) h2 ?_)))
        refine wn_if_lt dX12_isRecord_27 rfl (by omega) ?_
        refine wp_aload_n dX12_isRecord_30 rfl rfl (g11_14 dX12_isRecord_31 (xsh hX sh_187) (xrr hX r187_1) (wp_iload_n dX12_isRecord_34 rfl (wn_baload dX12_isRecord_35 (xsh hX sh_188) (Or.inl rfl) (by omega) (by decide) h2 (wp_aload_n dX12_isRecord_36 rfl rfl (gv11_183 dX12_isRecord_37 (xsh hX sh_187) k30 ?_)))))
        refine wn_icmp_lt dX12_isRecord_40 rfl (by omega) (by omega) (fun c40 => absurd c40 (by omega)) (fun c40 => ?_)
        exact wp_iconst (v := nI 0) dX12_isRecord_43 rfl (wb_ret dX12_isRecord_44 rfl rfl ⟨rfl, rfl⟩)
      · have hneg := xby_lt0 _ h1 w2
        refine wp_iload_n dX12_isRecord_13 rfl (wp_aload_n dX12_isRecord_14 rfl rfl (gv11_18 dX12_isRecord_15 (xsh hX sh_187) k3 ?_))
        refine wn_icmp_ge dX12_isRecord_18 rfl (by omega) (by omega) (fun c18 => absurd c18 (by omega)) (fun c18 => ?_)
        refine wp_aload_n dX12_isRecord_21 rfl rfl (g11_14 dX12_isRecord_22 (xsh hX sh_187) (xrr hX r187_1) (wp_iload_n dX12_isRecord_25 rfl (wn_baload dX12_isRecord_26 (xsh hX sh_188) (Or.inl rfl) (by omega) (by decide) h2 ?_)))
        refine wp_if_lt dX12_isRecord_27 rfl (fun c27 => ?_) (fun c27 => absurd c27 (not_not_intro hneg))
        exact wp_iconst (v := nI 0) dX12_isRecord_43 rfl (wb_ret dX12_isRecord_44 rfl rfl ⟨rfl, rfl⟩)
theorem m_isRecord {n b : Nat} {t : Nat → Nat} (d : Nat) (hb : b ≤ 128) {S : xS} (hX : XC S) (hT : xTr S n t) (k3 : S.2.1 187 3 = nI n) (k30 : S.2.1 187 30 = nI b) : xcall false d j_X12_isRecord [.ref 187] S (some (.int (xB (decide (n ≤ 24 ∧ ∀ k, k < n → t k < b))))) S := by
  have h260 := hT.1
  rcases Nat.lt_or_ge 24 n with w | w
  · rw [decide_eq_false (fun q => by omega)]
    refine xcall_intro (ls := [.ref 187, .float 0]) q_X12_isRecord (by decide) rfl (Nat.le_of_ble_eq_true rfl) rfl ?_
    refine wp_aload_n dX12_isRecord_0 rfl rfl (gv11_18 dX12_isRecord_1 (xsh hX sh_187) k3 (wp_bipush (v := nI 24) dX12_isRecord_4 rfl ?_))
    refine wn_icmp_le dX12_isRecord_6 rfl (by omega) (by omega) (fun c6 => absurd c6 (by omega)) (fun c6 => ?_)
    exact wp_iconst (v := nI 0) dX12_isRecord_9 rfl (wb_ret dX12_isRecord_10 rfl rfl ⟨rfl, rfl⟩)
  · rcases Decidable.em (∀ k, k < n → t k < b) with w2 | w2
    · rw [decide_eq_true ⟨w, w2⟩]
      have lp := ir_ok (d := d) hb hX (hT.n hb k3 w2) k30 n 0 (Nat.zero_add _)
      refine xcall_intro (ls := [.ref 187, .float 0]) q_X12_isRecord (by decide) rfl (Nat.le_of_ble_eq_true rfl) rfl ?_
      refine wp_aload_n dX12_isRecord_0 rfl rfl (gv11_18 dX12_isRecord_1 (xsh hX sh_187) k3 (wp_bipush (v := nI 24) dX12_isRecord_4 rfl ?_))
      refine wn_icmp_le dX12_isRecord_6 rfl (by omega) (by omega) (fun c6 => ?_) (fun c6 => absurd c6 (by omega))
      exact wp_iconst (v := nI 0) dX12_isRecord_11 rfl (wp_istore_n dX12_isRecord_12 ⟨Nat.le_of_ble_eq_true rfl, Or.inr rfl⟩ rfl lp)
    · rw [decide_eq_false (fun q => w2 q.2)]
      have lp := ir_no (d := d) hb hX hT k3 k30 n 0 (Nat.zero_add _) (fun q => w2 (fun k hk => q k (Nat.zero_le _) hk))
      refine xcall_intro (ls := [.ref 187, .float 0]) q_X12_isRecord (by decide) rfl (Nat.le_of_ble_eq_true rfl) rfl ?_
      refine wp_aload_n dX12_isRecord_0 rfl rfl (gv11_18 dX12_isRecord_1 (xsh hX sh_187) k3 (wp_bipush (v := nI 24) dX12_isRecord_4 rfl ?_))
      refine wn_icmp_le dX12_isRecord_6 rfl (by omega) (by omega) (fun c6 => ?_) (fun c6 => absurd c6 (by omega))
      exact wp_iconst (v := nI 0) dX12_isRecord_11 rfl (wp_istore_n dX12_isRecord_12 ⟨Nat.le_of_ble_eq_true rfl, Or.inr rfl⟩ rfl lp)
theorem m_holds_no {c : xPx} {n : Nat} {t : Nat → Nat} (d : Nat) (ho : xzo c) {S : xS} (h : xMS S c) (hn : S.2.1 187 2 = nI n) (hB : xTr S n t) (hno : ¬ (xzal c = true ∧ xgH (xzg c) ≤ 8 ∧ n ≤ 24 ∧ ∀ k, k < n → t k < xgP (xzg c))) : ∃ S', xcall false (d + 6) j_X12_holds [.ref 187] S (some (.int (-1))) S' ∧ xFl (fun i k => (i = 187 ∧ (k = 0 ∨ k = 2 ∨ k = 3 ∨ k = 4 ∨ (58 ≤ k ∧ k ≤ 70))) ∨ (212 ≤ i ∧ i ≤ 218) ∨ i = 228 ∨ i = 229) S S' ∧ S'.2.1 187 2 = nI 0 := by
  have hX := h.1
  have F0 : xFl (fun i k => i = 187 ∧ (k = 0 ∨ k = 2 ∨ k = 3 ∨ k = 4)) S (xSI (xSI (xSI (xSI S 187 0 (nI 0)) 187 3 (nI n)) 187 2 (nI 0)) 187 4 (nI 0)) := ((((xFl.rf S).SI ⟨rfl, by decide⟩).SI ⟨rfl, by decide⟩).SI ⟨rfl, by decide⟩).SI ⟨rfl, by decide⟩
  have X0 := F0.XC hX
  have gt := m_taken (S := xSI S 187 0 (nI 0)) (d + 5) (((xFl.rf S).SI (P := fun i k => i = 187 ∧ k = 0) ⟨rfl, rfl⟩).XC hX) (xi hn (Or.inr (by decide)))
  have k3 : (xSI (xSI (xSI (xSI S 187 0 (nI 0)) 187 3 (nI n)) 187 2 (nI 0)) 187 4 (nI 0)).2.1 187 3 = nI n := xi (xi (xI_same _ _ _ _) (Or.inr (by decide))) (Or.inr (by decide))
  have k2 : (xSI (xSI (xSI (xSI S 187 0 (nI 0)) 187 3 (nI n)) 187 2 (nI 0)) 187 4 (nI 0)).2.1 187 2 = nI 0 := xi (xI_same _ _ _ _) (Or.inr (by decide))
  have B0 := hB.fr F0 (fun k h => by omega)
  have h0 := h.fr F0 (fun i q w => by omega)
  have hP : c.2.2.1.length ≤ 12 := ho.g.2.1
  have h260 := hB.1
  obtain ⟨S1, g1, f1, z1⟩ := m_prepareYardS d ho h0
  have X1 := f1.XC X0
  refine ⟨S1, ?_, (F0.mono (fun i k w => by omega)).tt (f1.mono (fun i k w => by omega)), f1.i k2 (by omega)⟩
  cases hal : xzal c with
  | false =>
    rw [hal] at g1
    refine xcall_intro (ls := [.ref 187]) q_X12_holds (by decide) rfl (Nat.le_of_ble_eq_true rfl) rfl ?_
    refine wp_aload_n dX12_holds_0 rfl rfl (wp_iconst (v := nI 0) dX12_holds_1 rfl (p11_1 dX12_holds_2 (xsh hX sh_187) (wp_aload_n dX12_holds_5 rfl rfl (wp_iv1 dX12_holds_6 k11_69 q_X12_taken (by decide) (xsh hX sh_187) (by decide) (Nat.le_of_ble_eq_true rfl) gt (wp_aload_n dX12_holds_9 rfl rfl (wp_iv1 dX12_holds_10 k11_452 q_X12_prepareYard (by decide) (xsh X0 sh_187) (by decide) (Nat.le_of_ble_eq_true rfl) g1 ?_))))))
    refine wb_if_eq dX12_holds_13 rfl (fun c13 => ?_) (fun c13 => absurd c13 (by decide))
    exact wp_iconst (v := -1) dX12_holds_39 rfl (wp_ireturn dX12_holds_40 rfl rfl ⟨rfl, rfl⟩)
  | true =>
    rw [hal] at g1
    have D1 := z1 hal
    have k60 := D1.1
    have g24 := ho.g.H
    rcases Nat.lt_or_ge 8 (xgH (xzg c)) with w | w
    · skip
      refine xcall_intro (ls := [.ref 187]) q_X12_holds (by decide) rfl (Nat.le_of_ble_eq_true rfl) rfl ?_
      refine wp_aload_n dX12_holds_0 rfl rfl (wp_iconst (v := nI 0) dX12_holds_1 rfl (p11_1 dX12_holds_2 (xsh hX sh_187) (wp_aload_n dX12_holds_5 rfl rfl (wp_iv1 dX12_holds_6 k11_69 q_X12_taken (by decide) (xsh hX sh_187) (by decide) (Nat.le_of_ble_eq_true rfl) gt (wp_aload_n dX12_holds_9 rfl rfl (wp_iv1 dX12_holds_10 k11_452 q_X12_prepareYard (by decide) (xsh X0 sh_187) (by decide) (Nat.le_of_ble_eq_true rfl) g1 ?_))))))
      refine wb_if_eq dX12_holds_13 rfl (fun c13 => absurd c13 (by decide)) (fun c13 => ?_)
      refine wp_aload_n dX12_holds_16 rfl rfl (gv11_391 dX12_holds_17 (xsh X1 sh_187) k60 (wp_bipush (v := nI 8) dX12_holds_20 rfl ?_))
      refine wn_icmp_gt dX12_holds_22 rfl (by omega) (by omega) (fun c22 => ?_) (fun c22 => absurd c22 (by omega))
      exact wp_iconst (v := -1) dX12_holds_39 rfl (wp_ireturn dX12_holds_40 rfl rfl ⟨rfl, rfl⟩)
    · have gr := m_isRecord (b := c.2.2.1.length) (d + 5) (by omega) X1 (B0.fr f1 (fun k h => by omega)) (f1.i k3 (by omega)) D1.2.2.2.2.2.2.2.2.1
      rw [decide_eq_false (fun q => hno ⟨hal, w, q.1, q.2⟩)] at gr
      refine xcall_intro (ls := [.ref 187]) q_X12_holds (by decide) rfl (Nat.le_of_ble_eq_true rfl) rfl ?_
      refine wp_aload_n dX12_holds_0 rfl rfl (wp_iconst (v := nI 0) dX12_holds_1 rfl (p11_1 dX12_holds_2 (xsh hX sh_187) (wp_aload_n dX12_holds_5 rfl rfl (wp_iv1 dX12_holds_6 k11_69 q_X12_taken (by decide) (xsh hX sh_187) (by decide) (Nat.le_of_ble_eq_true rfl) gt (wp_aload_n dX12_holds_9 rfl rfl (wp_iv1 dX12_holds_10 k11_452 q_X12_prepareYard (by decide) (xsh X0 sh_187) (by decide) (Nat.le_of_ble_eq_true rfl) g1 ?_))))))
      refine wb_if_eq dX12_holds_13 rfl (fun c13 => absurd c13 (by decide)) (fun c13 => ?_)
      refine wp_aload_n dX12_holds_16 rfl rfl (gv11_391 dX12_holds_17 (xsh X1 sh_187) k60 (wp_bipush (v := nI 8) dX12_holds_20 rfl ?_))
      refine wn_icmp_gt dX12_holds_22 rfl (by omega) (by omega) (fun c22 => absurd c22 (by omega)) (fun c22 => ?_)
      refine wp_aload_n dX12_holds_25 rfl rfl (wp_iv1 dX12_holds_26 k11_551 q_X12_isRecord (by decide) (xsh X1 sh_187) (by decide) (Nat.le_of_ble_eq_true rfl) gr ?_)
      refine wb_if_eq dX12_holds_29 rfl (fun c29 => ?_) (fun c29 => absurd c29 (by decide))
      exact wp_iconst (v := -1) dX12_holds_39 rfl (wp_ireturn dX12_holds_40 rfl rfl ⟨rfl, rfl⟩)
theorem m_holds {c : xPx} {n : Nat} {t : Nat → Nat} (d : Nat) (ho : xzo c) {S : xS} (h : xMS S c) (hn : S.2.1 187 2 = nI n) (hB : xTr S n t) (hal : xzal c = true) (h8 : xgH (xzg c) ≤ 8) (h24 : n ≤ 24) (hlt : ∀ k, k < n → t k < xgP (xzg c)) : ∃ v S', xcall false (d + 6) j_X12_holds [.ref 187] S (some (.int (nI v))) S' ∧ xFl (fun i k => (i = 187 ∧ (k = 0 ∨ k = 2 ∨ k = 3 ∨ k = 4 ∨ (58 ≤ k ∧ k ≤ 70))) ∨ (212 ≤ i ∧ i ≤ 218) ∨ i = 228 ∨ i = 229) S S' ∧ S'.2.1 187 2 = nI 0 ∧ v ≤ n ∧ xHT c t n v := by
  have hX := h.1
  have F0 : xFl (fun i k => i = 187 ∧ (k = 0 ∨ k = 2 ∨ k = 3 ∨ k = 4)) S (xSI (xSI (xSI (xSI S 187 0 (nI 0)) 187 3 (nI n)) 187 2 (nI 0)) 187 4 (nI 0)) := ((((xFl.rf S).SI ⟨rfl, by decide⟩).SI ⟨rfl, by decide⟩).SI ⟨rfl, by decide⟩).SI ⟨rfl, by decide⟩
  have X0 := F0.XC hX
  have gt := m_taken (S := xSI S 187 0 (nI 0)) (d + 5) (((xFl.rf S).SI (P := fun i k => i = 187 ∧ k = 0) ⟨rfl, rfl⟩).XC hX) (xi hn (Or.inr (by decide)))
  have k3 : (xSI (xSI (xSI (xSI S 187 0 (nI 0)) 187 3 (nI n)) 187 2 (nI 0)) 187 4 (nI 0)).2.1 187 3 = nI n := xi (xi (xI_same _ _ _ _) (Or.inr (by decide))) (Or.inr (by decide))
  have k2 : (xSI (xSI (xSI (xSI S 187 0 (nI 0)) 187 3 (nI n)) 187 2 (nI 0)) 187 4 (nI 0)).2.1 187 2 = nI 0 := xi (xI_same _ _ _ _) (Or.inr (by decide))
  have B0 := hB.fr F0 (fun k h => by omega)
  have h0 := h.fr F0 (fun i q w => by omega)
  have hP : c.2.2.1.length ≤ 12 := ho.g.2.1
  have h260 := hB.1
  obtain ⟨S1, g1, f1, z1⟩ := m_prepareYardS d ho h0
  have X1 := f1.XC X0
  rw [hal] at g1
  have D1 := z1 hal
  have k60 := D1.1
  have g24 := ho.g.H
  have gr := m_isRecord (b := c.2.2.1.length) (d + 5) (by omega) X1 (B0.fr f1 (fun k h => by omega)) (f1.i k3 (by omega)) D1.2.2.2.2.2.2.2.2.1
  rw [decide_eq_true ⟨h24, hlt⟩] at gr
  obtain ⟨v, S2, g2, f2, hv, hht⟩ := m_holdsTo (d + 1) ho hal h8 X1 D1 ((B0.fr f1 (fun k h => by omega)).n (show xgP (xzg c) ≤ 128 from (by have : xgP (xzg c) ≤ 12 := hP; omega)) (f1.i k3 (by omega)) hlt)
  refine ⟨v, S2, ?_, ((F0.mono (fun i k w => by omega)).tt (f1.mono (fun i k w => by omega))).tt (f2.mono (fun i k w => by omega)), f2.i (f1.i k2 (by omega)) (by omega), hv, hht⟩
  refine xcall_intro (ls := [.ref 187]) q_X12_holds (by decide) rfl (Nat.le_of_ble_eq_true rfl) rfl ?_
  refine wp_aload_n dX12_holds_0 rfl rfl (wp_iconst (v := nI 0) dX12_holds_1 rfl (p11_1 dX12_holds_2 (xsh hX sh_187) (wp_aload_n dX12_holds_5 rfl rfl (wp_iv1 dX12_holds_6 k11_69 q_X12_taken (by decide) (xsh hX sh_187) (by decide) (Nat.le_of_ble_eq_true rfl) gt (wp_aload_n dX12_holds_9 rfl rfl (wp_iv1 dX12_holds_10 k11_452 q_X12_prepareYard (by decide) (xsh X0 sh_187) (by decide) (Nat.le_of_ble_eq_true rfl) g1 ?_))))))
  refine wb_if_eq dX12_holds_13 rfl (fun c13 => absurd c13 (by decide)) (fun c13 => ?_)
  refine wp_aload_n dX12_holds_16 rfl rfl (gv11_391 dX12_holds_17 (xsh X1 sh_187) k60 (wp_bipush (v := nI 8) dX12_holds_20 rfl ?_))
  refine wn_icmp_gt dX12_holds_22 rfl (by omega) (by omega) (fun c22 => absurd c22 (by omega)) (fun c22 => ?_)
  refine wp_aload_n dX12_holds_25 rfl rfl (wp_iv1 dX12_holds_26 k11_551 q_X12_isRecord (by decide) (xsh X1 sh_187) (by decide) (Nat.le_of_ble_eq_true rfl) gr ?_)
  refine wb_if_eq dX12_holds_29 rfl (fun c29 => absurd c29 (by decide)) (fun c29 => ?_)
  exact wp_aload_n dX12_holds_32 rfl rfl (wp_iv1 dX12_holds_33 k11_554 q_X12_holdsTo (by decide) (xsh X1 sh_187) (by decide) (Nat.le_of_ble_eq_true rfl) g2 (wp_goto dX12_holds_36 rfl (wp_ireturn dX12_holds_40 rfl rfl ⟨rfl, rfl⟩)))
/-- with one RHYME alone -/
def xone (c : xPx) (s : Nat) : xPx := ((c.1.1, [s]), c.2)
theorem xone_ok {c : xPx} {s : Nat} (h : xzo c) (hs : s < 6) : xzo (xone c s) := ⟨⟨h.1.1, h.1.2.1, Nat.le_refl _, (show 1 ≤ 4 by decide), fun x hx => by rw [List.mem_singleton.mp hx]; exact hs⟩, h.2⟩
theorem xone_al {c : xPx} {s : Nat} {x : Nat × (Nat → Nat) × List xLn} (h : c.2.2.2.2 s = some x) : xzal (xone c s) = true := by
  show ([s].all (fun s => (c.2.2.2.2 s).isSome)) = true
  rw [List.all_cons, h]
  rfl
def xbi (p : Nat → Bool) : Nat → Nat
  | 0 => 0
  | s + 1 => if p s = true then xbi p s ||| 2 ^ s else xbi p s
theorem xbi_cg {p q : Nat → Bool} : ∀ n, (∀ s, s < n → p s = q s) → xbi p n = xbi q n
  | 0, _ => rfl
  | n + 1, h => by rw [xbi, xbi, xbi_cg n (fun s hs => h s (by omega)), h n (by omega)]
theorem xbi_lt (p : Nat → Bool) : ∀ n, xbi p n < 2 ^ n
  | 0 => by rw [xbi]; decide
  | n + 1 => by
    have ih := xbi_lt p n
    have h2 : 2 ^ (n + 1) = 2 * 2 ^ n := Nat.pow_succ'
    rw [xbi]
    split
    · exact Nat.or_lt_two_pow (by omega) (Nat.pow_lt_pow_right (by decide) (Nat.lt_succ_self n))
    · omega
theorem ex_one {c : xPx} {s : Nat} (d : Nat) (ho : xzo c) (hs : s < 6) {S : xS} (h : xMS S c) {x : Nat × (Nat → Nat) × List xLn} (hx : c.2.2.2.2 s = some x) : ∃ S1 S2, xcall false (d + 4) j_X12_use [.ref 187, .int (nI 1), .int (nI s), .int (nI s), .int (nI s), .int (nI s)] S none S1 ∧ xcall false (d + 4) j_X12_prepare [.ref 187] S1 (some (.int (xB true))) S2 ∧ XC S1 ∧ xFl (fun i k => (i = 187 ∧ (58 ≤ k ∧ k ≤ 70)) ∨ (212 ≤ i ∧ i ≤ 218) ∨ i = 228 ∨ i = 229) S S2 ∧ xMpd S2 (xone c s) 0 := by
  obtain ⟨hX, hM, hT, hY, hW, hA, ka⟩ := h
  have gu := m_use (m := nI 1) (a := nI s) (b := nI s) (c := nI s) (e := nI s) (d + 4) hX
  have F0 := m_use_f (m := nI 1) (a := nI s) (b := nI s) (c := nI s) (e := nI s) (S := S)
  have e59 : (xSI (xSI (xSI (xSI (xSI (xSI S 187 58 (nI 1)) 212 0 (nI s)) 212 1 (nI s)) 212 2 (nI s)) 212 3 (nI s)) 187 59 (nI 0)).2.1 187 59 = nI 0 := xI_same _ _ _ _
  have e58 : (xSI (xSI (xSI (xSI (xSI (xSI S 187 58 (nI 1)) 212 0 (nI s)) 212 1 (nI s)) 212 2 (nI s)) 212 3 (nI s)) 187 59 (nI 0)).2.1 187 58 = nI 1 := xi (xi (xi (xi (xi (xI_same _ _ _ _) (Or.inl (by decide))) (Or.inl (by decide))) (Or.inl (by decide))) (Or.inl (by decide))) (Or.inr (by decide))
  have e212 : (xSI (xSI (xSI (xSI (xSI (xSI S 187 58 (nI 1)) 212 0 (nI s)) 212 1 (nI s)) 212 2 (nI s)) 212 3 (nI s)) 187 59 (nI 0)).2.1 212 0 = nI s := xi (xi (xi (xi (xI_same _ _ _ _) (Or.inr (by decide))) (Or.inr (by decide))) (Or.inr (by decide))) (Or.inl (by decide))
  generalize (xSI (xSI (xSI (xSI (xSI (xSI S 187 58 (nI 1)) 212 0 (nI s)) 212 1 (nI s)) 212 2 (nI s)) 212 3 (nI s)) 187 59 (nI 0)) = S1 at gu F0 e59 e58 e212
  have X1 := F0.XC hX
  have e212' : ∀ q, q < [s].length → S1.2.1 212 q = nI ([s].getD q 0) := fun q hq => by
    have : q < 1 := hq
    rw [show q = 0 by omega]; exact e212
  obtain ⟨r, S2, g1, hr, f1, z⟩ := m_prepare (v := c.2.1) (y := c.1) (U := [s]) (show 1 ≤ 4 by decide) (fun x hx => by rw [List.mem_singleton.mp hx]; exact hs) d X1 (hM.fr F0 (fun i k h => by omega)) (hT.fr F0 (fun q h => by omega) (fun a q h => by omega)) (hY.fr F0 (fun i q h => by omega)) (hW.fr F0 (fun i k h => by omega)) ⟨e58, e212'⟩
  have hall : [s].all (fun s => (c.2.2.2.2 s).isSome) = true := xone_al hx
  rw [hall] at hr
  subst hr
  have FF : xFl (fun i k => (i = 187 ∧ (58 ≤ k ∧ k ≤ 70)) ∨ (212 ≤ i ∧ i ≤ 218) ∨ i = 228 ∨ i = 229) S S2 := (F0.mono (fun i k h => by omega)).tt (f1.mono (fun i k h => by omega))
  obtain ⟨z1, z2, z3⟩ := z hall
  exact ⟨S1, S2, gu, g1, X1, FF, z1, f1.i e58 (by omega), f1.i e59 (by omega), fun i hi => f1.i (e212' i hi) (by omega), z2, z3, hM.fr FF (fun i k h => by omega), ⟨fun i hi => FF.i (hY.1 i hi) (by omega), FF.i hY.2.1 (by omega)⟩, FF.i hW.2.1 (by omega), FF.i ka (by omega), fun a ha' => FF.i (hA a ha').1 (by omega)⟩
theorem ex_loop {c : xPx} {t : Nat → Nat} {n d : Nat} (ho : xzo c) (h8 : xgH (xzg c) ≤ 8) : ∀ (j s : Nat) (S : xS) (p : Nat → Bool), s + j = 6 → xMS S c → xTn S n t (xgP (xzg c)) → (∀ q9, q9 < s → (p q9 = true ↔ (c.2.2.2.2 q9).isSome = true ∧ xHT (xone c q9) t n n)) → Wp false (d + 5) 11 cX12_explain (some .int) false 47 [.ref 187, .int (nI (xbi p s)), .int (nI s)] [] S (fun r S' => ∃ p, r = some (.int (nI (xbi p 6))) ∧ xFl (fun i k => (i = 187 ∧ (58 ≤ k ∧ k ≤ 70)) ∨ (212 ≤ i ∧ i ≤ 218) ∨ i = 228 ∨ i = 229) S S' ∧ (∀ s, s < 6 → (p s = true ↔ (c.2.2.2.2 s).isSome = true ∧ xHT (xone c s) t n n))) := by
  intro j
  induction j with
  | zero =>
    intro s S p hs h hT hp
    have hss : s = 6 := by omega
    subst hss
    have fin : ∃ p', some (Value.int (nI (xbi p 6))) = some (.int (nI (xbi p' 6))) ∧ xFl (fun i k => (i = 187 ∧ (58 ≤ k ∧ k ≤ 70)) ∨ (212 ≤ i ∧ i ≤ 218) ∨ i = 228 ∨ i = 229) S S ∧ (∀ s, s < 6 → (p' s = true ↔ (c.2.2.2.2 s).isSome = true ∧ xHT (xone c s) t n n)) := ⟨p, rfl, xFl.rf S, hp⟩
    refine wp_iload_n dX12_explain_47 rfl (wp_bipush (v := nI 6) dX12_explain_48 rfl ?_)
    refine wn_icmp_ge dX12_explain_50 rfl (by omega) (by omega) (fun c50 => ?_) (fun c50 => absurd c50 (by omega))
    exact wp_iload_n dX12_explain_105 rfl (wp_ireturn dX12_explain_106 rfl rfl fin)
  | succ j ih =>
    intro s S p hs h hT hp
    have hs6 : s < 6 := by omega
    have hX := h.1
    have k3 := hT.2.1
    have h260 := hT.1
    have hml := h.2.1 s hs6
    have step : ∀ (S2 : xS) (b : Bool), xFl (fun i k => (i = 187 ∧ (58 ≤ k ∧ k ≤ 70)) ∨ (212 ≤ i ∧ i ≤ 218) ∨ i = 228 ∨ i = 229) S S2 → (b = true ↔ (c.2.2.2.2 s).isSome = true ∧ xHT (xone c s) t n n) → Wp false (d + 5) 11 cX12_explain (some .int) false 47 [.ref 187, .int (nI (if b = true then xbi p s ||| 2 ^ s else xbi p s)), .int (nI (s + 1))] [] S2 (fun r S' => ∃ p, r = some (.int (nI (xbi p 6))) ∧ xFl (fun i k => (i = 187 ∧ (58 ≤ k ∧ k ≤ 70)) ∨ (212 ≤ i ∧ i ≤ 218) ∨ i = 228 ∨ i = 229) S S' ∧ (∀ s, s < 6 → (p s = true ↔ (c.2.2.2.2 s).isSome = true ∧ xHT (xone c s) t n n))) := by
      intro S2 b f2 hb
      have e : (if b = true then xbi p s ||| 2 ^ s else xbi p s) = xbi (fun q => if q = s then b else p q) (s + 1) := by
        rw [xbi, if_pos rfl]
        rw [xbi_cg (p := p) (q := fun q => if q = s then b else p q) s (fun q hq => by rw [if_neg (by omega)])]
      rw [e]
      refine (ih (s + 1) S2 (fun q => if q = s then b else p q) (by omega) (h.fr f2 (fun i q w => by omega)) (hT.fr f2 (fun i q w => by omega)) (fun q hq => ?_)).mono ?_
      · rcases Decidable.em (q = s) with w | w
        · subst w
          show (if q = q then b else p q) = true ↔ _
          rw [if_pos rfl]; exact hb
        · show (if q = s then b else p q) = true ↔ _
          rw [if_neg w]; exact hp q (by omega)
      · rintro r S' ⟨p', z1, z2, z3⟩
        exact ⟨p', z1, f2.tt z2, z3⟩
    cases hx : c.2.2.2.2 s with
    | none =>
      have gh := m_has (s := s) (c := 0) (d + 4) hs6 hX (hml.1 hx) (by decide)
      have st := step S false (xFl.rf S) ⟨fun q => (by cases q), fun q => (by rw [hx] at q; cases q.1)⟩
      rw [if_neg (by decide)] at st
      refine wp_iload_n dX12_explain_47 rfl (wp_bipush (v := nI 6) dX12_explain_48 rfl ?_)
      refine wn_icmp_ge dX12_explain_50 rfl (by omega) (by omega) (fun c50 => absurd c50 (by omega)) (fun c50 => ?_)
      refine wp_aload_n dX12_explain_53 rfl rfl (wp_iload_n dX12_explain_54 rfl (wp_iv2 dX12_explain_55 k11_231 q_X12_has (by decide) (xsh hX sh_187) (by decide) (Nat.le_of_ble_eq_true rfl) gh ?_))
      refine wb_if_ne dX12_explain_58 rfl (fun c58 => absurd c58 (by decide)) (fun c58 => ?_)
      exact wp_goto dX12_explain_61 rfl (wp_iinc dX12_explain_99 rfl (nI_1 _) ⟨Nat.le_of_ble_eq_true rfl, Or.inr rfl⟩ rfl (wp_goto dX12_explain_102 rfl st))
    | some x =>
      obtain ⟨n0, t0, L⟩ := x
      obtain ⟨hRM, ok, hn0, h16, h121⟩ := hml.2 n0 t0 L hx
      have hL1 := xRok_1 ok
      have gh := m_has (s := s) (c := L.length) (d + 4) hs6 hX hRM.2.2.2.2 (by omega)
      rw [decide_eq_true (show 0 < L.length by omega)] at gh
      obtain ⟨S1, S2, g1, g2, X1, f2, D2⟩ := ex_one d ho hs6 h hx
      have X2 := f2.XC hX
      obtain ⟨v, S3, g3, f3, hv, hht⟩ := m_holdsTo (d + 0) (xone_ok ho hs6) (xone_al hx) h8 X2 D2 (hT.fr f2 (fun i q w => by omega))
      have X3 := f3.XC X2
      have FF : xFl (fun i k => (i = 187 ∧ (58 ≤ k ∧ k ≤ 70)) ∨ (212 ≤ i ∧ i ≤ 218) ∨ i = 228 ∨ i = 229) S S3 := f2.tt (f3.mono (fun i q w => by omega))
      have k3' := FF.i k3 (by omega)
      rcases Decidable.em (v = n) with w | w
      · subst w
        have st := step S3 true FF ⟨fun _ => ⟨(by rw [hx]; rfl), hht⟩, fun _ => rfl⟩
        rw [if_pos rfl] at st
        refine wp_iload_n dX12_explain_47 rfl (wp_bipush (v := nI 6) dX12_explain_48 rfl ?_)
        refine wn_icmp_ge dX12_explain_50 rfl (by omega) (by omega) (fun c50 => absurd c50 (by omega)) (fun c50 => ?_)
        refine wp_aload_n dX12_explain_53 rfl rfl (wp_iload_n dX12_explain_54 rfl (wp_iv2 dX12_explain_55 k11_231 q_X12_has (by decide) (xsh hX sh_187) (by decide) (Nat.le_of_ble_eq_true rfl) gh ?_))
        refine wb_if_ne dX12_explain_58 rfl (fun c58 => ?_) (fun c58 => absurd c58 (by decide))
        refine wp_aload_n dX12_explain_64 rfl rfl (wp_iconst (v := nI 1) dX12_explain_65 rfl (wp_iload_n dX12_explain_66 rfl (wp_iload_n dX12_explain_67 rfl (wp_iload_n dX12_explain_68 rfl (wp_iload_n dX12_explain_69 rfl (wp_iv6 dX12_explain_70 k11_398 q_X12_use (by decide) (xsh hX sh_187) (by decide) (Nat.le_of_ble_eq_true rfl) g1 (wp_aload_n dX12_explain_73 rfl rfl (wp_iv1 dX12_explain_74 k11_402 q_X12_prepare (by decide) (xsh X1 sh_187) (by decide) (Nat.le_of_ble_eq_true rfl) g2 (wp_pop dX12_explain_77 rfl (wp_aload_n dX12_explain_78 rfl rfl (wp_iv1 dX12_explain_79 k11_554 q_X12_holdsTo (by decide) (xsh X2 sh_187) (by decide) (Nat.le_of_ble_eq_true rfl) g3 (wp_aload_n dX12_explain_82 rfl rfl (gv11_18 dX12_explain_83 (xsh X3 sh_187) k3' ?_)))))))))))))
        refine wn_icmp_ne dX12_explain_86 rfl (by omega) (by omega) (fun c86 => absurd c86 (by omega)) (fun c86 => ?_)
        exact wp_iload_n dX12_explain_89 rfl (wp_iconst (v := nI 1) dX12_explain_90 rfl (wp_iload_n dX12_explain_91 rfl (wv_ishl dX12_explain_92 (xshl1 (by omega)) (wv_ior dX12_explain_93 (fa_or _ _) (wp_goto dX12_explain_94 rfl (wp_istore_n dX12_explain_98 ⟨Nat.le_of_ble_eq_true rfl, Or.inr rfl⟩ rfl (wp_iinc dX12_explain_99 rfl (nI_1 _) ⟨Nat.le_of_ble_eq_true rfl, Or.inr rfl⟩ rfl (wp_goto dX12_explain_102 rfl st))))))))
      · have st := step S3 false FF ⟨fun q => (by cases q), fun q => absurd (xHT_u hht q.2) w⟩
        rw [if_neg (by decide)] at st
        refine wp_iload_n dX12_explain_47 rfl (wp_bipush (v := nI 6) dX12_explain_48 rfl ?_)
        refine wn_icmp_ge dX12_explain_50 rfl (by omega) (by omega) (fun c50 => absurd c50 (by omega)) (fun c50 => ?_)
        refine wp_aload_n dX12_explain_53 rfl rfl (wp_iload_n dX12_explain_54 rfl (wp_iv2 dX12_explain_55 k11_231 q_X12_has (by decide) (xsh hX sh_187) (by decide) (Nat.le_of_ble_eq_true rfl) gh ?_))
        refine wb_if_ne dX12_explain_58 rfl (fun c58 => ?_) (fun c58 => absurd c58 (by decide))
        refine wp_aload_n dX12_explain_64 rfl rfl (wp_iconst (v := nI 1) dX12_explain_65 rfl (wp_iload_n dX12_explain_66 rfl (wp_iload_n dX12_explain_67 rfl (wp_iload_n dX12_explain_68 rfl (wp_iload_n dX12_explain_69 rfl (wp_iv6 dX12_explain_70 k11_398 q_X12_use (by decide) (xsh hX sh_187) (by decide) (Nat.le_of_ble_eq_true rfl) g1 (wp_aload_n dX12_explain_73 rfl rfl (wp_iv1 dX12_explain_74 k11_402 q_X12_prepare (by decide) (xsh X1 sh_187) (by decide) (Nat.le_of_ble_eq_true rfl) g2 (wp_pop dX12_explain_77 rfl (wp_aload_n dX12_explain_78 rfl rfl (wp_iv1 dX12_explain_79 k11_554 q_X12_holdsTo (by decide) (xsh X2 sh_187) (by decide) (Nat.le_of_ble_eq_true rfl) g3 (wp_aload_n dX12_explain_82 rfl rfl (gv11_18 dX12_explain_83 (xsh X3 sh_187) k3' ?_)))))))))))))
        refine wn_icmp_ne dX12_explain_86 rfl (by omega) (by omega) (fun c86 => ?_) (fun c86 => absurd c86 (by omega))
        exact wp_iload_n dX12_explain_97 rfl (wp_istore_n dX12_explain_98 ⟨Nat.le_of_ble_eq_true rfl, Or.inr rfl⟩ rfl (wp_iinc dX12_explain_99 rfl (nI_1 _) ⟨Nat.le_of_ble_eq_true rfl, Or.inr rfl⟩ rfl (wp_goto dX12_explain_102 rfl st)))
theorem m_explain_no {c : xPx} {n : Nat} {t : Nat → Nat} (d : Nat) (ho : xzo c) {S : xS} (h : xMS S c) (hn : S.2.1 187 2 = nI n) (hB : xTr S n t) (hno : ¬ (xgH (xzg c) ≤ 8 ∧ n ≤ 24 ∧ ∀ k, k < n → t k < xgP (xzg c))) : ∃ S', xcall false (d + 5) j_X12_explain [.ref 187] S (some (.int (-1))) S' ∧ xFl (fun i k => (i = 187 ∧ (k = 0 ∨ k = 2 ∨ k = 3 ∨ k = 4 ∨ (58 ≤ k ∧ k ≤ 70))) ∨ (212 ≤ i ∧ i ≤ 218) ∨ i = 228 ∨ i = 229) S S' ∧ S'.2.1 187 2 = nI 0 := by
  have hX := h.1
  have F0 : xFl (fun i k => i = 187 ∧ (k = 0 ∨ k = 2 ∨ k = 3 ∨ k = 4)) S (xSI (xSI (xSI (xSI S 187 0 (nI 0)) 187 3 (nI n)) 187 2 (nI 0)) 187 4 (nI 0)) := ((((xFl.rf S).SI ⟨rfl, by decide⟩).SI ⟨rfl, by decide⟩).SI ⟨rfl, by decide⟩).SI ⟨rfl, by decide⟩
  have X0 := F0.XC hX
  have gt := m_taken (S := xSI S 187 0 (nI 0)) (d + 4) (((xFl.rf S).SI (P := fun i k => i = 187 ∧ k = 0) ⟨rfl, rfl⟩).XC hX) (xi hn (Or.inr (by decide)))
  have k3 : (xSI (xSI (xSI (xSI S 187 0 (nI 0)) 187 3 (nI n)) 187 2 (nI 0)) 187 4 (nI 0)).2.1 187 3 = nI n := xi (xi (xI_same _ _ _ _) (Or.inr (by decide))) (Or.inr (by decide))
  have k2 : (xSI (xSI (xSI (xSI S 187 0 (nI 0)) 187 3 (nI n)) 187 2 (nI 0)) 187 4 (nI 0)).2.1 187 2 = nI 0 := xi (xI_same _ _ _ _) (Or.inr (by decide))
  have B0 := hB.fr F0 (fun k h => by omega)
  have h0 := h.fr F0 (fun i q w => by omega)
  have hP : c.2.2.1.length ≤ 12 := ho.g.2.1
  have h260 := hB.1
  have l1 := h0.2.2.2.1.1 1 (by decide)
  have k30 := h0.2.2.2.2.1.2.1
  have b1 : c.1.1 1 ≤ 1 := ho.1.1 1 (by decide)
  have gr := m_isRecord (b := c.2.2.1.length) (d + 4) (by omega) X0 B0 k3 k30
  have eH : (c.1.1 1 = 1 → xgH (xzg c) = 2 * c.2.2.1.length) ∧ (¬ c.1.1 1 = 1 → xgH (xzg c) = c.2.2.1.length) := ⟨fun w => if_pos (show xgf (xzg c) = true from decide_eq_true w), fun w => if_neg (show ¬ xgf (xzg c) = true from fun q => w (of_decide_eq_true q))⟩
  refine ⟨_, ?_, F0.mono (fun i k w => by omega), k2⟩
  rcases Decidable.em (c.1.1 1 = 1) with w | w
  · have e := eH.1 w
    rcases Nat.lt_or_ge 8 (2 * c.2.2.1.length) with q | q
    · skip
      refine xcall_intro (ls := [.ref 187, .float 0, .float 0]) q_X12_explain (by decide) rfl (Nat.le_of_ble_eq_true rfl) rfl ?_
      refine wp_aload_n dX12_explain_0 rfl rfl (wp_iconst (v := nI 0) dX12_explain_1 rfl (p11_1 dX12_explain_2 (xsh hX sh_187) (wp_aload_n dX12_explain_5 rfl rfl (wp_iv1 dX12_explain_6 k11_69 q_X12_taken (by decide) (xsh hX sh_187) (by decide) (Nat.le_of_ble_eq_true rfl) gt (wp_aload_n dX12_explain_9 rfl rfl (g11_272 dX12_explain_10 (xsh X0 sh_187) (xrr X0 r187_45) (wp_iconst (v := nI 1) dX12_explain_13 rfl (wn_iaload dX12_explain_14 (xsh X0 sh_208) rfl (by omega) (by decide) l1 (wp_iconst (v := nI 1) dX12_explain_15 rfl ?_)))))))))
      refine wn_icmp_ne dX12_explain_16 rfl (by omega) (by omega) (fun c16 => absurd c16 (by omega)) (fun c16 => ?_)
      refine wp_iconst (v := nI 2) dX12_explain_19 rfl (wp_goto dX12_explain_20 rfl (wp_aload_n dX12_explain_24 rfl rfl (gv11_183 dX12_explain_25 (xsh X0 sh_187) k30 (wv_imul dX12_explain_28 (pk_mul _ _) (wp_bipush (v := nI 8) dX12_explain_29 rfl ?_)))))
      refine wn_icmp_gt dX12_explain_31 rfl (by omega) (by omega) (fun c31 => ?_) (fun c31 => absurd c31 (by omega))
      exact wp_iconst (v := -1) dX12_explain_41 rfl (wp_ireturn dX12_explain_42 rfl rfl ⟨rfl, rfl⟩)
    · rw [decide_eq_false (fun z => hno ⟨by omega, z.1, z.2⟩)] at gr
      refine xcall_intro (ls := [.ref 187, .float 0, .float 0]) q_X12_explain (by decide) rfl (Nat.le_of_ble_eq_true rfl) rfl ?_
      refine wp_aload_n dX12_explain_0 rfl rfl (wp_iconst (v := nI 0) dX12_explain_1 rfl (p11_1 dX12_explain_2 (xsh hX sh_187) (wp_aload_n dX12_explain_5 rfl rfl (wp_iv1 dX12_explain_6 k11_69 q_X12_taken (by decide) (xsh hX sh_187) (by decide) (Nat.le_of_ble_eq_true rfl) gt (wp_aload_n dX12_explain_9 rfl rfl (g11_272 dX12_explain_10 (xsh X0 sh_187) (xrr X0 r187_45) (wp_iconst (v := nI 1) dX12_explain_13 rfl (wn_iaload dX12_explain_14 (xsh X0 sh_208) rfl (by omega) (by decide) l1 (wp_iconst (v := nI 1) dX12_explain_15 rfl ?_)))))))))
      refine wn_icmp_ne dX12_explain_16 rfl (by omega) (by omega) (fun c16 => absurd c16 (by omega)) (fun c16 => ?_)
      refine wp_iconst (v := nI 2) dX12_explain_19 rfl (wp_goto dX12_explain_20 rfl (wp_aload_n dX12_explain_24 rfl rfl (gv11_183 dX12_explain_25 (xsh X0 sh_187) k30 (wv_imul dX12_explain_28 (pk_mul _ _) (wp_bipush (v := nI 8) dX12_explain_29 rfl ?_)))))
      refine wn_icmp_gt dX12_explain_31 rfl (by omega) (by omega) (fun c31 => absurd c31 (by omega)) (fun c31 => ?_)
      refine wp_aload_n dX12_explain_34 rfl rfl (wp_iv1 dX12_explain_35 k11_551 q_X12_isRecord (by decide) (xsh X0 sh_187) (by decide) (Nat.le_of_ble_eq_true rfl) gr ?_)
      refine wb_if_ne dX12_explain_38 rfl (fun c38 => absurd c38 (by decide)) (fun c38 => ?_)
      exact wp_iconst (v := -1) dX12_explain_41 rfl (wp_ireturn dX12_explain_42 rfl rfl ⟨rfl, rfl⟩)
  · have e := eH.2 w
    rcases Nat.lt_or_ge 8 (1 * c.2.2.1.length) with q | q
    · skip
      refine xcall_intro (ls := [.ref 187, .float 0, .float 0]) q_X12_explain (by decide) rfl (Nat.le_of_ble_eq_true rfl) rfl ?_
      refine wp_aload_n dX12_explain_0 rfl rfl (wp_iconst (v := nI 0) dX12_explain_1 rfl (p11_1 dX12_explain_2 (xsh hX sh_187) (wp_aload_n dX12_explain_5 rfl rfl (wp_iv1 dX12_explain_6 k11_69 q_X12_taken (by decide) (xsh hX sh_187) (by decide) (Nat.le_of_ble_eq_true rfl) gt (wp_aload_n dX12_explain_9 rfl rfl (g11_272 dX12_explain_10 (xsh X0 sh_187) (xrr X0 r187_45) (wp_iconst (v := nI 1) dX12_explain_13 rfl (wn_iaload dX12_explain_14 (xsh X0 sh_208) rfl (by omega) (by decide) l1 (wp_iconst (v := nI 1) dX12_explain_15 rfl ?_)))))))))
      refine wn_icmp_ne dX12_explain_16 rfl (by omega) (by omega) (fun c16 => ?_) (fun c16 => absurd c16 (by omega))
      refine wp_iconst (v := nI 1) dX12_explain_23 rfl (wp_aload_n dX12_explain_24 rfl rfl (gv11_183 dX12_explain_25 (xsh X0 sh_187) k30 (wv_imul dX12_explain_28 (pk_mul _ _) (wp_bipush (v := nI 8) dX12_explain_29 rfl ?_))))
      refine wn_icmp_gt dX12_explain_31 rfl (by omega) (by omega) (fun c31 => ?_) (fun c31 => absurd c31 (by omega))
      exact wp_iconst (v := -1) dX12_explain_41 rfl (wp_ireturn dX12_explain_42 rfl rfl ⟨rfl, rfl⟩)
    · rw [decide_eq_false (fun z => hno ⟨by omega, z.1, z.2⟩)] at gr
      refine xcall_intro (ls := [.ref 187, .float 0, .float 0]) q_X12_explain (by decide) rfl (Nat.le_of_ble_eq_true rfl) rfl ?_
      refine wp_aload_n dX12_explain_0 rfl rfl (wp_iconst (v := nI 0) dX12_explain_1 rfl (p11_1 dX12_explain_2 (xsh hX sh_187) (wp_aload_n dX12_explain_5 rfl rfl (wp_iv1 dX12_explain_6 k11_69 q_X12_taken (by decide) (xsh hX sh_187) (by decide) (Nat.le_of_ble_eq_true rfl) gt (wp_aload_n dX12_explain_9 rfl rfl (g11_272 dX12_explain_10 (xsh X0 sh_187) (xrr X0 r187_45) (wp_iconst (v := nI 1) dX12_explain_13 rfl (wn_iaload dX12_explain_14 (xsh X0 sh_208) rfl (by omega) (by decide) l1 (wp_iconst (v := nI 1) dX12_explain_15 rfl ?_)))))))))
      refine wn_icmp_ne dX12_explain_16 rfl (by omega) (by omega) (fun c16 => ?_) (fun c16 => absurd c16 (by omega))
      refine wp_iconst (v := nI 1) dX12_explain_23 rfl (wp_aload_n dX12_explain_24 rfl rfl (gv11_183 dX12_explain_25 (xsh X0 sh_187) k30 (wv_imul dX12_explain_28 (pk_mul _ _) (wp_bipush (v := nI 8) dX12_explain_29 rfl ?_))))
      refine wn_icmp_gt dX12_explain_31 rfl (by omega) (by omega) (fun c31 => absurd c31 (by omega)) (fun c31 => ?_)
      refine wp_aload_n dX12_explain_34 rfl rfl (wp_iv1 dX12_explain_35 k11_551 q_X12_isRecord (by decide) (xsh X0 sh_187) (by decide) (Nat.le_of_ble_eq_true rfl) gr ?_)
      refine wb_if_ne dX12_explain_38 rfl (fun c38 => absurd c38 (by decide)) (fun c38 => ?_)
      exact wp_iconst (v := -1) dX12_explain_41 rfl (wp_ireturn dX12_explain_42 rfl rfl ⟨rfl, rfl⟩)
theorem m_explain {c : xPx} {n : Nat} {t : Nat → Nat} (d : Nat) (ho : xzo c) {S : xS} (h : xMS S c) (hn : S.2.1 187 2 = nI n) (hB : xTr S n t) (h8 : xgH (xzg c) ≤ 8) (h24 : n ≤ 24) (hlt : ∀ k, k < n → t k < xgP (xzg c)) : ∃ p S', xcall false (d + 5) j_X12_explain [.ref 187] S (some (.int (nI (xbi p 6)))) S' ∧ xFl (fun i k => (i = 187 ∧ (k = 0 ∨ k = 2 ∨ k = 3 ∨ k = 4 ∨ (58 ≤ k ∧ k ≤ 70))) ∨ (212 ≤ i ∧ i ≤ 218) ∨ i = 228 ∨ i = 229) S S' ∧ S'.2.1 187 2 = nI 0 ∧ (∀ s, s < 6 → (p s = true ↔ (c.2.2.2.2 s).isSome = true ∧ xHT (xone c s) t n n)) := by
  have hX := h.1
  have F0 : xFl (fun i k => i = 187 ∧ (k = 0 ∨ k = 2 ∨ k = 3 ∨ k = 4)) S (xSI (xSI (xSI (xSI S 187 0 (nI 0)) 187 3 (nI n)) 187 2 (nI 0)) 187 4 (nI 0)) := ((((xFl.rf S).SI ⟨rfl, by decide⟩).SI ⟨rfl, by decide⟩).SI ⟨rfl, by decide⟩).SI ⟨rfl, by decide⟩
  have X0 := F0.XC hX
  have gt := m_taken (S := xSI S 187 0 (nI 0)) (d + 4) (((xFl.rf S).SI (P := fun i k => i = 187 ∧ k = 0) ⟨rfl, rfl⟩).XC hX) (xi hn (Or.inr (by decide)))
  have k3 : (xSI (xSI (xSI (xSI S 187 0 (nI 0)) 187 3 (nI n)) 187 2 (nI 0)) 187 4 (nI 0)).2.1 187 3 = nI n := xi (xi (xI_same _ _ _ _) (Or.inr (by decide))) (Or.inr (by decide))
  have k2 : (xSI (xSI (xSI (xSI S 187 0 (nI 0)) 187 3 (nI n)) 187 2 (nI 0)) 187 4 (nI 0)).2.1 187 2 = nI 0 := xi (xI_same _ _ _ _) (Or.inr (by decide))
  have B0 := hB.fr F0 (fun k h => by omega)
  have h0 := h.fr F0 (fun i q w => by omega)
  have hP : c.2.2.1.length ≤ 12 := ho.g.2.1
  have h260 := hB.1
  have l1 := h0.2.2.2.1.1 1 (by decide)
  have k30 := h0.2.2.2.2.1.2.1
  have b1 : c.1.1 1 ≤ 1 := ho.1.1 1 (by decide)
  have gr := m_isRecord (b := c.2.2.1.length) (d + 4) (by omega) X0 B0 k3 k30
  have eH : (c.1.1 1 = 1 → xgH (xzg c) = 2 * c.2.2.1.length) ∧ (¬ c.1.1 1 = 1 → xgH (xzg c) = c.2.2.1.length) := ⟨fun w => if_pos (show xgf (xzg c) = true from decide_eq_true w), fun w => if_neg (show ¬ xgf (xzg c) = true from fun q => w (of_decide_eq_true q))⟩
  rw [decide_eq_true ⟨h24, hlt⟩] at gr
  have lp := ex_loop (d := d) ho h8 6 0 (xSI (xSI (xSI (xSI S 187 0 (nI 0)) 187 3 (nI n)) 187 2 (nI 0)) 187 4 (nI 0)) (fun _ => false) (Nat.zero_add _) h0 (B0.n (show xgP (xzg c) ≤ 128 from (by have : xgP (xzg c) ≤ 12 := hP; omega)) k3 hlt) (fun s hs => absurd hs (Nat.not_lt_zero s))
  obtain ⟨r, S', g1, p, rfl, z1, z2⟩ := xcall_some (al := false) (d := d + 5) (ls := [.ref 187, .float 0, .float 0]) (S := S) (as := [.ref 187]) q_X12_explain (by decide) rfl (Nat.le_of_ble_eq_true rfl) rfl (P := (fun r S' => ∃ p, r = some (.int (nI (xbi p 6))) ∧ xFl (fun i k => (i = 187 ∧ (58 ≤ k ∧ k ≤ 70)) ∨ (212 ≤ i ∧ i ≤ 218) ∨ i = 228 ∨ i = 229) (xSI (xSI (xSI (xSI S 187 0 (nI 0)) 187 3 (nI n)) 187 2 (nI 0)) 187 4 (nI 0)) S' ∧ (∀ s, s < 6 → (p s = true ↔ (c.2.2.2.2 s).isSome = true ∧ xHT (xone c s) t n n)))) (by
    rcases Decidable.em (c.1.1 1 = 1) with w | w
    · have e := eH.1 w
      refine wp_aload_n dX12_explain_0 rfl rfl (wp_iconst (v := nI 0) dX12_explain_1 rfl (p11_1 dX12_explain_2 (xsh hX sh_187) (wp_aload_n dX12_explain_5 rfl rfl (wp_iv1 dX12_explain_6 k11_69 q_X12_taken (by decide) (xsh hX sh_187) (by decide) (Nat.le_of_ble_eq_true rfl) gt (wp_aload_n dX12_explain_9 rfl rfl (g11_272 dX12_explain_10 (xsh X0 sh_187) (xrr X0 r187_45) (wp_iconst (v := nI 1) dX12_explain_13 rfl (wn_iaload dX12_explain_14 (xsh X0 sh_208) rfl (by omega) (by decide) l1 (wp_iconst (v := nI 1) dX12_explain_15 rfl ?_)))))))))
      refine wn_icmp_ne dX12_explain_16 rfl (by omega) (by omega) (fun c16 => absurd c16 (by omega)) (fun c16 => ?_)
      refine wp_iconst (v := nI 2) dX12_explain_19 rfl (wp_goto dX12_explain_20 rfl (wp_aload_n dX12_explain_24 rfl rfl (gv11_183 dX12_explain_25 (xsh X0 sh_187) k30 (wv_imul dX12_explain_28 (pk_mul _ _) (wp_bipush (v := nI 8) dX12_explain_29 rfl ?_)))))
      refine wn_icmp_gt dX12_explain_31 rfl (by omega) (by omega) (fun c31 => absurd c31 (by omega)) (fun c31 => ?_)
      refine wp_aload_n dX12_explain_34 rfl rfl (wp_iv1 dX12_explain_35 k11_551 q_X12_isRecord (by decide) (xsh X0 sh_187) (by decide) (Nat.le_of_ble_eq_true rfl) gr ?_)
      refine wb_if_ne dX12_explain_38 rfl (fun c38 => ?_) (fun c38 => absurd c38 (by decide))
      exact wp_iconst (v := nI 0) dX12_explain_43 rfl (wp_istore_n dX12_explain_44 ⟨Nat.le_of_ble_eq_true rfl, Or.inr rfl⟩ rfl (wp_iconst (v := nI 0) dX12_explain_45 rfl (wp_istore_n dX12_explain_46 ⟨Nat.le_of_ble_eq_true rfl, Or.inr rfl⟩ rfl lp)))
    · have e := eH.2 w
      refine wp_aload_n dX12_explain_0 rfl rfl (wp_iconst (v := nI 0) dX12_explain_1 rfl (p11_1 dX12_explain_2 (xsh hX sh_187) (wp_aload_n dX12_explain_5 rfl rfl (wp_iv1 dX12_explain_6 k11_69 q_X12_taken (by decide) (xsh hX sh_187) (by decide) (Nat.le_of_ble_eq_true rfl) gt (wp_aload_n dX12_explain_9 rfl rfl (g11_272 dX12_explain_10 (xsh X0 sh_187) (xrr X0 r187_45) (wp_iconst (v := nI 1) dX12_explain_13 rfl (wn_iaload dX12_explain_14 (xsh X0 sh_208) rfl (by omega) (by decide) l1 (wp_iconst (v := nI 1) dX12_explain_15 rfl ?_)))))))))
      refine wn_icmp_ne dX12_explain_16 rfl (by omega) (by omega) (fun c16 => ?_) (fun c16 => absurd c16 (by omega))
      refine wp_iconst (v := nI 1) dX12_explain_23 rfl (wp_aload_n dX12_explain_24 rfl rfl (gv11_183 dX12_explain_25 (xsh X0 sh_187) k30 (wv_imul dX12_explain_28 (pk_mul _ _) (wp_bipush (v := nI 8) dX12_explain_29 rfl ?_))))
      refine wn_icmp_gt dX12_explain_31 rfl (by omega) (by omega) (fun c31 => absurd c31 (by omega)) (fun c31 => ?_)
      refine wp_aload_n dX12_explain_34 rfl rfl (wp_iv1 dX12_explain_35 k11_551 q_X12_isRecord (by decide) (xsh X0 sh_187) (by decide) (Nat.le_of_ble_eq_true rfl) gr ?_)
      refine wb_if_ne dX12_explain_38 rfl (fun c38 => ?_) (fun c38 => absurd c38 (by decide))
      exact wp_iconst (v := nI 0) dX12_explain_43 rfl (wp_istore_n dX12_explain_44 ⟨Nat.le_of_ble_eq_true rfl, Or.inr rfl⟩ rfl (wp_iconst (v := nI 0) dX12_explain_45 rfl (wp_istore_n dX12_explain_46 ⟨Nat.le_of_ble_eq_true rfl, Or.inr rfl⟩ rfl lp))))
  exact ⟨p, S', g1, (F0.mono (fun i k w => by omega)).tt (z1.mono (fun i k w => by omega)), z1.i k2 (by omega), z2⟩
