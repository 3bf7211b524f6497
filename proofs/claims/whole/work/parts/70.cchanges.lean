/-! CHANGES: one item against another; the items of two lines, of the class -/
/-- whether two items are written alike -/
def xsmi (t1 : Nat → Nat) (o1 : xIt) (t2 : Nat → Nat) (o2 : xIt) : Bool := decide (xisz o1 = xisz o2 ∧ ∀ k, k < xisz o1 → t1 (o1.2.1 + k) = t2 (o2.2.1 + k))
def xlv (sm : Nat → Nat → Bool) : Nat → Nat → Nat
  | 0, j => j
  | i + 1, 0 => i + 1
  | i + 1, j + 1 => min (xlv sm i j + if sm i j = true then 0 else 1) (min (xlv sm i (j + 1)) (xlv sm (i + 1) j) + 1)
termination_by i j => (i, j)
theorem xlv_0 (sm : Nat → Nat → Bool) (j : Nat) : xlv sm 0 j = j := by rw [xlv]
theorem xlv_s0 (sm : Nat → Nat → Bool) (i : Nat) : xlv sm i 0 = i := by cases i <;> rw [xlv]
theorem xlv_ss (sm : Nat → Nat → Bool) (i j : Nat) : xlv sm (i + 1) (j + 1) = min (xlv sm i j + if sm i j = true then 0 else 1) (min (xlv sm i (j + 1)) (xlv sm (i + 1) j) + 1) := by rw [xlv]
theorem xlv_b (sm : Nat → Nat → Bool) : ∀ i j, xlv sm i j ≤ i + j
  | 0, j => by rw [xlv_0]; omega
  | i + 1, 0 => by rw [xlv_s0]; omega
  | i + 1, j + 1 => by
    have := xlv_b sm i (j + 1)
    rw [xlv_ss]
    omega
theorem si_loop {a b n1 n2 : Nat} {t1 t2 : Nat → Nat} {L1 L2 : List xLn} {i j d : Nat} (ho : xRo a) (hob : xRo b) {S : xS} (hX : XC S) (hV1 : xRV a S n1 t1 L1) (hV2 : xRV b S n2 t2 L2) (hi : i < (L1.flatMap xcI).length) (hj : j < (L2.flatMap xcI).length) (hz : xisz ((L1.flatMap xcI).getD i (0, 0, 0)) = xisz ((L2.flatMap xcI).getD j (0, 0, 0))) : ∀ (q k : Nat), k + q = xisz ((L1.flatMap xcI).getD i (0, 0, 0)) → (∀ p, p < k → t1 (((L1.flatMap xcI).getD i (0, 0, 0)).2.1 + p) = t2 (((L2.flatMap xcI).getD j (0, 0, 0)).2.1 + p)) → Wp false (d + 2) 3 cX3_isSameItem (some .boolean) false 18 [.ref a, .int (nI i), .ref b, .int (nI j), .int (nI k)] [] S (fun r S' => r = some (.int (xB (xsmi t1 ((L1.flatMap xcI).getD i (0, 0, 0)) t2 ((L2.flatMap xcI).getD j (0, 0, 0))))) ∧ S' = S) := by
  have ha := (ho.sh hX).1
  have hb := (hob.sh hX).1
  have g1 := c_isize d ho hX hV1 hi
  have g2 := c_isize d hob hX hV2 hj
  have s1 := c_start (d + 1) ho hX hV1 hi
  have s2 := c_start (d + 1) hob hX hV2 hj
  have h1 := (xRok_ch hV1.2.2.2.2.2.2.1 hi).2
  have h2 := (xRok_ch hV2.2.2.2.2.2.2.1 hj).2
  have n1 := hV1.2.2.2.2.2.2.2.1
  have n2 := hV2.2.2.2.2.2.2.2.1
  intro q
  induction q with
  | zero =>
    intro k hk h
    have hkk : k = xisz ((L1.flatMap xcI).getD i (0, 0, 0)) := by omega
    have e : xsmi t1 ((L1.flatMap xcI).getD i (0, 0, 0)) t2 ((L2.flatMap xcI).getD j (0, 0, 0)) = true := decide_eq_true ⟨hz, fun p hp => h p (by omega)⟩
    rw [e]
    refine wp_iload dX3_isSameItem_18 rfl (wp_aload_n dX3_isSameItem_20 rfl rfl (wp_iload_n dX3_isSameItem_21 rfl (wp_iv2 dX3_isSameItem_22 k3_110 q_X3_size (by decide) ha (by decide) (Nat.le_of_ble_eq_true rfl) g1 ?_)))
    refine wn_icmp_ge dX3_isSameItem_25 rfl (by omega) (by omega) (fun c25 => ?_) (fun c25 => absurd c25 (by omega))
    exact wp_iconst (v := nI 1) dX3_isSameItem_63 rfl (wb_ret dX3_isSameItem_64 rfl rfl ⟨rfl, rfl⟩)
  | succ q ih =>
    intro k hk h
    have y1 := c_byteAt (d + 1) ho hX hV1 (i := ((L1.flatMap xcI).getD i (0, 0, 0)).2.1 + k) (by omega)
    have y2 := c_byteAt (d + 1) hob hX hV2 (i := ((L2.flatMap xcI).getD j (0, 0, 0)).2.1 + k) (by omega)
    have c1 := hV1.2.2.2.2.2.2.2.2.2 (((L1.flatMap xcI).getD i (0, 0, 0)).2.1 + k) (by omega)
    have c2 := hV2.2.2.2.2.2.2.2.2.2 (((L2.flatMap xcI).getD j (0, 0, 0)).2.1 + k) (by omega)
    rcases Decidable.em (t1 (((L1.flatMap xcI).getD i (0, 0, 0)).2.1 + k) = t2 (((L2.flatMap xcI).getD j (0, 0, 0)).2.1 + k)) with e | e
    · refine wp_iload dX3_isSameItem_18 rfl (wp_aload_n dX3_isSameItem_20 rfl rfl (wp_iload_n dX3_isSameItem_21 rfl (wp_iv2 dX3_isSameItem_22 k3_110 q_X3_size (by decide) ha (by decide) (Nat.le_of_ble_eq_true rfl) g1 ?_)))
      refine wn_icmp_ge dX3_isSameItem_25 rfl (by omega) (by omega) (fun c25 => absurd c25 (by omega)) (fun c25 => ?_)
      refine wp_aload_n dX3_isSameItem_28 rfl rfl (wp_aload_n dX3_isSameItem_29 rfl rfl (wp_iload_n dX3_isSameItem_30 rfl (wp_iv2 dX3_isSameItem_31 k3_107 q_X3_start (by decide) ha (by decide) (Nat.le_of_ble_eq_true rfl) s1 (wp_iload dX3_isSameItem_34 rfl (wv_iadd dX3_isSameItem_36 (nI_add _ _) (wp_iv2 dX3_isSameItem_37 k3_113 q_X3_byteAt (by decide) ha (by decide) (Nat.le_of_ble_eq_true rfl) y1 (wp_aload_n dX3_isSameItem_40 rfl rfl (wp_aload_n dX3_isSameItem_41 rfl rfl (wp_iload_n dX3_isSameItem_42 rfl (wp_iv2 dX3_isSameItem_43 k3_107 q_X3_start (by decide) hb (by decide) (Nat.le_of_ble_eq_true rfl) s2 (wp_iload dX3_isSameItem_46 rfl (wv_iadd dX3_isSameItem_48 (nI_add _ _) (wp_iv2 dX3_isSameItem_49 k3_113 q_X3_byteAt (by decide) hb (by decide) (Nat.le_of_ble_eq_true rfl) y2 ?_)))))))))))))
      refine wn_icmp_eq dX3_isSameItem_52 rfl (by omega) (by omega) (fun c52 => ?_) (fun c52 => absurd c52 (by omega))
      refine wp_iinc dX3_isSameItem_57 rfl (nI_1 _) ⟨Nat.le_of_ble_eq_true rfl, Or.inr rfl⟩ rfl (wp_goto dX3_isSameItem_60 rfl ?_)
      refine ih (k + 1) (by omega) (fun p hp => ?_)
      rcases Nat.lt_or_ge p k with w | w
      · exact h p w
      · rw [show p = k by omega]; exact e
    · have ef : xsmi t1 ((L1.flatMap xcI).getD i (0, 0, 0)) t2 ((L2.flatMap xcI).getD j (0, 0, 0)) = false := decide_eq_false (fun w => e (w.2 k (by omega)))
      rw [ef]
      refine wp_iload dX3_isSameItem_18 rfl (wp_aload_n dX3_isSameItem_20 rfl rfl (wp_iload_n dX3_isSameItem_21 rfl (wp_iv2 dX3_isSameItem_22 k3_110 q_X3_size (by decide) ha (by decide) (Nat.le_of_ble_eq_true rfl) g1 ?_)))
      refine wn_icmp_ge dX3_isSameItem_25 rfl (by omega) (by omega) (fun c25 => absurd c25 (by omega)) (fun c25 => ?_)
      refine wp_aload_n dX3_isSameItem_28 rfl rfl (wp_aload_n dX3_isSameItem_29 rfl rfl (wp_iload_n dX3_isSameItem_30 rfl (wp_iv2 dX3_isSameItem_31 k3_107 q_X3_start (by decide) ha (by decide) (Nat.le_of_ble_eq_true rfl) s1 (wp_iload dX3_isSameItem_34 rfl (wv_iadd dX3_isSameItem_36 (nI_add _ _) (wp_iv2 dX3_isSameItem_37 k3_113 q_X3_byteAt (by decide) ha (by decide) (Nat.le_of_ble_eq_true rfl) y1 (wp_aload_n dX3_isSameItem_40 rfl rfl (wp_aload_n dX3_isSameItem_41 rfl rfl (wp_iload_n dX3_isSameItem_42 rfl (wp_iv2 dX3_isSameItem_43 k3_107 q_X3_start (by decide) hb (by decide) (Nat.le_of_ble_eq_true rfl) s2 (wp_iload dX3_isSameItem_46 rfl (wv_iadd dX3_isSameItem_48 (nI_add _ _) (wp_iv2 dX3_isSameItem_49 k3_113 q_X3_byteAt (by decide) hb (by decide) (Nat.le_of_ble_eq_true rfl) y2 ?_)))))))))))))
      refine wn_icmp_eq dX3_isSameItem_52 rfl (by omega) (by omega) (fun c52 => absurd c52 (by omega)) (fun c52 => ?_)
      exact wp_iconst (v := nI 0) dX3_isSameItem_55 rfl (wb_ret dX3_isSameItem_56 rfl rfl ⟨rfl, rfl⟩)
theorem c_isSameItem {a b n1 n2 : Nat} {t1 t2 : Nat → Nat} {L1 L2 : List xLn} {i j : Nat} (d : Nat) (ho : xRo a) (hob : xRo b) {S : xS} (hX : XC S) (hV1 : xRV a S n1 t1 L1) (hV2 : xRV b S n2 t2 L2) (hi : i < (L1.flatMap xcI).length) (hj : j < (L2.flatMap xcI).length) : xcall false (d + 2) j_X3_isSameItem [.ref a, .int (nI i), .ref b, .int (nI j)] S (some (.int (xB (xsmi t1 ((L1.flatMap xcI).getD i (0, 0, 0)) t2 ((L2.flatMap xcI).getD j (0, 0, 0)))))) S := by
  have ha := (ho.sh hX).1
  have hb := (hob.sh hX).1
  have g1 := c_isize d ho hX hV1 hi
  have g2 := c_isize d hob hX hV2 hj
  have s1 := c_start (d + 1) ho hX hV1 hi
  have s2 := c_start (d + 1) hob hX hV2 hj
  have h1 := (xRok_ch hV1.2.2.2.2.2.2.1 hi).2
  have h2 := (xRok_ch hV2.2.2.2.2.2.2.1 hj).2
  have n1 := hV1.2.2.2.2.2.2.2.1
  have n2 := hV2.2.2.2.2.2.2.2.1
  rcases Decidable.em (xisz ((L1.flatMap xcI).getD i (0, 0, 0)) = xisz ((L2.flatMap xcI).getD j (0, 0, 0))) with hz | hz
  · refine xcall_intro (ls := [.ref a, .int (nI i), .ref b, .int (nI j), .float 0]) q_X3_isSameItem (by decide) rfl (Nat.le_of_ble_eq_true rfl) rfl ?_
    refine wp_aload_n dX3_isSameItem_0 rfl rfl (wp_iload_n dX3_isSameItem_1 rfl (wp_iv2 dX3_isSameItem_2 k3_110 q_X3_size (by decide) ha (by decide) (Nat.le_of_ble_eq_true rfl) g1 (wp_aload_n dX3_isSameItem_5 rfl rfl (wp_iload_n dX3_isSameItem_6 rfl (wp_iv2 dX3_isSameItem_7 k3_110 q_X3_size (by decide) hb (by decide) (Nat.le_of_ble_eq_true rfl) g2 ?_)))))
    refine wn_icmp_eq dX3_isSameItem_10 rfl (by omega) (by omega) (fun c10 => ?_) (fun c10 => absurd c10 (by omega))
    exact wp_iconst (v := nI 0) dX3_isSameItem_15 rfl (wp_istore dX3_isSameItem_16 ⟨Nat.le_of_ble_eq_true rfl, Or.inr rfl⟩ rfl (si_loop ho hob hX hV1 hV2 hi hj hz (xisz ((L1.flatMap xcI).getD i (0, 0, 0))) 0 (Nat.zero_add _) (fun p hp => absurd hp (Nat.not_lt_zero p))))
  · have ef : xsmi t1 ((L1.flatMap xcI).getD i (0, 0, 0)) t2 ((L2.flatMap xcI).getD j (0, 0, 0)) = false := decide_eq_false (fun w => hz w.1)
    rw [ef]
    refine xcall_intro (ls := [.ref a, .int (nI i), .ref b, .int (nI j), .float 0]) q_X3_isSameItem (by decide) rfl (Nat.le_of_ble_eq_true rfl) rfl ?_
    refine wp_aload_n dX3_isSameItem_0 rfl rfl (wp_iload_n dX3_isSameItem_1 rfl (wp_iv2 dX3_isSameItem_2 k3_110 q_X3_size (by decide) ha (by decide) (Nat.le_of_ble_eq_true rfl) g1 (wp_aload_n dX3_isSameItem_5 rfl rfl (wp_iload_n dX3_isSameItem_6 rfl (wp_iv2 dX3_isSameItem_7 k3_110 q_X3_size (by decide) hb (by decide) (Nat.le_of_ble_eq_true rfl) g2 ?_)))))
    refine wn_icmp_eq dX3_isSameItem_10 rfl (by omega) (by omega) (fun c10 => absurd c10 (by omega)) (fun c10 => ?_)
    exact wp_iconst (v := nI 0) dX3_isSameItem_13 rfl (wb_ret dX3_isSameItem_14 rfl rfl ⟨rfl, rfl⟩)
theorem c_itemsIn {a n l : Nat} {t : Nat → Nat} {L : List xLn} (d : Nat) (ho : xRo a) {S : xS} (hX : XC S) (hV : xRV a S n t L) (hl : l < L.length) : xcall false (d + 1) j_X3_itemsIn [.ref a, .int (nI l)] S (some (.int (nI (xcI (L.getD l (0, 0, []))).length))) S := by
  have ha := (ho.sh hX).1
  have g1 := c_firstItem d ho hX hV (l := l + 1) (by omega)
  have g2 := c_firstItem d ho hX hV (l := l) (by omega)
  have e := xof_succ xcI L l hl
  have hle := xof_le xcI L (l + 1)
  have h120 := xRok_120 hV.2.2.2.2.2.2.1 hV.2.2.2.2.2.2.2.1
  refine xcall_intro (ls := [.ref a, .int (nI l)]) q_X3_itemsIn (by decide) rfl (Nat.le_of_ble_eq_true rfl) rfl ?_
  exact wp_aload_n dX3_itemsIn_0 rfl rfl (wp_iload_n dX3_itemsIn_1 rfl (wp_iconst (v := nI 1) dX3_itemsIn_2 rfl (wv_iadd dX3_itemsIn_3 (nI_add _ _) (wp_iv2 dX3_itemsIn_4 k3_103 q_X3_firstItem (by decide) ha (by decide) (Nat.le_of_ble_eq_true rfl) g1 (wp_aload_n dX3_itemsIn_7 rfl rfl (wp_iload_n dX3_itemsIn_8 rfl (wp_iv2 dX3_itemsIn_9 k3_103 q_X3_firstItem (by decide) ha (by decide) (Nat.le_of_ble_eq_true rfl) g2 (wv_isub dX3_itemsIn_12 (pk_sub (by omega)) (wp_ireturn dX3_itemsIn_13 rfl rfl ⟨xret (by omega), rfl⟩)))))))))
theorem ic_init {d sz : Nat} {x1 x2 x3 x4 x5 y8 y9 y10 : Value} {Q : Option Value → xS → Prop} (hsz : sz ≤ 120) : ∀ (j k : Nat) (S : xS), k + j = sz + 1 → XC S → (∀ q, q < k → S.2.1 171 q = nI q) → (∀ S', xFl (fun i _ => i = 171) S S' → (∀ q, q ≤ sz → S'.2.1 171 q = nI q) → Wp false (d + 3) 0 cX0_itemChanges (some .int) false 51 [.ref 133, x1, x2, x3, x4, x5, .int (nI sz), .int (nI (sz + 1)), y8, y9, y10] [] S' Q) → Wp false (d + 3) 0 cX0_itemChanges (some .int) false 29 [.ref 133, x1, x2, x3, x4, x5, .int (nI sz), .int (nI k), y8, y9, y10] [] S Q := by
  intro j
  induction j with
  | zero =>
    intro k S hk hX h K
    have hkk : k = sz + 1 := by omega
    subst hkk
    refine wp_iload dX0_itemChanges_29 rfl (wp_iload dX0_itemChanges_31 rfl ?_)
    refine wn_icmp_gt dX0_itemChanges_33 rfl (by omega) (by omega) (fun c33 => ?_) (fun c33 => absurd c33 (by omega))
    exact K S (xFl.rf S) (fun q hq => h q (by omega))
  | succ j ih =>
    intro k S hk hX h K
    have F1 : xFl (fun i _ => i = 171) S (xSI S 171 k (nI k)) := (xFl.rf S).SI rfl
    refine wp_iload dX0_itemChanges_29 rfl (wp_iload dX0_itemChanges_31 rfl ?_)
    refine wn_icmp_gt dX0_itemChanges_33 rfl (by omega) (by omega) (fun c33 => absurd c33 (by omega)) (fun c33 => ?_)
    refine wp_aload_n dX0_itemChanges_36 rfl rfl (g0_28 dX0_itemChanges_37 (xsh hX sh_133) (xrr hX r133_4) (wp_iload dX0_itemChanges_40 rfl (wp_iload dX0_itemChanges_42 rfl (wn_iastore dX0_itemChanges_44 (xsh hX sh_171) rfl (by omega) (by decide) (wp_iinc dX0_itemChanges_45 rfl (nI_1 _) ⟨Nat.le_of_ble_eq_true rfl, Or.inr rfl⟩ rfl (wp_goto dX0_itemChanges_48 rfl ?_))))))
    refine ih (k + 1) (xSI S 171 k (nI k)) (by omega) hX (fun q hq => ?_) (fun S' f h' => K S' (F1.tt f) h')
    rcases Nat.lt_or_ge q k with w | w
    · exact xi (h q w) (Or.inr (by omega))
    · rw [show q = k by omega]; exact xI_same _ _ _ _
theorem ic_in {a b n1 n2 : Nat} {t1 t2 : Nat → Nat} {L1 L2 : List xLn} {l m d : Nat} (ho : xRo a) (hob : xRo b) (hl : l < L1.length) (hm : m < L2.length) {i : Nat} (hi : i < (xcI (L1.getD l (0, 0, []))).length) {Q : Option Value → xS → Prop} : ∀ (j k : Nat) (S : xS) (y10 : Value), k + j = (xcI (L2.getD m (0, 0, []))).length → XC S → xRV a S n1 t1 L1 → xRV b S n2 t2 L2 → (∀ q, q ≤ (xcI (L2.getD m (0, 0, []))).length → S.2.1 171 q = nI (if q ≤ k then xlv (fun p q => xsmi t1 ((xcI (L1.getD l (0, 0, []))).getD p (0, 0, 0)) t2 ((xcI (L2.getD m (0, 0, []))).getD q (0, 0, 0))) (i + 1) q else xlv (fun p q => xsmi t1 ((xcI (L1.getD l (0, 0, []))).getD p (0, 0, 0)) t2 ((xcI (L2.getD m (0, 0, []))).getD q (0, 0, 0))) i q)) → (∀ S' y8 y9 y10, xFl (fun i _ => i = 171) S S' → (∀ q, q ≤ (xcI (L2.getD m (0, 0, []))).length → S'.2.1 171 q = nI (xlv (fun p q => xsmi t1 ((xcI (L1.getD l (0, 0, []))).getD p (0, 0, 0)) t2 ((xcI (L2.getD m (0, 0, []))).getD q (0, 0, 0))) (i + 1) q)) → Wp false (d + 3) 0 cX0_itemChanges (some .int) false 173 [.ref 133, .ref a, .int (nI l), .ref b, .int (nI m), .int (nI (xof xcI L2 m)), .int (nI (xcI (L2.getD m (0, 0, []))).length), .int (nI (xof xcI L1 l + i)), y8, y9, y10] [] S' Q) → Wp false (d + 3) 0 cX0_itemChanges (some .int) false 91 [.ref 133, .ref a, .int (nI l), .ref b, .int (nI m), .int (nI (xof xcI L2 m)), .int (nI (xcI (L2.getD m (0, 0, []))).length), .int (nI (xof xcI L1 l + i)), .int (nI (xlv (fun p q => xsmi t1 ((xcI (L1.getD l (0, 0, []))).getD p (0, 0, 0)) t2 ((xcI (L2.getD m (0, 0, []))).getD q (0, 0, 0))) i k)), .int (nI (k + 1)), y10] [] S Q := by
  intro j
  induction j with
  | zero =>
    intro k S y10 hk hX hV1 hV2 h K
    have hkk : k = (xcI (L2.getD m (0, 0, []))).length := by omega
    subst hkk
    have h120 := xRok_120 hV2.2.2.2.2.2.2.1 hV2.2.2.2.2.2.2.2.1
    have e := xof_succ xcI L2 m hm
    have hle := xof_le xcI L2 (m + 1)
    refine wp_iload dX0_itemChanges_91 rfl (wp_iload dX0_itemChanges_93 rfl ?_)
    refine wn_icmp_gt dX0_itemChanges_95 rfl (by omega) (by omega) (fun c95 => ?_) (fun c95 => absurd c95 (by omega))
    exact K S _ _ _ (xFl.rf S) (fun q hq => by have := h q hq; rw [if_pos hq] at this; exact this)
  | succ j ih =>
    intro k S y10 hk hX hV1 hV2 h K
    have hou := ho.m
    have hobu := hob.m
    have ha := (ho.sh hX).1
    have h120 := xRok_120 hV2.2.2.2.2.2.2.1 hV2.2.2.2.2.2.2.2.1
    have h1201 := xRok_120 hV1.2.2.2.2.2.2.1 hV1.2.2.2.2.2.2.2.1
    have e := xof_succ xcI L2 m hm
    have hle := xof_le xcI L2 (m + 1)
    have hk2 : k < (xcI (L2.getD m (0, 0, []))).length := by omega
    obtain ⟨p1, p2⟩ := xof_lt hV1.2.2.2.2.2.2.1 hl hi
    obtain ⟨q1, q2⟩ := xof_lt hV2.2.2.2.2.2.2.1 hm hk2
    have gs := c_isSameItem d ho hob hX hV1 hV2 p1 q1
    rw [p2, q2] at gs
    have r1 := h (k + 1) (by omega)
    rw [if_neg (by omega)] at r1
    have r0 := h k (by omega)
    rw [if_pos (Nat.le_refl _)] at r0
    have b1 := xlv_b (fun p q => xsmi t1 ((xcI (L1.getD l (0, 0, []))).getD p (0, 0, 0)) t2 ((xcI (L2.getD m (0, 0, []))).getD q (0, 0, 0))) i k
    have b2 := xlv_b (fun p q => xsmi t1 ((xcI (L1.getD l (0, 0, []))).getD p (0, 0, 0)) t2 ((xcI (L2.getD m (0, 0, []))).getD q (0, 0, 0))) i (k + 1)
    have b3 := xlv_b (fun p q => xsmi t1 ((xcI (L1.getD l (0, 0, []))).getD p (0, 0, 0)) t2 ((xcI (L2.getD m (0, 0, []))).getD q (0, 0, 0))) (i + 1) k
    have hss := xlv_ss (fun p q => xsmi t1 ((xcI (L1.getD l (0, 0, []))).getD p (0, 0, 0)) t2 ((xcI (L2.getD m (0, 0, []))).getD q (0, 0, 0))) i k
    have hi120 : i < 120 := by omega
    have F1 : xFl (fun i _ => i = 171) S (xSI S 171 (k + 1) (nI (xlv (fun p q => xsmi t1 ((xcI (L1.getD l (0, 0, []))).getD p (0, 0, 0)) t2 ((xcI (L2.getD m (0, 0, []))).getD q (0, 0, 0))) (i + 1) (k + 1)))) := (xFl.rf S).SI rfl
    have nx (y10 : Value) : Wp false (d + 3) 0 cX0_itemChanges (some .int) false 91 [.ref 133, .ref a, .int (nI l), .ref b, .int (nI m), .int (nI (xof xcI L2 m)), .int (nI (xcI (L2.getD m (0, 0, []))).length), .int (nI (xof xcI L1 l + i)), .int (nI (xlv (fun p q => xsmi t1 ((xcI (L1.getD l (0, 0, []))).getD p (0, 0, 0)) t2 ((xcI (L2.getD m (0, 0, []))).getD q (0, 0, 0))) i (k + 1))), .int (nI (k + 1 + 1)), y10] [] (xSI S 171 (k + 1) (nI (xlv (fun p q => xsmi t1 ((xcI (L1.getD l (0, 0, []))).getD p (0, 0, 0)) t2 ((xcI (L2.getD m (0, 0, []))).getD q (0, 0, 0))) (i + 1) (k + 1)))) Q := by
      refine ih (k + 1) _ y10 (by omega) hX (hV1.fm (F1.m (R := fun _ _ => False)) (fun i k h => by omega)) (hV2.fm (F1.m (R := fun _ _ => False)) (fun i k h => by omega)) (fun q hq => ?_) (fun S' y8 y9 y10 f h' => K S' y8 y9 y10 (F1.tt f) h')
      rcases Decidable.em (q = k + 1) with w | w
      · subst w
        rw [if_pos (Nat.le_refl _)]
        exact xI_same _ _ _ _
      · have hq2 := xi (a := 171) (k := k + 1) (v := nI (xlv (fun p q => xsmi t1 ((xcI (L1.getD l (0, 0, []))).getD p (0, 0, 0)) t2 ((xcI (L2.getD m (0, 0, []))).getD q (0, 0, 0))) (i + 1) (k + 1))) (h q hq) (Or.inr w)
        rcases Nat.lt_or_ge k q with w2 | w2
        · rw [if_neg (by omega)] at hq2
          rw [if_neg (by omega)]
          exact hq2
        · rw [if_pos w2] at hq2
          rw [if_pos (by omega)]
          exact hq2
    cases hs : xsmi t1 ((xcI (L1.getD l (0, 0, []))).getD i (0, 0, 0)) t2 ((xcI (L2.getD m (0, 0, []))).getD k (0, 0, 0)) with
    | true =>
      rw [hs] at gs
      rw [if_pos hs, Nat.add_zero] at hss
      refine wp_iload dX0_itemChanges_91 rfl (wp_iload dX0_itemChanges_93 rfl ?_)
      refine wn_icmp_gt dX0_itemChanges_95 rfl (by omega) (by omega) (fun c95 => absurd c95 (by omega)) (fun c95 => ?_)
      refine wp_iload dX0_itemChanges_98 rfl (wp_aload_n dX0_itemChanges_100 rfl rfl (wp_iload dX0_itemChanges_101 rfl (wp_aload_n dX0_itemChanges_103 rfl rfl (wp_iload dX0_itemChanges_104 rfl (wp_iload dX0_itemChanges_106 rfl (wv_iadd dX0_itemChanges_108 (nI_add _ _) (wp_iconst (v := nI 1) dX0_itemChanges_109 rfl (wv_isub dX0_itemChanges_110 (pk_sub (by omega)) (wp_iv4 dX0_itemChanges_111 k0_77 q_X3_isSameItem (by decide) ha (by decide) (Nat.le_of_ble_eq_true rfl) gs ?_)))))))))
      refine wb_if_eq dX0_itemChanges_114 rfl (fun c114 => absurd c114 (by decide)) (fun c114 => ?_)
      exact wp_iconst (v := nI 0) dX0_itemChanges_117 rfl (wp_goto dX0_itemChanges_118 rfl (wv_iadd dX0_itemChanges_122 (nI_add _ _) (wp_istore dX0_itemChanges_123 ⟨Nat.le_of_ble_eq_true rfl, Or.inr rfl⟩ rfl (wp_aload_n dX0_itemChanges_125 rfl rfl (g0_28 dX0_itemChanges_126 (xsh hX sh_133) (xrr hX r133_4) (wp_iload dX0_itemChanges_129 rfl (wn_iaload dX0_itemChanges_131 (xsh hX sh_171) rfl (by omega) (by decide) r1 (wp_istore dX0_itemChanges_132 ⟨Nat.le_of_ble_eq_true rfl, Or.inr rfl⟩ rfl (wp_aload_n dX0_itemChanges_134 rfl rfl (g0_28 dX0_itemChanges_135 (xsh hX sh_133) (xrr hX r133_4) (wp_iload dX0_itemChanges_138 rfl (wp_iload dX0_itemChanges_140 rfl (wp_aload_n dX0_itemChanges_142 rfl rfl (g0_28 dX0_itemChanges_143 (xsh hX sh_133) (xrr hX r133_4) (wp_iload dX0_itemChanges_146 rfl (wn_iaload dX0_itemChanges_148 (xsh hX sh_171) rfl (by omega) (by decide) r1 (wp_aload_n dX0_itemChanges_149 rfl rfl (g0_28 dX0_itemChanges_150 (xsh hX sh_133) (xrr hX r133_4) (wp_iload dX0_itemChanges_153 rfl (wp_iconst (v := nI 1) dX0_itemChanges_155 rfl (wv_isub dX0_itemChanges_156 (pk_sub (by omega)) (wn_iaload dX0_itemChanges_157 (xsh hX sh_171) rfl (by omega) (by decide) r0 (wn_min dX0_itemChanges_158 k0_42 (Nat.le_of_ble_eq_true rfl) (by omega) (by omega) rfl (wp_iconst (v := nI 1) dX0_itemChanges_161 rfl (wv_iadd dX0_itemChanges_162 (nI_add _ _) (wn_min dX0_itemChanges_163 k0_42 (Nat.le_of_ble_eq_true rfl) (by omega) (by omega) hss.symm (wn_iastore dX0_itemChanges_166 (xsh hX sh_171) rfl (by omega) (by decide) (wp_iinc dX0_itemChanges_167 rfl (nI_1 _) ⟨Nat.le_of_ble_eq_true rfl, Or.inr rfl⟩ rfl (wp_goto dX0_itemChanges_170 rfl (nx _))))))))))))))))))))))))))))))
    | false =>
      rw [hs] at gs
      rw [if_neg (by rw [hs]; decide)] at hss
      refine wp_iload dX0_itemChanges_91 rfl (wp_iload dX0_itemChanges_93 rfl ?_)
      refine wn_icmp_gt dX0_itemChanges_95 rfl (by omega) (by omega) (fun c95 => absurd c95 (by omega)) (fun c95 => ?_)
      refine wp_iload dX0_itemChanges_98 rfl (wp_aload_n dX0_itemChanges_100 rfl rfl (wp_iload dX0_itemChanges_101 rfl (wp_aload_n dX0_itemChanges_103 rfl rfl (wp_iload dX0_itemChanges_104 rfl (wp_iload dX0_itemChanges_106 rfl (wv_iadd dX0_itemChanges_108 (nI_add _ _) (wp_iconst (v := nI 1) dX0_itemChanges_109 rfl (wv_isub dX0_itemChanges_110 (pk_sub (by omega)) (wp_iv4 dX0_itemChanges_111 k0_77 q_X3_isSameItem (by decide) ha (by decide) (Nat.le_of_ble_eq_true rfl) gs ?_)))))))))
      refine wb_if_eq dX0_itemChanges_114 rfl (fun c114 => ?_) (fun c114 => absurd c114 (by decide))
      exact wp_iconst (v := nI 1) dX0_itemChanges_121 rfl (wv_iadd dX0_itemChanges_122 (nI_add _ _) (wp_istore dX0_itemChanges_123 ⟨Nat.le_of_ble_eq_true rfl, Or.inr rfl⟩ rfl (wp_aload_n dX0_itemChanges_125 rfl rfl (g0_28 dX0_itemChanges_126 (xsh hX sh_133) (xrr hX r133_4) (wp_iload dX0_itemChanges_129 rfl (wn_iaload dX0_itemChanges_131 (xsh hX sh_171) rfl (by omega) (by decide) r1 (wp_istore dX0_itemChanges_132 ⟨Nat.le_of_ble_eq_true rfl, Or.inr rfl⟩ rfl (wp_aload_n dX0_itemChanges_134 rfl rfl (g0_28 dX0_itemChanges_135 (xsh hX sh_133) (xrr hX r133_4) (wp_iload dX0_itemChanges_138 rfl (wp_iload dX0_itemChanges_140 rfl (wp_aload_n dX0_itemChanges_142 rfl rfl (g0_28 dX0_itemChanges_143 (xsh hX sh_133) (xrr hX r133_4) (wp_iload dX0_itemChanges_146 rfl (wn_iaload dX0_itemChanges_148 (xsh hX sh_171) rfl (by omega) (by decide) r1 (wp_aload_n dX0_itemChanges_149 rfl rfl (g0_28 dX0_itemChanges_150 (xsh hX sh_133) (xrr hX r133_4) (wp_iload dX0_itemChanges_153 rfl (wp_iconst (v := nI 1) dX0_itemChanges_155 rfl (wv_isub dX0_itemChanges_156 (pk_sub (by omega)) (wn_iaload dX0_itemChanges_157 (xsh hX sh_171) rfl (by omega) (by decide) r0 (wn_min dX0_itemChanges_158 k0_42 (Nat.le_of_ble_eq_true rfl) (by omega) (by omega) rfl (wp_iconst (v := nI 1) dX0_itemChanges_161 rfl (wv_iadd dX0_itemChanges_162 (nI_add _ _) (wn_min dX0_itemChanges_163 k0_42 (Nat.le_of_ble_eq_true rfl) (by omega) (by omega) hss.symm (wn_iastore dX0_itemChanges_166 (xsh hX sh_171) rfl (by omega) (by decide) (wp_iinc dX0_itemChanges_167 rfl (nI_1 _) ⟨Nat.le_of_ble_eq_true rfl, Or.inr rfl⟩ rfl (wp_goto dX0_itemChanges_170 rfl (nx _)))))))))))))))))))))))))))))
