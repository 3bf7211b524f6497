/-! A RHYME of the class: what its methods answer -/
/-- the class's items of a line: TIMES is one of kind 5 -/
def xcI (ln : xLn) : List xIt := (if 1 < ln.1 then [(5, ln.2.1, 2)] else []) ++ ln.2.2
theorem xcit_cf (ln : xLn) : xcit ln = (xcI ln).map (fun o => (o.2.1, o.1)) := by
  unfold xcit xcI
  split <;> simp
theorem xcs_cf (ln : xLn) : xcs ln = (xcI ln).map (fun o => (o.2.1, o.1, xisz o)) := by
  unfold xcs xcI
  split <;> simp [xisz]
theorem xcit_all (L : List xLn) : L.flatMap xcit = (L.flatMap xcI).map (fun o => (o.2.1, o.1)) := by
  rw [List.map_flatMap]
  congr 1
  funext ln
  exact xcit_cf ln
theorem xcs_all (L : List xLn) : L.flatMap xcs = (L.flatMap xcI).map (fun o => (o.2.1, o.1, xisz o)) := by
  rw [List.map_flatMap]
  congr 1
  funext ln
  exact xcs_cf ln
theorem xmap_get {α β : Type} (f : α → β) (l : List α) (d : α) (e : β) (i : Nat) (hi : i < l.length) : (l.map f).getD i e = f (l.getD i d) := by
  simp only [List.getD_eq_getElem?_getD, List.getElem?_map, List.getElem?_eq_getElem hi]
  rfl
theorem xof_cf (L : List xLn) (l : Nat) : xof xcit L l = xof xcI L l := by
  unfold xof
  rw [xcit_all, List.length_map]
/-- a rhyme of the class -/
def xRV (a : Nat) (S : xS) (n : Nat) (t : Nat → Nat) (L : List xLn) : Prop :=
  S.2.1 a 1 = nI n ∧ (∀ k, k < n → S.2.1 (a + 1) k = nI (t k)) ∧ S.2.1 a 5 = nI (L.flatMap xcI).length ∧ (∀ i, i < (L.flatMap xcI).length → S.2.1 (a + 2) i = nI ((L.flatMap xcI).getD i (0, 0, 0)).2.1 ∧ S.2.1 (a + 3) i = nI ((L.flatMap xcI).getD i (0, 0, 0)).1) ∧ S.2.1 a 7 = nI L.length ∧ (∀ l, l ≤ L.length → S.2.1 (a + 5) l = nI (xof xcI L l)) ∧ xRok t n L ∧ n ≤ 240 ∧ L.length ≤ 16 ∧ ∀ k, k < n → t k < 256
theorem xRR_V {a n : Nat} {S : xS} {t : Nat → Nat} {L : List xLn} (h : xRR a S n t (L.flatMap xcit) (xbeg xcit L)) (hok : xRok t n L) (hn : n ≤ 240) (hL : L.length ≤ 16) (ht : ∀ k, k < n → t k < 256) : xRV a S n t L := by
  obtain ⟨h1, h2, h3, h4, h5, h6⟩ := h
  have hlen : (L.flatMap xcit).length = (L.flatMap xcI).length := by rw [xcit_all, List.length_map]
  have hbl := xbeg_len xcit L
  refine ⟨h1, h2, by rw [← hlen]; exact h3, fun i hi => ?_, by rw [h5, hbl]; rfl, fun l hl => ?_, hok, hn, hL, ht⟩
  · have := h4 i (by rw [hlen]; exact hi)
    rw [xcit_all, xmap_get _ _ (0, 0, 0) _ i hi] at this
    exact this
  · have := h6 l (by rw [hbl]; omega)
    rw [xbeg_get _ _ _ hl, xof_cf] at this
    exact this
theorem xRV.fm {a n : Nat} {S S' : xS} {t : Nat → Nat} {L : List xLn} {P R : Nat → Nat → Prop} (h : xRV a S n t L) (hf : xFm P R S S') (hn : ∀ i k, ((i = a ∧ (k = 1 ∨ k = 5 ∨ k = 7)) ∨ i = a + 1 ∨ i = a + 2 ∨ i = a + 3 ∨ i = a + 5) → ¬ P i k) : xRV a S' n t L := by
  obtain ⟨h1, h2, h3, h4, h5, h6, h7⟩ := h
  exact ⟨hf.i h1 (hn _ _ (by omega)), fun k hk => hf.i (h2 k hk) (hn _ _ (by omega)), hf.i h3 (hn _ _ (by omega)), fun i hi => ⟨hf.i (h4 i hi).1 (hn _ _ (by omega)), hf.i (h4 i hi).2 (hn _ _ (by omega))⟩, hf.i h5 (hn _ _ (by omega)), fun l hl => hf.i (h6 l hl) (hn _ _ (by omega)), h7⟩
/-- what the chain tells of an item -/
theorem xRok_ch {t : Nat → Nat} {n : Nat} {L : List xLn} (h : xRok t n L) {i : Nat} (hi : i < (L.flatMap xcI).length) : ((L.flatMap xcI).getD i (0, 0, 0)).2.1 + xisz ((L.flatMap xcI).getD i (0, 0, 0)) + 1 = (if i + 1 < (L.flatMap xcI).length then ((L.flatMap xcI).getD (i + 1) (0, 0, 0)).2.1 else n + 1) ∧ ((L.flatMap xcI).getD i (0, 0, 0)).2.1 + xisz ((L.flatMap xcI).getD i (0, 0, 0)) ≤ n := by
  have hc := h.2.1
  have hl : (L.flatMap xcs).length = (L.flatMap xcI).length := by rw [xcs_all, List.length_map]
  obtain ⟨g1, g2⟩ := xchn_get _ _ _ i hc (by rw [hl]; exact hi)
  rw [hl] at g1
  rw [xcs_all, xmap_get _ _ (0, 0, 0) _ i hi] at g1 g2
  refine ⟨?_, Nat.le_of_succ_le_succ g2⟩
  split
  · rename_i q
    rw [if_pos q, xmap_get _ _ (0, 0, 0) _ (i + 1) q] at g1
    exact g1
  · rename_i q
    rw [if_neg q] at g1
    exact g1
theorem xRok_len {t : Nat → Nat} {n : Nat} {L : List xLn} (h : xRok t n L) : (L.flatMap xcI).length ≤ n + 1 := by
  have := xchn_le _ _ _ h.2.1
  rw [xcs_all, List.length_map] at this
  omega
theorem xRok_mem {t : Nat → Nat} {n : Nat} {L : List xLn} (h : xRok t n L) {o : xIt} (ho : o ∈ L.flatMap xcI) : xiok t o ∨ (o.1 = 5 ∧ o.2.2 = 2 ∧ 50 ≤ t o.2.1 ∧ t o.2.1 ≤ 57 ∧ t (o.2.1 + 1) = 120) := by
  obtain ⟨ln, h1, h2⟩ := List.mem_flatMap.mp ho
  obtain ⟨z1, z2, z3, z4, z5⟩ := h.1 ln h1
  unfold xcI at h2
  rcases List.mem_append.mp h2 with q | q
  · split at q
    · rename_i w
      obtain ⟨y1, y2⟩ := z3 w
      rw [List.mem_singleton.mp q]
      exact Or.inr ⟨rfl, rfl, by show 50 ≤ t ln.2.1; omega, by show t ln.2.1 ≤ 57; omega, y2⟩
    · cases q
  · exact Or.inl (z5 o q)
theorem xchn_2 : ∀ (Q : List (Nat × Nat × Nat)) (b e : Nat), xchn b Q e → (∀ q ∈ Q, 1 ≤ q.2.2) → b + 2 * Q.length ≤ e
  | [], b, e, h, _ => by have h' : b = e := h; simp; omega
  | a :: Q, b, e, h, hp => by
    have := xchn_2 Q _ _ h.2 (fun q hq => hp q (List.mem_cons_of_mem _ hq))
    have := hp a (List.mem_cons_self ..)
    simp only [List.length_cons]
    omega
theorem xRok_120 {t : Nat → Nat} {n : Nat} {L : List xLn} (h : xRok t n L) (hn : n ≤ 240) : (L.flatMap xcI).length ≤ 120 := by
  have := xchn_2 _ _ _ h.2.1 (fun q hq => by
    rw [xcs_all] at hq
    obtain ⟨o, h1, h2⟩ := List.mem_map.mp hq
    subst h2
    show 1 ≤ xisz o
    unfold xisz
    rcases xRok_mem h h1 with w | w
    · obtain ⟨w0, w1, w2, w3, w4, w5⟩ := w
      split
      · omega
      · rcases (show o.1 = 0 ∨ o.1 = 1 ∨ o.1 = 2 ∨ o.1 = 3 ∨ o.1 = 4 by omega) with e | e | e | e | e
        · exact (w0 (Or.inl e)).1
        · omega
        · have := (w2 e).2; omega
        · have := (w3 e).2; omega
        · have := (w4 e).2; omega
    · split <;> omega)
  rw [xcs_all, List.length_map] at this
  omega
theorem c_firstItem {a n : Nat} {t : Nat → Nat} {L : List xLn} (d : Nat) (ho : xRo a) {S : xS} (hX : XC S) (hV : xRV a S n t L) {l : Nat} (hl : l ≤ L.length) : xcall false d j_X3_firstItem [.ref a, .int (nI l)] S (some (.int (nI (xof xcI L l)))) S := by
  have hou := ho
  unfold xRo at hou
  obtain ⟨ha, h1, h2, h3, h4, h5, q0, q2, q3, q4, q6⟩ := ho.sh hX
  obtain ⟨v1, v2, v3, v4, v5, v6, v7, v8, v9, v10⟩ := id hV
  have vlen := xRok_len v7
  have hf := v6 l hl
  refine xcall_intro (ls := [.ref a, .int (nI l)]) q_X3_firstItem (by decide) rfl (Nat.le_of_ble_eq_true rfl) rfl ?_
  refine wp_iload_n dX3_firstItem_0 rfl ?_
  refine wn_if_lt dX3_firstItem_1 rfl (by omega) ?_
  refine wp_iload_n dX3_firstItem_4 rfl (wp_aload_n dX3_firstItem_5 rfl rfl (gv3_39 dX3_firstItem_6 ha v5 ?_))
  refine wn_icmp_gt dX3_firstItem_9 rfl (by omega) (by omega) (fun c9 => absurd c9 (by omega)) (fun c9 => ?_)
  refine wp_iload_n dX3_firstItem_12 rfl (wp_aload_n dX3_firstItem_13 rfl rfl (g3_25 dX3_firstItem_14 ha q6 (wp_alen dX3_firstItem_17 h5 ⟨by decide, by decide⟩ rfl ?_)))
  refine wn_icmp_ge dX3_firstItem_18 rfl (by omega) (by omega) (fun c18 => absurd c18 (by omega)) (fun c18 => ?_)
  exact wp_aload_n dX3_firstItem_21 rfl rfl (g3_25 dX3_firstItem_22 ha q6 (wp_iload_n dX3_firstItem_25 rfl (wn_iaload dX3_firstItem_26 h5 rfl (by omega) (by decide) hf (wp_goto dX3_firstItem_27 rfl (wp_ireturn dX3_firstItem_34 rfl rfl ⟨rfl, rfl⟩)))))
theorem c_start {a n : Nat} {t : Nat → Nat} {L : List xLn} (d : Nat) (ho : xRo a) {S : xS} (hX : XC S) (hV : xRV a S n t L) {i : Nat} (hi : i < (L.flatMap xcI).length) : xcall false d j_X3_start [.ref a, .int (nI i)] S (some (.int (nI ((L.flatMap xcI).getD i (0, 0, 0)).2.1))) S := by
  have hou := ho
  unfold xRo at hou
  obtain ⟨ha, h1, h2, h3, h4, h5, q0, q2, q3, q4, q6⟩ := ho.sh hX
  obtain ⟨v1, v2, v3, v4, v5, v6, v7, v8, v9, v10⟩ := id hV
  have vlen := xRok_len v7
  have hf := (v4 i hi).1
  have h120 := xRok_120 v7 v8
  refine xcall_intro (ls := [.ref a, .int (nI i)]) q_X3_start (by decide) rfl (Nat.le_of_ble_eq_true rfl) rfl ?_
  refine wp_iload_n dX3_start_0 rfl ?_
  refine wn_if_lt dX3_start_1 rfl (by omega) ?_
  refine wp_iload_n dX3_start_4 rfl (wp_aload_n dX3_start_5 rfl rfl (gv3_36 dX3_start_6 ha v3 ?_))
  refine wn_icmp_ge dX3_start_9 rfl (by omega) (by omega) (fun c9 => absurd c9 (by omega)) (fun c9 => ?_)
  refine wp_iload_n dX3_start_12 rfl (wp_aload_n dX3_start_13 rfl rfl (g3_15 dX3_start_14 ha q2 (wp_alen dX3_start_17 h2 ⟨by decide, by decide⟩ rfl ?_)))
  refine wn_icmp_ge dX3_start_18 rfl (by omega) (by omega) (fun c18 => absurd c18 (by omega)) (fun c18 => ?_)
  exact wp_aload_n dX3_start_21 rfl rfl (g3_15 dX3_start_22 ha q2 (wp_iload_n dX3_start_25 rfl (wn_iaload dX3_start_26 h2 rfl (by omega) (by decide) hf (wp_goto dX3_start_27 rfl (wp_ireturn dX3_start_34 rfl rfl ⟨rfl, rfl⟩)))))
theorem c_isize {a n : Nat} {t : Nat → Nat} {L : List xLn} (d : Nat) (ho : xRo a) {S : xS} (hX : XC S) (hV : xRV a S n t L) {i : Nat} (hi : i < (L.flatMap xcI).length) : xcall false (d + 1) j_X3_size [.ref a, .int (nI i)] S (some (.int (nI (xisz ((L.flatMap xcI).getD i (0, 0, 0)))))) S := by
  have hou := ho
  unfold xRo at hou
  obtain ⟨ha, h1, h2, h3, h4, h5, q0, q2, q3, q4, q6⟩ := ho.sh hX
  obtain ⟨v1, v2, v3, v4, v5, v6, v7, v8, v9, v10⟩ := id hV
  have vlen := xRok_len v7
  have g1 := c_start d ho hX hV hi
  obtain ⟨c1, c2⟩ := xRok_ch v7 hi
  have h120 := xRok_120 v7 v8
  rcases Nat.lt_or_ge (i + 1) (L.flatMap xcI).length with q | q
  · rw [if_pos q] at c1
    have g2 := c_start d ho hX hV q
    refine xcall_intro (ls := [.ref a, .int (nI i)]) q_X3_size (by decide) rfl (Nat.le_of_ble_eq_true rfl) rfl ?_
    refine wp_iload_n dX3_size_0 rfl (wp_iconst (v := nI 1) dX3_size_1 rfl (wv_iadd dX3_size_2 (nI_add _ _) (wp_aload_n dX3_size_3 rfl rfl (gv3_36 dX3_size_4 ha v3 ?_))))
    refine wn_icmp_ge dX3_size_7 rfl (by omega) (by omega) (fun c7 => absurd c7 (by omega)) (fun c7 => ?_)
    exact wp_aload_n dX3_size_10 rfl rfl (wp_iload_n dX3_size_11 rfl (wp_iconst (v := nI 1) dX3_size_12 rfl (wv_iadd dX3_size_13 (nI_add _ _) (wp_iv2 dX3_size_14 k3_107 q_X3_start (by decide) ha (by decide) (Nat.le_of_ble_eq_true rfl) g2 (wp_iconst (v := nI 1) dX3_size_17 rfl (wv_isub dX3_size_18 (pk_sub (by omega)) (wp_goto dX3_size_19 rfl (wp_aload_n dX3_size_26 rfl rfl (wp_iload_n dX3_size_27 rfl (wp_iv2 dX3_size_28 k3_107 q_X3_start (by decide) ha (by decide) (Nat.le_of_ble_eq_true rfl) g1 (wv_isub dX3_size_31 (pk_sub (by omega)) (wp_ireturn dX3_size_32 rfl rfl ⟨xret (by omega), rfl⟩))))))))))))
  · rw [if_neg (by omega)] at c1
    refine xcall_intro (ls := [.ref a, .int (nI i)]) q_X3_size (by decide) rfl (Nat.le_of_ble_eq_true rfl) rfl ?_
    refine wp_iload_n dX3_size_0 rfl (wp_iconst (v := nI 1) dX3_size_1 rfl (wv_iadd dX3_size_2 (nI_add _ _) (wp_aload_n dX3_size_3 rfl rfl (gv3_36 dX3_size_4 ha v3 ?_))))
    refine wn_icmp_ge dX3_size_7 rfl (by omega) (by omega) (fun c7 => ?_) (fun c7 => absurd c7 (by omega))
    exact wp_aload_n dX3_size_22 rfl rfl (gv3_57 dX3_size_23 ha v1 (wp_aload_n dX3_size_26 rfl rfl (wp_iload_n dX3_size_27 rfl (wp_iv2 dX3_size_28 k3_107 q_X3_start (by decide) ha (by decide) (Nat.le_of_ble_eq_true rfl) g1 (wv_isub dX3_size_31 (pk_sub (by omega)) (wp_ireturn dX3_size_32 rfl rfl ⟨xret (by omega), rfl⟩))))))
theorem c_kindOf {a n : Nat} {t : Nat → Nat} {L : List xLn} (d : Nat) (ho : xRo a) {S : xS} (hX : XC S) (hV : xRV a S n t L) {i : Nat} (hi : i < (L.flatMap xcI).length) : xcall false d j_X3_kindOf [.ref a, .int (nI i)] S (some (.int (nI ((L.flatMap xcI).getD i (0, 0, 0)).1))) S := by
  have hou := ho
  unfold xRo at hou
  obtain ⟨ha, h1, h2, h3, h4, h5, q0, q2, q3, q4, q6⟩ := ho.sh hX
  obtain ⟨v1, v2, v3, v4, v5, v6, v7, v8, v9, v10⟩ := id hV
  have vlen := xRok_len v7
  have hf := (v4 i hi).2
  have h120 := xRok_120 v7 v8
  refine xcall_intro (ls := [.ref a, .int (nI i)]) q_X3_kindOf (by decide) rfl (Nat.le_of_ble_eq_true rfl) rfl ?_
  refine wp_iload_n dX3_kindOf_0 rfl ?_
  refine wn_if_lt dX3_kindOf_1 rfl (by omega) ?_
  refine wp_iload_n dX3_kindOf_4 rfl (wp_aload_n dX3_kindOf_5 rfl rfl (gv3_36 dX3_kindOf_6 ha v3 ?_))
  refine wn_icmp_ge dX3_kindOf_9 rfl (by omega) (by omega) (fun c9 => absurd c9 (by omega)) (fun c9 => ?_)
  refine wp_iload_n dX3_kindOf_12 rfl (wp_bipush (v := nI 120) dX3_kindOf_13 rfl ?_)
  refine wn_icmp_ge dX3_kindOf_15 rfl (by omega) (by omega) (fun c15 => absurd c15 (by omega)) (fun c15 => ?_)
  exact wp_aload_n dX3_kindOf_18 rfl rfl (g3_19 dX3_kindOf_19 ha q3 (wp_iload_n dX3_kindOf_22 rfl (wn_iaload dX3_kindOf_23 h3 rfl (by omega) (by decide) hf (wp_goto dX3_kindOf_24 rfl (wp_ireturn dX3_kindOf_28 rfl rfl ⟨rfl, rfl⟩)))))
theorem c_byteAt {a n : Nat} {t : Nat → Nat} {L : List xLn} (d : Nat) (ho : xRo a) {S : xS} (hX : XC S) (hV : xRV a S n t L) {i : Nat} (hi : i < n) : xcall false d j_X3_byteAt [.ref a, .int (nI i)] S (some (.int (nI (t i)))) S := by
  have hou := ho
  unfold xRo at hou
  obtain ⟨ha, h1, h2, h3, h4, h5, q0, q2, q3, q4, q6⟩ := ho.sh hX
  obtain ⟨v1, v2, v3, v4, v5, v6, v7, v8, v9, v10⟩ := id hV
  have vlen := xRok_len v7
  have hf := v2 i hi
  have hc := v10 i hi
  refine xcall_intro (ls := [.ref a, .int (nI i)]) q_X3_byteAt (by decide) rfl (Nat.le_of_ble_eq_true rfl) rfl ?_
  refine wp_iload_n dX3_byteAt_0 rfl ?_
  refine wn_if_lt dX3_byteAt_1 rfl (by omega) ?_
  refine wp_iload_n dX3_byteAt_4 rfl (wp_aload_n dX3_byteAt_5 rfl rfl (gv3_57 dX3_byteAt_6 ha v1 ?_))
  refine wn_icmp_ge dX3_byteAt_9 rfl (by omega) (by omega) (fun c9 => absurd c9 (by omega)) (fun c9 => ?_)
  refine wp_iload_n dX3_byteAt_12 rfl (wp_aload_n dX3_byteAt_13 rfl rfl (g3_11 dX3_byteAt_14 ha q0 (wp_alen dX3_byteAt_17 h1 ⟨by decide, by decide⟩ rfl ?_)))
  refine wn_icmp_ge dX3_byteAt_18 rfl (by omega) (by omega) (fun c18 => absurd c18 (by omega)) (fun c18 => ?_)
  exact wp_aload_n dX3_byteAt_21 rfl rfl (g3_11 dX3_byteAt_22 ha q0 (wp_iload_n dX3_byteAt_25 rfl (wn_caload dX3_byteAt_26 h1 rfl (by omega) (by decide) hf (wp_goto dX3_byteAt_27 rfl (wp_ireturn dX3_byteAt_32 rfl (congrArg Value.int (xnc (c := t i) (by omega))) ⟨rfl, rfl⟩)))))
