/-! A RHYME's text: the other states of the class's reader -/
theorem xCR_st {a s s' w : Nat} {Q : List (Nat × Nat)} {F : List Nat} {tb sb : Bool} {S : xS} (h : xCR a S (s, Q, F, w, tb, sb)) (h4 : s' ≠ 4) : xCR a (xSI S a 11 (nI s')) (s', Q, F, w, tb, sb) := by
  obtain ⟨h1, h2, h3, h4', h5, h6, h7, h8⟩ := h
  exact ⟨xi h1 (Or.inr (by decide)), fun i hi => ⟨xi (h2 i hi).1 (Or.inl (by omega)), xi (h2 i hi).2 (Or.inl (by omega))⟩, xi h3 (Or.inr (by decide)), fun i hi => xi (h4' i hi) (Or.inl (by omega)), xI_same _ _ _ _, fun e => absurd e h4, xi h7 (Or.inr (by decide)), xi h8 (Or.inr (by decide))⟩
theorem xCR_tb {a s w : Nat} {Q : List (Nat × Nat)} {F : List Nat} {tb tb' sb : Bool} {S : xS} (h : xCR a S (s, Q, F, w, tb, sb)) : xCR a (xSI S a 13 (xB tb')) (s, Q, F, w, tb', sb) := by
  obtain ⟨h1, h2, h3, h4', h5, h6, h7, h8⟩ := h
  exact ⟨xi h1 (Or.inr (by decide)), fun i hi => ⟨xi (h2 i hi).1 (Or.inl (by omega)), xi (h2 i hi).2 (Or.inl (by omega))⟩, xi h3 (Or.inr (by decide)), fun i hi => xi (h4' i hi) (Or.inl (by omega)), xi h5 (Or.inr (by decide)), fun e => xi (h6 e) (Or.inr (by decide)), xI_same _ _ _ _, xi h8 (Or.inr (by decide))⟩
theorem xCR_line {a s w : Nat} {Q : List (Nat × Nat)} {F : List Nat} {tb sb : Bool} {S : xS} (h : xCR a S (s, Q, F, w, tb, sb)) : xCR a (xSI (xSI (xSI S (a + 5) F.length (nI Q.length)) a 7 (nI (F.length + 1))) a 11 (nI 0)) (0, Q, F ++ [Q.length], w, tb, sb) := by
  obtain ⟨h1, h2, h3, h4', h5, h6, h7, h8⟩ := h
  have hl := xlen1 F Q.length
  refine ⟨xi (xi (xi h1 (Or.inl (by omega))) (Or.inr (by decide))) (Or.inr (by decide)), fun i hi => ⟨xi (xi (xi (h2 i hi).1 (Or.inl (by omega))) (Or.inl (by omega))) (Or.inl (by omega)), xi (xi (xi (h2 i hi).2 (Or.inl (by omega))) (Or.inl (by omega))) (Or.inl (by omega))⟩, ?_, fun i hi => ?_, xI_same _ _ _ _, fun e => absurd e (fun w => by cases w), xi (xi (xi h7 (Or.inl (by omega))) (Or.inr (by decide))) (Or.inr (by decide)), xi (xi (xi h8 (Or.inl (by omega))) (Or.inr (by decide))) (Or.inr (by decide))⟩
  · rw [hl]; exact xi (xI_same _ _ _ _) (Or.inr (by decide))
  · rw [xgetD_app i hi]
    rw [hl] at hi
    split
    · rename_i q; exact xi (xi (xi (h4' i q) (Or.inr (by omega))) (Or.inl (by omega))) (Or.inl (by omega))
    · rw [show i = F.length by omega]; exact xi (xi (xI_same _ _ _ _) (Or.inl (by omega))) (Or.inl (by omega))
theorem xqset_len (Q : List (Nat × Nat)) : (xqset Q).length = Q.length := by unfold xqset; rw [List.length_set]
theorem xqset_get (Q : List (Nat × Nat)) (i : Nat) (hi : i < Q.length) : (xqset Q).getD i (0, 0) = if i = Q.length - 1 then ((Q.getD i (0, 0)).1, 1) else Q.getD i (0, 0) := by
  unfold xqset
  simp only [List.getD_eq_getElem?_getD, List.getElem?_set]
  split
  · rename_i e
    rw [if_pos (by omega), if_pos e.symm, e]
    rfl
  · rename_i e
    rw [if_neg (fun w => e w.symm)]
theorem xCR_spell {a s w : Nat} {Q : List (Nat × Nat)} {F : List Nat} {tb sb : Bool} {S : xS} (h : xCR a S (s, Q, F, w, tb, sb)) (hq : 0 < Q.length) : xCR a (xSI (xSI S (a + 3) (Q.length - 1) (nI 1)) a 11 (nI 5)) (5, xqset Q, F, w, tb, sb) := by
  obtain ⟨h1, h2, h3, h4', h5, h6, h7, h8⟩ := h
  have hl := xqset_len Q
  refine ⟨?_, fun i hi => ?_, xi (xi h3 (Or.inl (by omega))) (Or.inr (by decide)), fun i hi => xi (xi (h4' i hi) (Or.inl (by omega))) (Or.inl (by omega)), xI_same _ _ _ _, fun e => absurd e (fun w => by cases w), xi (xi h7 (Or.inl (by omega))) (Or.inr (by decide)), xi (xi h8 (Or.inl (by omega))) (Or.inr (by decide))⟩
  · show _ = nI (xqset Q).length
    rw [hl]; exact xi (xi h1 (Or.inl (by omega))) (Or.inr (by decide))
  · have hi' : i < (xqset Q).length := hi
    rw [hl] at hi'
    show _ = nI ((xqset Q).getD i (0, 0)).1 ∧ _ = nI ((xqset Q).getD i (0, 0)).2
    rw [xqset_get Q i hi']
    split
    · rename_i e
      subst e
      exact ⟨xi (xi (h2 _ hi').1 (Or.inl (by omega))) (Or.inl (by omega)), xi (xI_same _ _ _ _) (Or.inl (by omega))⟩
    · exact ⟨xi (xi (h2 _ hi').1 (Or.inl (by omega))) (Or.inl (by omega)), xi (xi (h2 _ hi').2 (Or.inr (by omega))) (Or.inl (by omega))⟩
theorem xFR1_11 {a : Nat} {x : Int32} {S S1 : xS} (h : xFl (xFR1 a) S S1) : xFl (xFR1 a) S (xSI S1 a 11 x) := h.SI (Or.inl ⟨rfl, by omega⟩)
theorem xFR1_13 {a : Nat} {x : Int32} {S S1 : xS} (h : xFl (xFR1 a) S S1) : xFl (xFR1 a) S (xSI S1 a 13 x) := h.SI (Or.inl ⟨rfl, by omega⟩)
theorem xFR1_7 {a : Nat} {x : Int32} {S S1 : xS} (h : xFl (xFR1 a) S S1) : xFl (xFR1 a) S (xSI S1 a 7 x) := h.SI (Or.inl ⟨rfl, by omega⟩)
theorem xFR1_12 {a : Nat} {x : Int32} {S S1 : xS} (h : xFl (xFR1 a) S S1) : xFl (xFR1 a) S (xSI S1 a 12 x) := h.SI (Or.inl ⟨rfl, by omega⟩)
theorem c_takeBehind {a s w c : Nat} {Q : List (Nat × Nat)} {F : List Nat} {tb sb : Bool} (d : Nat) (ho : xRo a) {S : xS} (hX : XC S) (hR : xCR a S (s, Q, F, w, tb, sb)) (hc : c < 256) (hf : 0 < F.length ∧ F.length ≤ 16) : ∃ S', xcall false (d + 1) j_X3_takeBehind [.ref a, .int (nI c)] S (some (.int (nI (xer (xctb c Q F w tb sb))))) S' ∧ xFl (xFR1 a) S S' ∧ ∀ r, (xctb c Q F w tb sb) = .ok r → xCR a S' r := by
  obtain ⟨ha, h1, h2, h3, h4, h5, q0, q2, q3, q4, q6⟩ := ho.sh hX
  obtain ⟨r1, r2, r3, r4, r5, r6, r7, r8⟩ := id hR
  have k5 : S.2.1 a 5 = nI Q.length := r1
  have k7 : S.2.1 a 7 = nI F.length := r3
  have k11 : S.2.1 a 11 = nI s := r5
  have k13 : S.2.1 a 13 = xB tb := r7
  have k14 : S.2.1 a 14 = xB sb := r8
  have rf : xFl (xFR1 a) S S := xFl.rf S
  unfold xctb
  rcases Decidable.em (c = 32) with e32 | e32
  · rw [if_pos e32]
    refine ⟨xSI S a 11 (nI 3), ?_, xFR1_11 rf, fun r hr => (by cases hr; exact xCR_st hR (by decide))⟩
    refine xcall_intro (ls := [.ref a, .int (nI c)]) q_X3_takeBehind (by decide) rfl (Nat.le_of_ble_eq_true rfl) rfl ?_
    refine wp_iload_n dX3_takeBehind_0 rfl (wp_bipush (v := nI 32) dX3_takeBehind_1 rfl ?_)
    refine wn_icmp_ne dX3_takeBehind_3 rfl (by omega) (by omega) (fun c3 => absurd c3 (by omega)) (fun c3 => ?_)
    exact wp_aload_n dX3_takeBehind_6 rfl rfl (wp_iconst (v := nI 3) dX3_takeBehind_7 rfl (p3_42 dX3_takeBehind_8 ha (wp_iconst (v := nI 0) dX3_takeBehind_11 rfl (wp_ireturn dX3_takeBehind_12 rfl rfl ⟨rfl, rfl⟩))))
  rw [if_neg e32]
  rcases Decidable.em (c = 47) with e47 | e47
  · rw [if_pos e47]
    rcases Nat.lt_or_ge F.length 16 with hl | hl
    · rw [if_neg (by omega)]
      have ge := c_endLine d ho hX k5 k7 hf
      have k7b : (xSI S (a + 5) F.length (nI Q.length)).2.1 a 7 = nI F.length := xi k7 (Or.inl (by omega))
      refine ⟨_, ?_, xFR1_11 (xFR1_7 (rf.SI (a := a + 5) (k := F.length) (v := nI Q.length) (Or.inr (Or.inr (Or.inr rfl))))), fun r hr => (by cases hr; exact xCR_line hR)⟩
      refine xcall_intro (ls := [.ref a, .int (nI c)]) q_X3_takeBehind (by decide) rfl (Nat.le_of_ble_eq_true rfl) rfl ?_
      refine wp_iload_n dX3_takeBehind_0 rfl (wp_bipush (v := nI 32) dX3_takeBehind_1 rfl ?_)
      refine wn_icmp_ne dX3_takeBehind_3 rfl (by omega) (by omega) (fun c3 => ?_) (fun c3 => absurd c3 (by omega))
      refine wp_iload_n dX3_takeBehind_13 rfl (wp_bipush (v := nI 47) dX3_takeBehind_14 rfl ?_)
      refine wn_icmp_eq dX3_takeBehind_16 rfl (by omega) (by omega) (fun c16 => ?_) (fun c16 => absurd c16 (by omega))
      refine wp_aload_n dX3_takeBehind_21 rfl rfl (gv3_39 dX3_takeBehind_22 ha k7 (wp_bipush (v := nI 16) dX3_takeBehind_25 rfl ?_))
      refine wn_icmp_lt dX3_takeBehind_27 rfl (by omega) (by omega) (fun c27 => ?_) (fun c27 => absurd c27 (by omega))
      exact wp_aload_n dX3_takeBehind_32 rfl rfl (wp_iv1 dX3_takeBehind_33 k3_67 q_X3_endLine (by decide) ha (by decide) (Nat.le_of_ble_eq_true rfl) ge (wp_aload_n dX3_takeBehind_36 rfl rfl (wp_dup dX3_takeBehind_37 rfl (gv3_39 dX3_takeBehind_38 ha k7b (wp_iconst (v := nI 1) dX3_takeBehind_41 rfl (wv_iadd dX3_takeBehind_42 (nI_add _ _) (p3_39 dX3_takeBehind_43 ha (wp_aload_n dX3_takeBehind_46 rfl rfl (wp_iconst (v := nI 0) dX3_takeBehind_47 rfl (p3_42 dX3_takeBehind_48 ha (wp_iconst (v := nI 0) dX3_takeBehind_51 rfl (wp_ireturn dX3_takeBehind_52 rfl rfl ⟨rfl, rfl⟩))))))))))))
    · rw [if_pos hl]
      refine ⟨S, ?_, rf, fun r hr => (by cases hr)⟩
      refine xcall_intro (ls := [.ref a, .int (nI c)]) q_X3_takeBehind (by decide) rfl (Nat.le_of_ble_eq_true rfl) rfl ?_
      refine wp_iload_n dX3_takeBehind_0 rfl (wp_bipush (v := nI 32) dX3_takeBehind_1 rfl ?_)
      refine wn_icmp_ne dX3_takeBehind_3 rfl (by omega) (by omega) (fun c3 => ?_) (fun c3 => absurd c3 (by omega))
      refine wp_iload_n dX3_takeBehind_13 rfl (wp_bipush (v := nI 47) dX3_takeBehind_14 rfl ?_)
      refine wn_icmp_eq dX3_takeBehind_16 rfl (by omega) (by omega) (fun c16 => ?_) (fun c16 => absurd c16 (by omega))
      refine wp_aload_n dX3_takeBehind_21 rfl rfl (gv3_39 dX3_takeBehind_22 ha k7 (wp_bipush (v := nI 16) dX3_takeBehind_25 rfl ?_))
      refine wn_icmp_lt dX3_takeBehind_27 rfl (by omega) (by omega) (fun c27 => absurd c27 (by omega)) (fun c27 => ?_)
      exact wp_iconst (v := nI 2) dX3_takeBehind_30 rfl (wp_ireturn dX3_takeBehind_31 rfl rfl ⟨rfl, rfl⟩)
  · rw [if_neg e47]
    refine ⟨S, ?_, rf, fun r hr => (by cases hr)⟩
    refine xcall_intro (ls := [.ref a, .int (nI c)]) q_X3_takeBehind (by decide) rfl (Nat.le_of_ble_eq_true rfl) rfl ?_
    refine wp_iload_n dX3_takeBehind_0 rfl (wp_bipush (v := nI 32) dX3_takeBehind_1 rfl ?_)
    refine wn_icmp_ne dX3_takeBehind_3 rfl (by omega) (by omega) (fun c3 => ?_) (fun c3 => absurd c3 (by omega))
    refine wp_iload_n dX3_takeBehind_13 rfl (wp_bipush (v := nI 47) dX3_takeBehind_14 rfl ?_)
    refine wn_icmp_eq dX3_takeBehind_16 rfl (by omega) (by omega) (fun c16 => absurd c16 (by omega)) (fun c16 => ?_)
    exact wp_iconst (v := nI 1) dX3_takeBehind_19 rfl (wp_ireturn dX3_takeBehind_20 rfl rfl ⟨rfl, rfl⟩)
theorem c_takeInWord {a w c : Nat} {Q : List (Nat × Nat)} {F : List Nat} {tb sb : Bool} (d : Nat) (ho : xRo a) {S : xS} (hX : XC S) (hR : xCR a S (4, Q, F, w, tb, sb)) (hc : c < 256) (hw : w ≤ 12) (hf : 0 < F.length ∧ F.length ≤ 16) (hq : 0 < Q.length ∧ Q.length ≤ 120) : ∃ S', xcall false (d + 2) j_X3_takeInWord [.ref a, .int (nI c)] S (some (.int (nI (xer (if xsm c = true then (if 12 ≤ w then .error 2 else .ok (4, Q, F, w + 1, tb, sb)) else if c = 33 then .ok (5, xqset Q, F, w, tb, sb) else xctb c Q F w tb sb))))) S' ∧ xFl (xFR1 a) S S' ∧ ∀ r, (if xsm c = true then (if 12 ≤ w then .error 2 else .ok (4, Q, F, w + 1, tb, sb)) else if c = 33 then .ok (5, xqset Q, F, w, tb, sb) else xctb c Q F w tb sb) = .ok r → xCR a S' r := by
  obtain ⟨ha, h1, h2, h3, h4, h5, q0, q2, q3, q4, q6⟩ := ho.sh hX
  obtain ⟨r1, r2, r3, r4, r5, r6, r7, r8⟩ := id hR
  have k5 : S.2.1 a 5 = nI Q.length := r1
  have k7 : S.2.1 a 7 = nI F.length := r3
  have k11 : S.2.1 a 11 = nI 4 := r5
  have k13 : S.2.1 a 13 = xB tb := r7
  have k14 : S.2.1 a 14 = xB sb := r8
  have rf : xFl (xFR1 a) S S := xFl.rf S
  have k12 : S.2.1 a 12 = nI w := r6 rfl
  have gs := c_isSmall (c := c) (by omega) (d + 1) S
  cases hs : xsm c with
  | true =>
    rw [hs] at gs
    rw [if_pos rfl]
    have q1 : xCR a (xSI S a 12 (nI (w + 1))) (4, Q, F, w + 1, tb, sb) := ⟨xi r1 (Or.inr (by decide)), fun i hi => ⟨xi (r2 i hi).1 (Or.inl (by omega)), xi (r2 i hi).2 (Or.inl (by omega))⟩, xi r3 (Or.inr (by decide)), fun i hi => xi (r4 i hi) (Or.inl (by omega)), xi r5 (Or.inr (by decide)), fun _ => xI_same _ _ _ _, xi r7 (Or.inr (by decide)), xi r8 (Or.inr (by decide))⟩
    rcases Nat.lt_or_ge w 12 with hl | hl
    · rw [if_neg (by omega)]
      refine ⟨xSI S a 12 (nI (w + 1)), ?_, xFR1_12 rf, fun r hr => (by cases hr; exact q1)⟩
      refine xcall_intro (ls := [.ref a, .int (nI c)]) q_X3_takeInWord (by decide) rfl (Nat.le_of_ble_eq_true rfl) rfl ?_
      refine wp_iload_n dX3_takeInWord_0 rfl (wp_is1 dX3_takeInWord_1 k3_96 q_X11_isSmall (by decide) (Nat.le_of_ble_eq_true rfl) gs ?_)
      refine wb_if_eq dX3_takeInWord_4 rfl (fun c4 => absurd c4 (by decide)) (fun c4 => ?_)
      refine wp_aload_n dX3_takeInWord_7 rfl rfl (wp_dup dX3_takeInWord_8 rfl (gv3_93 dX3_takeInWord_9 ha k12 (wp_iconst (v := nI 1) dX3_takeInWord_12 rfl (wv_iadd dX3_takeInWord_13 (nI_add _ _) (p3_93 dX3_takeInWord_14 ha (wp_aload_n dX3_takeInWord_17 rfl rfl (gv3_93 dX3_takeInWord_18 ha (xI_same _ _ _ _) (wp_bipush (v := nI 12) dX3_takeInWord_21 rfl ?_))))))))
      refine wn_icmp_le dX3_takeInWord_23 rfl (by omega) (by omega) (fun c23 => ?_) (fun c23 => absurd c23 (by omega))
      exact wp_iconst (v := nI 0) dX3_takeInWord_30 rfl (wp_ireturn dX3_takeInWord_31 rfl rfl ⟨rfl, rfl⟩)
    · rw [if_pos hl]
      refine ⟨xSI S a 12 (nI (w + 1)), ?_, xFR1_12 rf, fun r hr => (by cases hr)⟩
      refine xcall_intro (ls := [.ref a, .int (nI c)]) q_X3_takeInWord (by decide) rfl (Nat.le_of_ble_eq_true rfl) rfl ?_
      refine wp_iload_n dX3_takeInWord_0 rfl (wp_is1 dX3_takeInWord_1 k3_96 q_X11_isSmall (by decide) (Nat.le_of_ble_eq_true rfl) gs ?_)
      refine wb_if_eq dX3_takeInWord_4 rfl (fun c4 => absurd c4 (by decide)) (fun c4 => ?_)
      refine wp_aload_n dX3_takeInWord_7 rfl rfl (wp_dup dX3_takeInWord_8 rfl (gv3_93 dX3_takeInWord_9 ha k12 (wp_iconst (v := nI 1) dX3_takeInWord_12 rfl (wv_iadd dX3_takeInWord_13 (nI_add _ _) (p3_93 dX3_takeInWord_14 ha (wp_aload_n dX3_takeInWord_17 rfl rfl (gv3_93 dX3_takeInWord_18 ha (xI_same _ _ _ _) (wp_bipush (v := nI 12) dX3_takeInWord_21 rfl ?_))))))))
      refine wn_icmp_le dX3_takeInWord_23 rfl (by omega) (by omega) (fun c23 => absurd c23 (by omega)) (fun c23 => ?_)
      exact wp_iconst (v := nI 2) dX3_takeInWord_26 rfl (wp_goto dX3_takeInWord_27 rfl (wp_ireturn dX3_takeInWord_31 rfl rfl ⟨rfl, rfl⟩))
  | false =>
    rw [hs] at gs
    rw [if_neg (by decide)]
    rcases Decidable.em (c = 33) with e33 | e33
    · rw [if_pos e33]
      have ge := c_spellItem (d + 1) ho hX k5 hq
      refine ⟨_, ?_, xFR1_11 (rf.SI (a := a + 3) (k := Q.length - 1) (v := nI 1) (Or.inr (Or.inr (Or.inl rfl)))), fun r hr => (by cases hr; exact xCR_spell hR hq.1)⟩
      refine xcall_intro (ls := [.ref a, .int (nI c)]) q_X3_takeInWord (by decide) rfl (Nat.le_of_ble_eq_true rfl) rfl ?_
      refine wp_iload_n dX3_takeInWord_0 rfl (wp_is1 dX3_takeInWord_1 k3_96 q_X11_isSmall (by decide) (Nat.le_of_ble_eq_true rfl) gs ?_)
      refine wb_if_eq dX3_takeInWord_4 rfl (fun c4 => ?_) (fun c4 => absurd c4 (by decide))
      refine wp_iload_n dX3_takeInWord_32 rfl (wp_bipush (v := nI 33) dX3_takeInWord_33 rfl ?_)
      refine wn_icmp_ne dX3_takeInWord_35 rfl (by omega) (by omega) (fun c35 => absurd c35 (by omega)) (fun c35 => ?_)
      exact wp_aload_n dX3_takeInWord_38 rfl rfl (wp_iv1 dX3_takeInWord_39 k3_100 q_X3_spellItem (by decide) ha (by decide) (Nat.le_of_ble_eq_true rfl) ge (wp_aload_n dX3_takeInWord_42 rfl rfl (wp_iconst (v := nI 5) dX3_takeInWord_43 rfl (p3_42 dX3_takeInWord_44 ha (wp_iconst (v := nI 0) dX3_takeInWord_47 rfl (wp_ireturn dX3_takeInWord_48 rfl rfl ⟨rfl, rfl⟩))))))
    · rw [if_neg e33]
      obtain ⟨S', g, f, z⟩ := c_takeBehind d ho hX hR hc hf
      refine ⟨S', ?_, f, z⟩
      refine xcall_intro (ls := [.ref a, .int (nI c)]) q_X3_takeInWord (by decide) rfl (Nat.le_of_ble_eq_true rfl) rfl ?_
      refine wp_iload_n dX3_takeInWord_0 rfl (wp_is1 dX3_takeInWord_1 k3_96 q_X11_isSmall (by decide) (Nat.le_of_ble_eq_true rfl) gs ?_)
      refine wb_if_eq dX3_takeInWord_4 rfl (fun c4 => ?_) (fun c4 => absurd c4 (by decide))
      refine wp_iload_n dX3_takeInWord_32 rfl (wp_bipush (v := nI 33) dX3_takeInWord_33 rfl ?_)
      refine wn_icmp_ne dX3_takeInWord_35 rfl (by omega) (by omega) (fun c35 => ?_) (fun c35 => absurd c35 (by omega))
      exact wp_aload_n dX3_takeInWord_49 rfl rfl (wp_iload_n dX3_takeInWord_50 rfl (wp_iv2 dX3_takeInWord_51 k3_83 q_X3_takeBehind (by decide) ha (by decide) (Nat.le_of_ble_eq_true rfl) g (wp_ireturn dX3_takeInWord_54 rfl rfl ⟨rfl, rfl⟩)))
theorem c_takeFirst {a s w c p : Nat} {Q : List (Nat × Nat)} {F : List Nat} {tb sb : Bool} (d : Nat) (ho : xRo a) {S : xS} (hX : XC S) (hR : xCR a S (s, Q, F, w, tb, sb)) (hc : c < 256) (hp : p < 240) (hq1 : Q.length < 120) : ∃ S', xcall false (d + 3) j_X3_takeFirst [.ref a, .int (nI c), .int (nI p)] S (some (.int (nI (xer (if 50 ≤ c ∧ c ≤ 57 then .ok (1, Q ++ [(p, 5)], F, w, true, sb) else xcti c p Q F false sb))))) S' ∧ xFl (xFR1 a) S S' ∧ ∀ r, (if 50 ≤ c ∧ c ≤ 57 then .ok (1, Q ++ [(p, 5)], F, w, true, sb) else xcti c p Q F false sb) = .ok r → xCR a S' r := by
  obtain ⟨ha, h1, h2, h3, h4, h5, q0, q2, q3, q4, q6⟩ := ho.sh hX
  obtain ⟨r1, r2, r3, r4, r5, r6, r7, r8⟩ := id hR
  have k5 : S.2.1 a 5 = nI Q.length := r1
  have k7 : S.2.1 a 7 = nI F.length := r3
  have k11 : S.2.1 a 11 = nI s := r5
  have k13 : S.2.1 a 13 = xB tb := r7
  have k14 : S.2.1 a 14 = xB sb := r8
  have rf : xFl (xFR1 a) S S := xFl.rf S
  rcases Decidable.em (50 ≤ c ∧ c ≤ 57) with e | e
  · rw [if_pos e]
    have R1 := xCR_tb (tb' := true) hR
    have gb := c_beginItem (S := xSI S a 13 (xB true)) (p := p) (k := 5) (d + 2) ho hX (xi k5 (Or.inr (by decide))) hq1
    have kt : (xSI S a 13 (xB true)).2.1 a 13 = xB true := xI_same _ _ _ _
    refine ⟨xSI (xSI (xSI (xSI (xSI S a 13 (xB true)) (a + 2) Q.length (nI p)) (a + 3) Q.length (nI 5)) a 5 (nI (Q.length + 1))) a 11 (nI 1), ?_, xFR1_11 ((((xFR1_13 rf).SI (Or.inr (Or.inl rfl))).SI (Or.inr (Or.inr (Or.inl rfl)))).SI (Or.inl ⟨rfl, by omega⟩)), fun r hr => ?_⟩
    · refine xcall_intro (ls := [.ref a, .int (nI c), .int (nI p)]) q_X3_takeFirst (by decide) rfl (Nat.le_of_ble_eq_true rfl) rfl ?_
      refine wp_aload_n dX3_takeFirst_0 rfl rfl (wp_iload_n dX3_takeFirst_1 rfl (wp_bipush (v := nI 50) dX3_takeFirst_2 rfl ?_))
      refine wn_icmp_lt dX3_takeFirst_4 rfl (by omega) (by omega) (fun c4 => absurd c4 (by omega)) (fun c4 => ?_)
      refine wp_iload_n dX3_takeFirst_7 rfl (wp_bipush (v := nI 57) dX3_takeFirst_8 rfl ?_)
      refine wn_icmp_gt dX3_takeFirst_10 rfl (by omega) (by omega) (fun c10 => absurd c10 (by omega)) (fun c10 => ?_)
      refine wp_iconst (v := nI 1) dX3_takeFirst_13 rfl (wp_goto dX3_takeFirst_14 rfl (p3_45 dX3_takeFirst_18 ha (Or.inr rfl) (wp_aload_n dX3_takeFirst_21 rfl rfl (gv3_45 dX3_takeFirst_22 ha kt ?_))))
      refine wb_if_eq dX3_takeFirst_25 rfl (fun c25 => absurd c25 (by decide)) (fun c25 => ?_)
      exact wp_aload_n dX3_takeFirst_28 rfl rfl (wp_iload_n dX3_takeFirst_29 rfl (wp_iconst (v := nI 5) dX3_takeFirst_30 rfl (wp_iv3 dX3_takeFirst_31 k3_86 q_X3_beginItem (by decide) ha (by decide) (Nat.le_of_ble_eq_true rfl) gb (wp_aload_n dX3_takeFirst_34 rfl rfl (wp_iconst (v := nI 1) dX3_takeFirst_35 rfl (p3_42 dX3_takeFirst_36 ha (wp_iconst (v := nI 0) dX3_takeFirst_39 rfl (wp_ireturn dX3_takeFirst_40 rfl rfl ⟨rfl, rfl⟩))))))))
    · cases hr
      obtain ⟨z1, z2, z3, z4, z5, z6, z7, z8⟩ := R1
      have hl := xlen1 Q (p, 5)
      refine ⟨?_, fun i hi => ?_, xi (xi (xi (xi z3 (Or.inl (by omega))) (Or.inl (by omega))) (Or.inr (by decide))) (Or.inr (by decide)), fun i hi => xi (xi (xi (xi (z4 i hi) (Or.inl (by omega))) (Or.inl (by omega))) (Or.inl (by omega))) (Or.inl (by omega)), xI_same _ _ _ _, fun e => absurd e (fun w => by cases w), xi (xi (xi (xi z7 (Or.inl (by omega))) (Or.inl (by omega))) (Or.inr (by decide))) (Or.inr (by decide)), xi (xi (xi (xi z8 (Or.inl (by omega))) (Or.inl (by omega))) (Or.inr (by decide))) (Or.inr (by decide))⟩
      · rw [hl]; exact xi (xI_same _ _ _ _) (Or.inr (by decide))
      · rw [xqA _ _ _ hi]
        rw [hl] at hi
        split
        · rename_i q
          exact ⟨xi (xi (xi (xi (z2 i q).1 (Or.inr (by omega))) (Or.inl (by omega))) (Or.inl (by omega))) (Or.inl (by omega)), xi (xi (xi (xi (z2 i q).2 (Or.inl (by omega))) (Or.inr (by omega))) (Or.inl (by omega))) (Or.inl (by omega))⟩
        · rw [show i = Q.length by omega]
          exact ⟨xi (xi (xi (xI_same _ _ _ _) (Or.inl (by omega))) (Or.inl (by omega))) (Or.inl (by omega)), xi (xi (xI_same _ _ _ _) (Or.inl (by omega))) (Or.inl (by omega))⟩
  · rw [if_neg e]
    have R1 := xCR_tb (tb' := false) hR
    have kt : (xSI S a 13 (xB false)).2.1 a 13 = xB false := xI_same _ _ _ _
    obtain ⟨S', g, f, z⟩ := c_takeItem d ho (S := xSI S a 13 (xB false)) hX R1 hc hp hq1
    refine ⟨S', ?_, (xFR1_13 rf).tt f, z⟩
    refine xcall_intro (ls := [.ref a, .int (nI c), .int (nI p)]) q_X3_takeFirst (by decide) rfl (Nat.le_of_ble_eq_true rfl) rfl ?_
    rcases Nat.lt_or_ge c 50 with w50 | w50
    · refine wp_aload_n dX3_takeFirst_0 rfl rfl (wp_iload_n dX3_takeFirst_1 rfl (wp_bipush (v := nI 50) dX3_takeFirst_2 rfl ?_))
      refine wn_icmp_lt dX3_takeFirst_4 rfl (by omega) (by omega) (fun c4 => ?_) (fun c4 => absurd c4 (by omega))
      refine wp_iconst (v := nI 0) dX3_takeFirst_17 rfl (p3_45 dX3_takeFirst_18 ha (Or.inl rfl) (wp_aload_n dX3_takeFirst_21 rfl rfl (gv3_45 dX3_takeFirst_22 ha kt ?_)))
      refine wb_if_eq dX3_takeFirst_25 rfl (fun c25 => ?_) (fun c25 => absurd c25 (by decide))
      exact wp_aload_n dX3_takeFirst_41 rfl rfl (wp_iload_n dX3_takeFirst_42 rfl (wp_iload_n dX3_takeFirst_43 rfl (wp_iv3 dX3_takeFirst_44 k3_76 q_X3_takeItem (by decide) ha (by decide) (Nat.le_of_ble_eq_true rfl) g (wp_ireturn dX3_takeFirst_47 rfl rfl ⟨rfl, rfl⟩))))
    · refine wp_aload_n dX3_takeFirst_0 rfl rfl (wp_iload_n dX3_takeFirst_1 rfl (wp_bipush (v := nI 50) dX3_takeFirst_2 rfl ?_))
      refine wn_icmp_lt dX3_takeFirst_4 rfl (by omega) (by omega) (fun c4 => absurd c4 (by omega)) (fun c4 => ?_)
      refine wp_iload_n dX3_takeFirst_7 rfl (wp_bipush (v := nI 57) dX3_takeFirst_8 rfl ?_)
      refine wn_icmp_gt dX3_takeFirst_10 rfl (by omega) (by omega) (fun c10 => ?_) (fun c10 => absurd c10 (by omega))
      refine wp_iconst (v := nI 0) dX3_takeFirst_17 rfl (p3_45 dX3_takeFirst_18 ha (Or.inl rfl) (wp_aload_n dX3_takeFirst_21 rfl rfl (gv3_45 dX3_takeFirst_22 ha kt ?_)))
      refine wb_if_eq dX3_takeFirst_25 rfl (fun c25 => ?_) (fun c25 => absurd c25 (by decide))
      exact wp_aload_n dX3_takeFirst_41 rfl rfl (wp_iload_n dX3_takeFirst_42 rfl (wp_iload_n dX3_takeFirst_43 rfl (wp_iv3 dX3_takeFirst_44 k3_76 q_X3_takeItem (by decide) ha (by decide) (Nat.le_of_ble_eq_true rfl) g (wp_ireturn dX3_takeFirst_47 rfl rfl ⟨rfl, rfl⟩))))
theorem c_rtake {a s w c p : Nat} {Q : List (Nat × Nat)} {F : List Nat} {tb sb : Bool} (d : Nat) (ho : xRo a) {S : xS} (hX : XC S) (hR : xCR a S (s, Q, F, w, tb, sb)) (hc : c < 256) (hp : p < 240) (hs : s ≤ 6) (hq : Q.length < 120 ∨ (s ≠ 0 ∧ s ≠ 3)) (hq4 : s = 4 → 0 < Q.length) (hq2 : Q.length ≤ 120) (hw : s = 4 → w ≤ 12) (hf : 0 < F.length ∧ F.length ≤ 16) : ∃ S', xcall false (d + 4) j_X3_take [.ref a, .int (nI c), .int (nI p)] S (some (.int (nI (xer (xcst c p s Q F w tb sb))))) S' ∧ xFl (xFR1 a) S S' ∧ ∀ r, (xcst c p s Q F w tb sb) = .ok r → xCR a S' r := by
  obtain ⟨ha, h1, h2, h3, h4, h5, q0, q2, q3, q4, q6⟩ := ho.sh hX
  obtain ⟨r1, r2, r3, r4, r5, r6, r7, r8⟩ := id hR
  have k5 : S.2.1 a 5 = nI Q.length := r1
  have k7 : S.2.1 a 7 = nI F.length := r3
  have k11 : S.2.1 a 11 = nI s := r5
  have k13 : S.2.1 a 13 = xB tb := r7
  have k14 : S.2.1 a 14 = xB sb := r8
  have rf : xFl (xFR1 a) S S := xFl.rf S
  rcases (show s = 0 ∨ s = 1 ∨ s = 2 ∨ s = 3 ∨ s = 4 ∨ s = 5 ∨ s = 6 by omega) with rfl | rfl | rfl | rfl | rfl | rfl | rfl
  · obtain ⟨S', g, f, z⟩ := c_takeFirst d ho hX hR hc hp (by omega)
    unfold xcst
    rw [if_pos rfl]
    refine ⟨S', ?_, f, z⟩
    refine xcall_intro (ls := [.ref a, .int (nI c), .int (nI p)]) q_X3_take (by decide) rfl (Nat.le_of_ble_eq_true rfl) rfl ?_
    exact wp_aload_n dX3_take_0 rfl rfl (gv3_42 dX3_take_1 ha k11 (wp_table_in dX3_take_4 (by decide) rfl rfl (wp_aload_n dX3_take_44 rfl rfl (wp_iload_n dX3_take_45 rfl (wp_iload_n dX3_take_46 rfl (wp_iv3 dX3_take_47 k3_73 q_X3_takeFirst (by decide) ha (by decide) (Nat.le_of_ble_eq_true rfl) g (wp_ireturn dX3_take_50 rfl rfl ⟨rfl, rfl⟩)))))))
  · rcases Decidable.em (c = 120) with e | e
    · have EX : xcst c p 1 Q F w tb sb = .ok (2, Q, F, w, tb, sb) := by unfold xcst; rw [if_neg (by decide), if_pos rfl, if_pos e]
      rw [EX]
      refine ⟨xSI S a 11 (nI 2), ?_, xFR1_11 rf, fun r hr => (by cases hr; exact xCR_st hR (by decide))⟩
      refine xcall_intro (ls := [.ref a, .int (nI c), .int (nI p)]) q_X3_take (by decide) rfl (Nat.le_of_ble_eq_true rfl) rfl ?_
      refine wp_aload_n dX3_take_0 rfl rfl (gv3_42 dX3_take_1 ha k11 (wp_table_in dX3_take_4 (by decide) rfl rfl (wp_aload_n dX3_take_51 rfl rfl (wp_iconst (v := nI 2) dX3_take_52 rfl (p3_42 dX3_take_53 ha (wp_iload_n dX3_take_56 rfl (wp_bipush (v := nI 120) dX3_take_57 rfl ?_)))))))
      refine wn_icmp_ne dX3_take_59 rfl (by omega) (by omega) (fun c59 => absurd c59 (by omega)) (fun c59 => ?_)
      exact wp_iconst (v := nI 0) dX3_take_62 rfl (wp_goto dX3_take_63 rfl (wp_ireturn dX3_take_67 rfl rfl ⟨rfl, rfl⟩))
    · have EX : xcst c p 1 Q F w tb sb = .error 1 := by unfold xcst; rw [if_neg (by decide), if_pos rfl, if_neg e]
      rw [EX]
      refine ⟨xSI S a 11 (nI 2), ?_, xFR1_11 rf, fun r hr => (by cases hr)⟩
      refine xcall_intro (ls := [.ref a, .int (nI c), .int (nI p)]) q_X3_take (by decide) rfl (Nat.le_of_ble_eq_true rfl) rfl ?_
      refine wp_aload_n dX3_take_0 rfl rfl (gv3_42 dX3_take_1 ha k11 (wp_table_in dX3_take_4 (by decide) rfl rfl (wp_aload_n dX3_take_51 rfl rfl (wp_iconst (v := nI 2) dX3_take_52 rfl (p3_42 dX3_take_53 ha (wp_iload_n dX3_take_56 rfl (wp_bipush (v := nI 120) dX3_take_57 rfl ?_)))))))
      refine wn_icmp_ne dX3_take_59 rfl (by omega) (by omega) (fun c59 => ?_) (fun c59 => absurd c59 (by omega))
      exact wp_iconst (v := nI 1) dX3_take_66 rfl (wp_ireturn dX3_take_67 rfl rfl ⟨rfl, rfl⟩)
  · rcases Decidable.em (c = 32) with e | e
    · have EX : xcst c p 2 Q F w tb sb = .ok (3, Q, F, w, tb, sb) := by unfold xcst; rw [if_neg (by decide), if_neg (by decide), if_pos rfl, if_pos e]
      rw [EX]
      refine ⟨xSI S a 11 (nI 3), ?_, xFR1_11 rf, fun r hr => (by cases hr; exact xCR_st hR (by decide))⟩
      refine xcall_intro (ls := [.ref a, .int (nI c), .int (nI p)]) q_X3_take (by decide) rfl (Nat.le_of_ble_eq_true rfl) rfl ?_
      refine wp_aload_n dX3_take_0 rfl rfl (gv3_42 dX3_take_1 ha k11 (wp_table_in dX3_take_4 (by decide) rfl rfl (wp_aload_n dX3_take_68 rfl rfl (wp_iconst (v := nI 3) dX3_take_69 rfl (p3_42 dX3_take_70 ha (wp_iload_n dX3_take_73 rfl (wp_bipush (v := nI 32) dX3_take_74 rfl ?_)))))))
      refine wn_icmp_ne dX3_take_76 rfl (by omega) (by omega) (fun c76 => absurd c76 (by omega)) (fun c76 => ?_)
      exact wp_iconst (v := nI 0) dX3_take_79 rfl (wp_goto dX3_take_80 rfl (wp_ireturn dX3_take_84 rfl rfl ⟨rfl, rfl⟩))
    · have EX : xcst c p 2 Q F w tb sb = .error 1 := by unfold xcst; rw [if_neg (by decide), if_neg (by decide), if_pos rfl, if_neg e]
      rw [EX]
      refine ⟨xSI S a 11 (nI 3), ?_, xFR1_11 rf, fun r hr => (by cases hr)⟩
      refine xcall_intro (ls := [.ref a, .int (nI c), .int (nI p)]) q_X3_take (by decide) rfl (Nat.le_of_ble_eq_true rfl) rfl ?_
      refine wp_aload_n dX3_take_0 rfl rfl (gv3_42 dX3_take_1 ha k11 (wp_table_in dX3_take_4 (by decide) rfl rfl (wp_aload_n dX3_take_68 rfl rfl (wp_iconst (v := nI 3) dX3_take_69 rfl (p3_42 dX3_take_70 ha (wp_iload_n dX3_take_73 rfl (wp_bipush (v := nI 32) dX3_take_74 rfl ?_)))))))
      refine wn_icmp_ne dX3_take_76 rfl (by omega) (by omega) (fun c76 => ?_) (fun c76 => absurd c76 (by omega))
      exact wp_iconst (v := nI 1) dX3_take_83 rfl (wp_ireturn dX3_take_84 rfl rfl ⟨rfl, rfl⟩)
  · obtain ⟨S', g, f, z⟩ := c_takeItem (d + 1) ho hX hR hc hp (by omega)
    unfold xcst
    rw [if_neg (by decide), if_neg (by decide), if_neg (by decide), if_pos rfl]
    refine ⟨S', ?_, f, z⟩
    refine xcall_intro (ls := [.ref a, .int (nI c), .int (nI p)]) q_X3_take (by decide) rfl (Nat.le_of_ble_eq_true rfl) rfl ?_
    exact wp_aload_n dX3_take_0 rfl rfl (gv3_42 dX3_take_1 ha k11 (wp_table_in dX3_take_4 (by decide) rfl rfl (wp_aload_n dX3_take_85 rfl rfl (wp_iload_n dX3_take_86 rfl (wp_iload_n dX3_take_87 rfl (wp_iv3 dX3_take_88 k3_76 q_X3_takeItem (by decide) ha (by decide) (Nat.le_of_ble_eq_true rfl) g (wp_ireturn dX3_take_91 rfl rfl ⟨rfl, rfl⟩)))))))
  · obtain ⟨S', g, f, z⟩ := c_takeInWord (d + 1) ho hX hR hc (hw rfl) hf ⟨hq4 rfl, hq2⟩
    unfold xcst
    rw [if_neg (by decide), if_neg (by decide), if_neg (by decide), if_neg (by decide), if_pos rfl]
    refine ⟨S', ?_, f, z⟩
    refine xcall_intro (ls := [.ref a, .int (nI c), .int (nI p)]) q_X3_take (by decide) rfl (Nat.le_of_ble_eq_true rfl) rfl ?_
    exact wp_aload_n dX3_take_0 rfl rfl (gv3_42 dX3_take_1 ha k11 (wp_table_in dX3_take_4 (by decide) rfl rfl (wp_aload_n dX3_take_92 rfl rfl (wp_iload_n dX3_take_93 rfl (wp_iv2 dX3_take_94 k3_79 q_X3_takeInWord (by decide) ha (by decide) (Nat.le_of_ble_eq_true rfl) g (wp_ireturn dX3_take_97 rfl rfl ⟨rfl, rfl⟩))))))
  · obtain ⟨S', g, f, z⟩ := c_takeBehind (d + 2) ho hX hR hc hf
    unfold xcst
    rw [if_neg (by decide), if_neg (by decide), if_neg (by decide), if_neg (by decide), if_neg (by decide), if_pos rfl]
    refine ⟨S', ?_, f, z⟩
    refine xcall_intro (ls := [.ref a, .int (nI c), .int (nI p)]) q_X3_take (by decide) rfl (Nat.le_of_ble_eq_true rfl) rfl ?_
    exact wp_aload_n dX3_take_0 rfl rfl (gv3_42 dX3_take_1 ha k11 (wp_table_in dX3_take_4 (by decide) rfl rfl (wp_aload_n dX3_take_98 rfl rfl (wp_iload_n dX3_take_99 rfl (wp_iv2 dX3_take_100 k3_83 q_X3_takeBehind (by decide) ha (by decide) (Nat.le_of_ble_eq_true rfl) g (wp_ireturn dX3_take_103 rfl rfl ⟨rfl, rfl⟩))))))
  · have EX : xcst c p 6 Q F w tb sb = .error 1 := by unfold xcst; rw [if_neg (by decide), if_neg (by decide), if_neg (by decide), if_neg (by decide), if_neg (by decide), if_neg (by decide)]
    rw [EX]
    refine ⟨S, ?_, rf, fun r hr => (by cases hr)⟩
    refine xcall_intro (ls := [.ref a, .int (nI c), .int (nI p)]) q_X3_take (by decide) rfl (Nat.le_of_ble_eq_true rfl) rfl ?_
    exact wp_aload_n dX3_take_0 rfl rfl (gv3_42 dX3_take_1 ha k11 (wp_table_out dX3_take_4 (by decide) rfl (wp_iconst (v := nI 1) dX3_take_104 rfl (wp_ireturn dX3_take_105 rfl rfl ⟨rfl, rfl⟩))))
