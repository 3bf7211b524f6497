/-! A RHYME's text: the class reads it byte by byte -/
def xRo (a : Nat) : Prop := a = 18 ∨ a = 24 ∨ a = 30 ∨ a = 36 ∨ a = 42 ∨ a = 48 ∨ a = 54
theorem xRo.sh {a : Nat} (h : xRo a) {S : xS} (hX : XC S) : S.1[a]? = some (3, 15) ∧ S.1[a + 1]? = some (21, 240) ∧ S.1[a + 2]? = some (20, 120) ∧ S.1[a + 3]? = some (20, 120) ∧ S.1[a + 4]? = some (20, 120) ∧ S.1[a + 5]? = some (20, 17) ∧ S.2.2.1 a 0 = some (a + 1) ∧ S.2.2.1 a 2 = some (a + 2) ∧ S.2.2.1 a 3 = some (a + 3) ∧ S.2.2.1 a 4 = some (a + 4) ∧ S.2.2.1 a 6 = some (a + 5) := by
  unfold xRo at h
  rcases h with rfl | rfl | rfl | rfl | rfl | rfl | rfl
  · exact ⟨xsh hX sh_18, xsh hX sh_19, xsh hX sh_20, xsh hX sh_21, xsh hX sh_22, xsh hX sh_23, xrr hX r18_0, xrr hX r18_2, xrr hX r18_3, xrr hX r18_4, xrr hX r18_6⟩
  · exact ⟨xsh hX sh_24, xsh hX sh_25, xsh hX sh_26, xsh hX sh_27, xsh hX sh_28, xsh hX sh_29, xrr hX r24_0, xrr hX r24_2, xrr hX r24_3, xrr hX r24_4, xrr hX r24_6⟩
  · exact ⟨xsh hX sh_30, xsh hX sh_31, xsh hX sh_32, xsh hX sh_33, xsh hX sh_34, xsh hX sh_35, xrr hX r30_0, xrr hX r30_2, xrr hX r30_3, xrr hX r30_4, xrr hX r30_6⟩
  · exact ⟨xsh hX sh_36, xsh hX sh_37, xsh hX sh_38, xsh hX sh_39, xsh hX sh_40, xsh hX sh_41, xrr hX r36_0, xrr hX r36_2, xrr hX r36_3, xrr hX r36_4, xrr hX r36_6⟩
  · exact ⟨xsh hX sh_42, xsh hX sh_43, xsh hX sh_44, xsh hX sh_45, xsh hX sh_46, xsh hX sh_47, xrr hX r42_0, xrr hX r42_2, xrr hX r42_3, xrr hX r42_4, xrr hX r42_6⟩
  · exact ⟨xsh hX sh_48, xsh hX sh_49, xsh hX sh_50, xsh hX sh_51, xsh hX sh_52, xsh hX sh_53, xrr hX r48_0, xrr hX r48_2, xrr hX r48_3, xrr hX r48_4, xrr hX r48_6⟩
  · exact ⟨xsh hX sh_54, xsh hX sh_55, xsh hX sh_56, xsh hX sh_57, xsh hX sh_58, xsh hX sh_59, xrr hX r54_0, xrr hX r54_2, xrr hX r54_3, xrr hX r54_4, xrr hX r54_6⟩
/-- state, items (begin, kind), begins of lines, letters of the word, timed, sounds -/
abbrev xRw : Type := Nat × List (Nat × Nat) × List Nat × Nat × Bool × Bool
def xkd (c : Nat) : Option Nat := if c = 45 then some 2 else if c = 64 then some 3 else if c = 63 then some 4 else if xsm c = true then some 0 else none
def xcti (c p : Nat) (Q : List (Nat × Nat)) (F : List Nat) (tb sb : Bool) : Except Nat xRw := match xkd c with
  | none => .error 1
  | some k => if k = 4 ∧ tb = true then .error 1 else .ok (if k = 0 then 4 else if k = 4 then 6 else 5, Q ++ [(p, k)], F, 1, tb, sb || decide (k = 0) || decide (k = 3))
def xctb (c : Nat) (Q : List (Nat × Nat)) (F : List Nat) (w : Nat) (tb sb : Bool) : Except Nat xRw := if c = 32 then .ok (3, Q, F, w, tb, sb) else if c = 47 then (if 16 ≤ F.length then .error 2 else .ok (0, Q, F ++ [Q.length], w, tb, sb)) else .error 1
def xqset (Q : List (Nat × Nat)) : List (Nat × Nat) := Q.set (Q.length - 1) ((Q.getD (Q.length - 1) (0, 0)).1, 1)
def xcst (c p s : Nat) (Q : List (Nat × Nat)) (F : List Nat) (w : Nat) (tb sb : Bool) : Except Nat xRw :=
  if s = 0 then (if 50 ≤ c ∧ c ≤ 57 then .ok (1, Q ++ [(p, 5)], F, w, true, sb) else xcti c p Q F false sb)
  else if s = 1 then (if c = 120 then .ok (2, Q, F, w, tb, sb) else .error 1)
  else if s = 2 then (if c = 32 then .ok (3, Q, F, w, tb, sb) else .error 1)
  else if s = 3 then xcti c p Q F tb sb
  else if s = 4 then (if xsm c = true then (if 12 ≤ w then .error 2 else .ok (4, Q, F, w + 1, tb, sb)) else if c = 33 then .ok (5, xqset Q, F, w, tb, sb) else xctb c Q F w tb sb)
  else if s = 5 then xctb c Q F w tb sb
  else .error 1
def xer {α : Type} : Except Nat α → Nat
  | .error e => e
  | .ok _ => 0
def xCR (a : Nat) (S : xS) (r : xRw) : Prop :=
  S.2.1 a 5 = nI r.2.1.length ∧ (∀ i, i < r.2.1.length → S.2.1 (a + 2) i = nI (r.2.1.getD i (0, 0)).1 ∧ S.2.1 (a + 3) i = nI (r.2.1.getD i (0, 0)).2) ∧ S.2.1 a 7 = nI r.2.2.1.length ∧ (∀ i, i < r.2.2.1.length → S.2.1 (a + 5) i = nI (r.2.2.1.getD i 0)) ∧ S.2.1 a 11 = nI r.1 ∧ (r.1 = 4 → S.2.1 a 12 = nI r.2.2.2.1) ∧ S.2.1 a 13 = xB r.2.2.2.2.1 ∧ S.2.1 a 14 = xB r.2.2.2.2.2
def xFR1 (a i k : Nat) : Prop := (i = a ∧ (k = 5 ∨ k = 7 ∨ (11 ≤ k ∧ k ≤ 14))) ∨ i = a + 2 ∨ i = a + 3 ∨ i = a + 5
theorem xB_01' (b : Bool) : xB b = 0 ∨ xB b = 1 := xB_01 b
theorem xkf_off : ∀ c, c < 256 → c ≠ 45 → c ≠ 63 → c ≠ 64 → Op.lookupswitch.offset [(45, 35), (63, 39), (64, 37)] 41 (nI c).toInt = 41 := by decide +kernel
theorem xqA (Q : List (Nat × Nat)) (x : Nat × Nat) (i : Nat) (hi : i < (Q ++ [x]).length) : (Q ++ [x]).getD i (0, 0) = if i < Q.length then Q.getD i (0, 0) else x := xgA Q x (0, 0) i hi
theorem c_kindFrom {c : Nat} (hc : c < 256) (d : Nat) (S : xS) : xcall false (d + 1) j_X3_kindFrom [.int (nI c)] S (some (.int (xopt (xkd c)))) S := by
  rcases Decidable.em (c = 45) with rfl | n1
  · refine xcall_intro (ls := [.int (nI 45)]) q_X3_kindFrom (by decide) rfl (Nat.le_of_ble_eq_true rfl) rfl ?_
    exact wp_iload_n dX3_kindFrom_0 rfl (wp_lookup dX3_kindFrom_1 (by decide) rfl rfl (wp_iconst (v := nI 2) dX3_kindFrom_36 rfl (wp_ireturn dX3_kindFrom_37 rfl rfl ⟨rfl, rfl⟩)))
  rcases Decidable.em (c = 63) with rfl | n2
  · refine xcall_intro (ls := [.int (nI 63)]) q_X3_kindFrom (by decide) rfl (Nat.le_of_ble_eq_true rfl) rfl ?_
    exact wp_iload_n dX3_kindFrom_0 rfl (wp_lookup dX3_kindFrom_1 (by decide) rfl rfl (wp_iconst (v := nI 4) dX3_kindFrom_40 rfl (wp_ireturn dX3_kindFrom_41 rfl rfl ⟨rfl, rfl⟩)))
  rcases Decidable.em (c = 64) with rfl | n3
  · refine xcall_intro (ls := [.int (nI 64)]) q_X3_kindFrom (by decide) rfl (Nat.le_of_ble_eq_true rfl) rfl ?_
    exact wp_iload_n dX3_kindFrom_0 rfl (wp_lookup dX3_kindFrom_1 (by decide) rfl rfl (wp_iconst (v := nI 3) dX3_kindFrom_38 rfl (wp_ireturn dX3_kindFrom_39 rfl rfl ⟨rfl, rfl⟩)))
  have eo := xkf_off c hc n1 n2 n3
  have ek : xkd c = if xsm c = true then some 0 else none := by unfold xkd; rw [if_neg n1, if_neg n3, if_neg n2]
  have gs := c_isSmall (c := c) (by omega) d S
  cases hs : xsm c with
  | true =>
    rw [ek, if_pos hs]
    rw [hs] at gs
    refine xcall_intro (ls := [.int (nI c)]) q_X3_kindFrom (by decide) rfl (Nat.le_of_ble_eq_true rfl) rfl ?_
    refine wp_iload_n dX3_kindFrom_0 rfl (wp_lookup dX3_kindFrom_1 (by decide) eo rfl (wp_iload_n dX3_kindFrom_42 rfl (wp_is1 dX3_kindFrom_43 k3_96 q_X11_isSmall (by decide) (Nat.le_of_ble_eq_true rfl) gs ?_)))
    refine wb_if_eq dX3_kindFrom_46 rfl (fun c46 => absurd c46 (by decide)) (fun c46 => ?_)
    exact wp_iconst (v := nI 0) dX3_kindFrom_49 rfl (wp_goto dX3_kindFrom_50 rfl (wp_ireturn dX3_kindFrom_54 rfl rfl ⟨rfl, rfl⟩))
  | false =>
    rw [ek, if_neg (by rw [hs]; decide)]
    rw [hs] at gs
    refine xcall_intro (ls := [.int (nI c)]) q_X3_kindFrom (by decide) rfl (Nat.le_of_ble_eq_true rfl) rfl ?_
    refine wp_iload_n dX3_kindFrom_0 rfl (wp_lookup dX3_kindFrom_1 (by decide) eo rfl (wp_iload_n dX3_kindFrom_42 rfl (wp_is1 dX3_kindFrom_43 k3_96 q_X11_isSmall (by decide) (Nat.le_of_ble_eq_true rfl) gs ?_)))
    refine wb_if_eq dX3_kindFrom_46 rfl (fun c46 => ?_) (fun c46 => absurd c46 (by decide))
    exact wp_iconst (v := -1) dX3_kindFrom_53 rfl (wp_ireturn dX3_kindFrom_54 rfl rfl ⟨rfl, rfl⟩)
theorem c_beginItem {a : Nat} (d : Nat) (ho : xRo a) {S : xS} (hX : XC S) {q p k : Nat} (hq : S.2.1 a 5 = nI q) (hq1 : q < 120) : xcall false d j_X3_beginItem [.ref a, .int (nI p), .int (nI k)] S none (xSI (xSI (xSI S (a + 2) q (nI p)) (a + 3) q (nI k)) a 5 (nI (q + 1))) := by
  obtain ⟨ha, h1, h2, h3, h4, h5, q0, q2, q3, q4, q6⟩ := ho.sh hX
  refine xcall_intro (ls := [.ref a, .int (nI p), .int (nI k)]) q_X3_beginItem (by decide) rfl (Nat.le_of_ble_eq_true rfl) rfl ?_
  refine wp_aload_n dX3_beginItem_0 rfl rfl (gv3_36 dX3_beginItem_1 ha hq ?_)
  refine wn_if_lt dX3_beginItem_4 rfl (by omega) ?_
  refine wp_aload_n dX3_beginItem_7 rfl rfl (gv3_36 dX3_beginItem_8 ha hq (wp_bipush (v := nI 120) dX3_beginItem_11 rfl ?_))
  refine wn_icmp_ge dX3_beginItem_13 rfl (by omega) (by omega) (fun c13 => absurd c13 (by omega)) (fun c13 => ?_)
  exact wp_aload_n dX3_beginItem_16 rfl rfl (g3_15 dX3_beginItem_17 ha q2 (wp_aload_n dX3_beginItem_20 rfl rfl (gv3_36 dX3_beginItem_21 ha hq (wp_iload_n dX3_beginItem_24 rfl (wn_iastore dX3_beginItem_25 h2 rfl (by omega) (by decide) (wp_aload_n dX3_beginItem_26 rfl rfl (g3_19 dX3_beginItem_27 ha q3 (wp_aload_n dX3_beginItem_30 rfl rfl (gv3_36 dX3_beginItem_31 ha (xi hq (Or.inl (by omega))) (wp_iload_n dX3_beginItem_34 rfl (wn_iastore dX3_beginItem_35 h3 rfl (by omega) (by decide) (wp_aload_n dX3_beginItem_36 rfl rfl (wp_dup dX3_beginItem_37 rfl (gv3_36 dX3_beginItem_38 ha (xi (xi hq (Or.inl (by omega))) (Or.inl (by omega))) (wp_iconst (v := nI 1) dX3_beginItem_41 rfl (wv_iadd dX3_beginItem_42 (nI_add _ _) (p3_36 dX3_beginItem_43 ha (wp_return dX3_beginItem_46 rfl ⟨rfl, rfl⟩))))))))))))))))))
theorem c_spellItem {a : Nat} (d : Nat) (ho : xRo a) {S : xS} (hX : XC S) {q : Nat} (hq : S.2.1 a 5 = nI q) (hq1 : 0 < q ∧ q ≤ 120) : xcall false d j_X3_spellItem [.ref a] S none (xSI S (a + 3) (q - 1) (nI 1)) := by
  obtain ⟨ha, h1, h2, h3, h4, h5, q0, q2, q3, q4, q6⟩ := ho.sh hX
  refine xcall_intro (ls := [.ref a]) q_X3_spellItem (by decide) rfl (Nat.le_of_ble_eq_true rfl) rfl ?_
  refine wp_aload_n dX3_spellItem_0 rfl rfl (gv3_36 dX3_spellItem_1 ha hq ?_)
  refine wn_if_le dX3_spellItem_4 rfl (by omega) (fun c4 => absurd c4 (by omega)) (fun c4 => ?_)
  refine wp_aload_n dX3_spellItem_7 rfl rfl (gv3_36 dX3_spellItem_8 ha hq (wp_bipush (v := nI 120) dX3_spellItem_11 rfl ?_))
  refine wn_icmp_gt dX3_spellItem_13 rfl (by omega) (by omega) (fun c13 => absurd c13 (by omega)) (fun c13 => ?_)
  exact wp_aload_n dX3_spellItem_16 rfl rfl (g3_19 dX3_spellItem_17 ha q3 (wp_aload_n dX3_spellItem_20 rfl rfl (gv3_36 dX3_spellItem_21 ha hq (wp_iconst (v := nI 1) dX3_spellItem_24 rfl (wv_isub dX3_spellItem_25 (pk_sub (by omega)) (wp_iconst (v := nI 1) dX3_spellItem_26 rfl (wn_iastore dX3_spellItem_27 h3 rfl (by omega) (by decide) (wp_return dX3_spellItem_28 rfl ⟨rfl, rfl⟩))))))))
theorem c_endLine {a : Nat} (d : Nat) (ho : xRo a) {S : xS} (hX : XC S) {q f : Nat} (hq : S.2.1 a 5 = nI q) (hf : S.2.1 a 7 = nI f) (hf1 : 0 < f ∧ f ≤ 16) : xcall false d j_X3_endLine [.ref a] S none (xSI S (a + 5) f (nI q)) := by
  obtain ⟨ha, h1, h2, h3, h4, h5, q0, q2, q3, q4, q6⟩ := ho.sh hX
  refine xcall_intro (ls := [.ref a]) q_X3_endLine (by decide) rfl (Nat.le_of_ble_eq_true rfl) rfl ?_
  refine wp_aload_n dX3_endLine_0 rfl rfl (gv3_39 dX3_endLine_1 ha hf ?_)
  refine wn_if_le dX3_endLine_4 rfl (by omega) (fun c4 => absurd c4 (by omega)) (fun c4 => ?_)
  refine wp_aload_n dX3_endLine_7 rfl rfl (gv3_39 dX3_endLine_8 ha hf (wp_aload_n dX3_endLine_11 rfl rfl (g3_25 dX3_endLine_12 ha q6 (wp_alen dX3_endLine_15 h5 ⟨by decide, by decide⟩ rfl ?_))))
  refine wn_icmp_ge dX3_endLine_16 rfl (by omega) (by omega) (fun c16 => absurd c16 (by omega)) (fun c16 => ?_)
  exact wp_aload_n dX3_endLine_19 rfl rfl (g3_25 dX3_endLine_20 ha q6 (wp_aload_n dX3_endLine_23 rfl rfl (gv3_39 dX3_endLine_24 ha hf (wp_aload_n dX3_endLine_27 rfl rfl (gv3_36 dX3_endLine_28 ha hq (wn_iastore dX3_endLine_31 h5 rfl (by omega) (by decide) (wp_return dX3_endLine_32 rfl ⟨rfl, rfl⟩)))))))
theorem xCR_item {a s w p k s' : Nat} {Q : List (Nat × Nat)} {F : List Nat} {tb sb sb' : Bool} {S : xS} (h : xCR a S (s, Q, F, w, tb, sb)) : xCR a (xSI (xSI (xSI (xSI (xSI (xSI S (a + 2) Q.length (nI p)) (a + 3) Q.length (nI k)) a 5 (nI (Q.length + 1))) a 12 (nI 1)) a 14 (xB sb')) a 11 (nI s')) (s', Q ++ [(p, k)], F, 1, tb, sb') := by
  obtain ⟨h1, h2, h3, h4, h5, h6, h7, h8⟩ := h
  have hl := xlen1 Q (p, k)
  refine ⟨?_, fun i hi => ?_, ?_, fun i hi => ?_, xI_same _ _ _ _, fun _ => ?_, ?_, ?_⟩
  · rw [hl]; exact xi (xi (xi (xI_same _ _ _ _) (Or.inr (by decide))) (Or.inr (by decide))) (Or.inr (by decide))
  · rw [xqA _ _ _ hi]
    rw [hl] at hi
    split
    · rename_i w
      exact ⟨xi (xi (xi (xi (xi (xi (h2 i w).1 (Or.inr (by omega))) (Or.inl (by omega))) (Or.inl (by omega))) (Or.inl (by omega))) (Or.inl (by omega))) (Or.inl (by omega)), xi (xi (xi (xi (xi (xi (h2 i w).2 (Or.inl (by omega))) (Or.inr (by omega))) (Or.inl (by omega))) (Or.inl (by omega))) (Or.inl (by omega))) (Or.inl (by omega))⟩
    · rename_i w
      rw [show i = Q.length by omega]
      exact ⟨xi (xi (xi (xi (xi (xI_same _ _ _ _) (Or.inl (by omega))) (Or.inl (by omega))) (Or.inl (by omega))) (Or.inl (by omega))) (Or.inl (by omega)), xi (xi (xi (xi (xI_same _ _ _ _) (Or.inl (by omega))) (Or.inl (by omega))) (Or.inl (by omega))) (Or.inl (by omega))⟩
  · exact xi (xi (xi (xi (xi (xi h3 (Or.inl (by omega))) (Or.inl (by omega))) (Or.inr (by decide))) (Or.inr (by decide))) (Or.inr (by decide))) (Or.inr (by decide))
  · exact xi (xi (xi (xi (xi (xi (h4 i hi) (Or.inl (by omega))) (Or.inl (by omega))) (Or.inl (by omega))) (Or.inl (by omega))) (Or.inl (by omega))) (Or.inl (by omega))
  · exact xi (xi (xI_same _ _ _ _) (Or.inr (by decide))) (Or.inr (by decide))
  · exact xi (xi (xi (xi (xi (xi h7 (Or.inl (by omega))) (Or.inl (by omega))) (Or.inr (by decide))) (Or.inr (by decide))) (Or.inr (by decide))) (Or.inr (by decide))
  · exact xi (xI_same _ _ _ _) (Or.inr (by decide))
theorem xFR1_item {a q : Nat} {x y z u v t : Int32} {S : xS} : xFl (xFR1 a) S (xSI (xSI (xSI (xSI (xSI (xSI S (a + 2) q x) (a + 3) q y) a 5 z) a 12 u) a 14 v) a 11 t) :=
  ((((((xFl.rf S).SI (Or.inr (Or.inl rfl))).SI (Or.inr (Or.inr (Or.inl rfl)))).SI (Or.inl ⟨rfl, by omega⟩)).SI (Or.inl ⟨rfl, by omega⟩)).SI (Or.inl ⟨rfl, by omega⟩)).SI (Or.inl ⟨rfl, by omega⟩)
theorem c_takeItem {a s w c p : Nat} {Q : List (Nat × Nat)} {F : List Nat} {tb sb : Bool} (d : Nat) (ho : xRo a) {S : xS} (hX : XC S) (hR : xCR a S (s, Q, F, w, tb, sb)) (hc : c < 256) (hp : p < 240) (hq1 : Q.length < 120) : ∃ S', xcall false (d + 2) j_X3_takeItem [.ref a, .int (nI c), .int (nI p)] S (some (.int (nI (xer (xcti c p Q F tb sb))))) S' ∧ xFl (xFR1 a) S S' ∧ ∀ r, (xcti c p Q F tb sb) = .ok r → xCR a S' r := by
  obtain ⟨ha, h1, h2, h3, h4, h5, q0, q2, q3, q4, q6⟩ := ho.sh hX
  obtain ⟨r1, r2, r3, r4, r5, r6, r7, r8⟩ := id hR
  have k13 : S.2.1 a 13 = xB tb := r7
  have k14 : S.2.1 a 14 = xB sb := r8
  have gk := c_kindFrom (S := S) hc (d + 0)
  have rf : xFl (xFR1 a) S S := xFl.rf S
  unfold xcti
  cases hk : xkd c with
  | none =>
    rw [hk] at gk
    refine ⟨S, ?_, rf, fun r hr => (by cases hr)⟩
    refine xcall_intro (ls := [.ref a, .int (nI c), .int (nI p), .float 0]) q_X3_takeItem (by decide) rfl (Nat.le_of_ble_eq_true rfl) rfl ?_
    refine wp_iload_n dX3_takeItem_0 rfl (wp_is1 dX3_takeItem_1 k3_90 q_X3_kindFrom (by decide) (Nat.le_of_ble_eq_true rfl) gk (wp_istore_n dX3_takeItem_4 ⟨Nat.le_of_ble_eq_true rfl, Or.inr rfl⟩ rfl (wp_iload_n dX3_takeItem_5 rfl (wp_iconst (v := -1) dX3_takeItem_6 rfl ?_))))
    refine wp_icmp_eq dX3_takeItem_7 rfl (fun c7 => ?_) (fun c7 => absurd c7 (not_not_intro rfl))
    exact wp_iconst (v := nI 1) dX3_takeItem_22 rfl (wp_ireturn dX3_takeItem_23 rfl rfl ⟨rfl, rfl⟩)
  | some k =>
    rw [hk] at gk
    have k5 : S.2.1 a 5 = nI Q.length := r1
    have gb := c_beginItem (p := p) (k := k) (d + 1) ho hX k5 hq1
    have hk4 : k = 0 ∨ k = 2 ∨ k = 3 ∨ k = 4 := by
      unfold xkd at hk
      repeat' split at hk
      all_goals (cases hk <;> decide)
    have k14c : (xSI (xSI (xSI S (a + 2) Q.length (nI p)) (a + 3) Q.length (nI k)) a 5 (nI (Q.length + 1))).2.1 a 14 = xB sb := xi (xi (xi k14 (Or.inl (by omega))) (Or.inl (by omega))) (Or.inr (by decide))
    rcases hk4 with rfl | rfl | rfl | rfl
    · simp only []
      rw [if_neg (fun w => absurd w.1 (by decide))]
      cases sb with
      | true =>
        refine ⟨xSI (xSI (xSI (xSI (xSI (xSI S (a + 2) Q.length (nI p)) (a + 3) Q.length (nI 0)) a 5 (nI (Q.length + 1))) a 12 (nI 1)) a 14 (xB true)) a 11 (nI 4), ?_, xFR1_item, fun r hr => (by cases hr; exact xCR_item hR)⟩
        refine xcall_intro (ls := [.ref a, .int (nI c), .int (nI p), .float 0]) q_X3_takeItem (by decide) rfl (Nat.le_of_ble_eq_true rfl) rfl ?_
        refine wp_iload_n dX3_takeItem_0 rfl (wp_is1 dX3_takeItem_1 k3_90 q_X3_kindFrom (by decide) (Nat.le_of_ble_eq_true rfl) gk (wp_istore_n dX3_takeItem_4 ⟨Nat.le_of_ble_eq_true rfl, Or.inr rfl⟩ rfl (wp_iload_n dX3_takeItem_5 rfl (wp_iconst (v := -1) dX3_takeItem_6 rfl ?_))))
        refine wp_icmp_eq dX3_takeItem_7 rfl (fun c7 => absurd c7 (by decide)) (fun c7 => ?_)
        refine wp_iload_n dX3_takeItem_10 rfl (wp_iconst (v := nI 4) dX3_takeItem_11 rfl ?_)
        refine wn_icmp_ne dX3_takeItem_12 rfl (by omega) (by omega) (fun c12 => ?_) (fun c12 => absurd c12 (by omega))
        refine wp_aload_n dX3_takeItem_24 rfl rfl (wp_iload_n dX3_takeItem_25 rfl (wp_iload_n dX3_takeItem_26 rfl (wp_iv3 dX3_takeItem_27 k3_86 q_X3_beginItem (by decide) ha (by decide) (Nat.le_of_ble_eq_true rfl) gb (wp_aload_n dX3_takeItem_30 rfl rfl (wp_iconst (v := nI 1) dX3_takeItem_31 rfl (p3_93 dX3_takeItem_32 ha (wp_aload_n dX3_takeItem_35 rfl rfl (wp_aload_n dX3_takeItem_36 rfl rfl (gv3_48 dX3_takeItem_37 ha (xi k14c (Or.inr (by decide))) ?_)))))))))
        refine wb_if_ne dX3_takeItem_40 rfl (fun c40 => ?_) (fun c40 => absurd c40 (by decide))
        refine wp_iconst (v := nI 1) dX3_takeItem_52 rfl (wp_goto dX3_takeItem_53 rfl (p3_48 dX3_takeItem_57 ha (Or.inr rfl) (wp_iload_n dX3_takeItem_60 rfl ?_)))
        refine wn_if_ne dX3_takeItem_61 rfl (by omega) (fun c61 => absurd c61 (by omega)) (fun c61 => ?_)
        exact wp_aload_n dX3_takeItem_64 rfl rfl (wp_iconst (v := nI 4) dX3_takeItem_65 rfl (p3_42 dX3_takeItem_66 ha (wp_goto dX3_takeItem_69 rfl (wp_iconst (v := nI 0) dX3_takeItem_87 rfl (wp_ireturn dX3_takeItem_88 rfl rfl ⟨rfl, rfl⟩)))))
      | false =>
        refine ⟨xSI (xSI (xSI (xSI (xSI (xSI S (a + 2) Q.length (nI p)) (a + 3) Q.length (nI 0)) a 5 (nI (Q.length + 1))) a 12 (nI 1)) a 14 (xB true)) a 11 (nI 4), ?_, xFR1_item, fun r hr => (by cases hr; exact xCR_item hR)⟩
        refine xcall_intro (ls := [.ref a, .int (nI c), .int (nI p), .float 0]) q_X3_takeItem (by decide) rfl (Nat.le_of_ble_eq_true rfl) rfl ?_
        refine wp_iload_n dX3_takeItem_0 rfl (wp_is1 dX3_takeItem_1 k3_90 q_X3_kindFrom (by decide) (Nat.le_of_ble_eq_true rfl) gk (wp_istore_n dX3_takeItem_4 ⟨Nat.le_of_ble_eq_true rfl, Or.inr rfl⟩ rfl (wp_iload_n dX3_takeItem_5 rfl (wp_iconst (v := -1) dX3_takeItem_6 rfl ?_))))
        refine wp_icmp_eq dX3_takeItem_7 rfl (fun c7 => absurd c7 (by decide)) (fun c7 => ?_)
        refine wp_iload_n dX3_takeItem_10 rfl (wp_iconst (v := nI 4) dX3_takeItem_11 rfl ?_)
        refine wn_icmp_ne dX3_takeItem_12 rfl (by omega) (by omega) (fun c12 => ?_) (fun c12 => absurd c12 (by omega))
        refine wp_aload_n dX3_takeItem_24 rfl rfl (wp_iload_n dX3_takeItem_25 rfl (wp_iload_n dX3_takeItem_26 rfl (wp_iv3 dX3_takeItem_27 k3_86 q_X3_beginItem (by decide) ha (by decide) (Nat.le_of_ble_eq_true rfl) gb (wp_aload_n dX3_takeItem_30 rfl rfl (wp_iconst (v := nI 1) dX3_takeItem_31 rfl (p3_93 dX3_takeItem_32 ha (wp_aload_n dX3_takeItem_35 rfl rfl (wp_aload_n dX3_takeItem_36 rfl rfl (gv3_48 dX3_takeItem_37 ha (xi k14c (Or.inr (by decide))) ?_)))))))))
        refine wb_if_ne dX3_takeItem_40 rfl (fun c40 => absurd c40 (by decide)) (fun c40 => ?_)
        refine wp_iload_n dX3_takeItem_43 rfl ?_
        refine wn_if_eq dX3_takeItem_44 rfl (by omega) (fun c44 => ?_) (fun c44 => absurd c44 (by omega))
        refine wp_iconst (v := nI 1) dX3_takeItem_52 rfl (wp_goto dX3_takeItem_53 rfl (p3_48 dX3_takeItem_57 ha (Or.inr rfl) (wp_iload_n dX3_takeItem_60 rfl ?_)))
        refine wn_if_ne dX3_takeItem_61 rfl (by omega) (fun c61 => absurd c61 (by omega)) (fun c61 => ?_)
        exact wp_aload_n dX3_takeItem_64 rfl rfl (wp_iconst (v := nI 4) dX3_takeItem_65 rfl (p3_42 dX3_takeItem_66 ha (wp_goto dX3_takeItem_69 rfl (wp_iconst (v := nI 0) dX3_takeItem_87 rfl (wp_ireturn dX3_takeItem_88 rfl rfl ⟨rfl, rfl⟩)))))
    · simp only []
      rw [if_neg (fun w => absurd w.1 (by decide))]
      cases sb with
      | true =>
        refine ⟨xSI (xSI (xSI (xSI (xSI (xSI S (a + 2) Q.length (nI p)) (a + 3) Q.length (nI 2)) a 5 (nI (Q.length + 1))) a 12 (nI 1)) a 14 (xB true)) a 11 (nI 5), ?_, xFR1_item, fun r hr => (by cases hr; exact xCR_item hR)⟩
        refine xcall_intro (ls := [.ref a, .int (nI c), .int (nI p), .float 0]) q_X3_takeItem (by decide) rfl (Nat.le_of_ble_eq_true rfl) rfl ?_
        refine wp_iload_n dX3_takeItem_0 rfl (wp_is1 dX3_takeItem_1 k3_90 q_X3_kindFrom (by decide) (Nat.le_of_ble_eq_true rfl) gk (wp_istore_n dX3_takeItem_4 ⟨Nat.le_of_ble_eq_true rfl, Or.inr rfl⟩ rfl (wp_iload_n dX3_takeItem_5 rfl (wp_iconst (v := -1) dX3_takeItem_6 rfl ?_))))
        refine wp_icmp_eq dX3_takeItem_7 rfl (fun c7 => absurd c7 (by decide)) (fun c7 => ?_)
        refine wp_iload_n dX3_takeItem_10 rfl (wp_iconst (v := nI 4) dX3_takeItem_11 rfl ?_)
        refine wn_icmp_ne dX3_takeItem_12 rfl (by omega) (by omega) (fun c12 => ?_) (fun c12 => absurd c12 (by omega))
        refine wp_aload_n dX3_takeItem_24 rfl rfl (wp_iload_n dX3_takeItem_25 rfl (wp_iload_n dX3_takeItem_26 rfl (wp_iv3 dX3_takeItem_27 k3_86 q_X3_beginItem (by decide) ha (by decide) (Nat.le_of_ble_eq_true rfl) gb (wp_aload_n dX3_takeItem_30 rfl rfl (wp_iconst (v := nI 1) dX3_takeItem_31 rfl (p3_93 dX3_takeItem_32 ha (wp_aload_n dX3_takeItem_35 rfl rfl (wp_aload_n dX3_takeItem_36 rfl rfl (gv3_48 dX3_takeItem_37 ha (xi k14c (Or.inr (by decide))) ?_)))))))))
        refine wb_if_ne dX3_takeItem_40 rfl (fun c40 => ?_) (fun c40 => absurd c40 (by decide))
        refine wp_iconst (v := nI 1) dX3_takeItem_52 rfl (wp_goto dX3_takeItem_53 rfl (p3_48 dX3_takeItem_57 ha (Or.inr rfl) (wp_iload_n dX3_takeItem_60 rfl ?_)))
        refine wn_if_ne dX3_takeItem_61 rfl (by omega) (fun c61 => ?_) (fun c61 => absurd c61 (by omega))
        refine wp_aload_n dX3_takeItem_72 rfl rfl (wp_iload_n dX3_takeItem_73 rfl (wp_iconst (v := nI 4) dX3_takeItem_74 rfl ?_))
        refine wn_icmp_ne dX3_takeItem_75 rfl (by omega) (by omega) (fun c75 => ?_) (fun c75 => absurd c75 (by omega))
        exact wp_iconst (v := nI 5) dX3_takeItem_83 rfl (p3_42 dX3_takeItem_84 ha (wp_iconst (v := nI 0) dX3_takeItem_87 rfl (wp_ireturn dX3_takeItem_88 rfl rfl ⟨rfl, rfl⟩)))
      | false =>
        refine ⟨xSI (xSI (xSI (xSI (xSI (xSI S (a + 2) Q.length (nI p)) (a + 3) Q.length (nI 2)) a 5 (nI (Q.length + 1))) a 12 (nI 1)) a 14 (xB false)) a 11 (nI 5), ?_, xFR1_item, fun r hr => (by cases hr; exact xCR_item hR)⟩
        refine xcall_intro (ls := [.ref a, .int (nI c), .int (nI p), .float 0]) q_X3_takeItem (by decide) rfl (Nat.le_of_ble_eq_true rfl) rfl ?_
        refine wp_iload_n dX3_takeItem_0 rfl (wp_is1 dX3_takeItem_1 k3_90 q_X3_kindFrom (by decide) (Nat.le_of_ble_eq_true rfl) gk (wp_istore_n dX3_takeItem_4 ⟨Nat.le_of_ble_eq_true rfl, Or.inr rfl⟩ rfl (wp_iload_n dX3_takeItem_5 rfl (wp_iconst (v := -1) dX3_takeItem_6 rfl ?_))))
        refine wp_icmp_eq dX3_takeItem_7 rfl (fun c7 => absurd c7 (by decide)) (fun c7 => ?_)
        refine wp_iload_n dX3_takeItem_10 rfl (wp_iconst (v := nI 4) dX3_takeItem_11 rfl ?_)
        refine wn_icmp_ne dX3_takeItem_12 rfl (by omega) (by omega) (fun c12 => ?_) (fun c12 => absurd c12 (by omega))
        refine wp_aload_n dX3_takeItem_24 rfl rfl (wp_iload_n dX3_takeItem_25 rfl (wp_iload_n dX3_takeItem_26 rfl (wp_iv3 dX3_takeItem_27 k3_86 q_X3_beginItem (by decide) ha (by decide) (Nat.le_of_ble_eq_true rfl) gb (wp_aload_n dX3_takeItem_30 rfl rfl (wp_iconst (v := nI 1) dX3_takeItem_31 rfl (p3_93 dX3_takeItem_32 ha (wp_aload_n dX3_takeItem_35 rfl rfl (wp_aload_n dX3_takeItem_36 rfl rfl (gv3_48 dX3_takeItem_37 ha (xi k14c (Or.inr (by decide))) ?_)))))))))
        refine wb_if_ne dX3_takeItem_40 rfl (fun c40 => absurd c40 (by decide)) (fun c40 => ?_)
        refine wp_iload_n dX3_takeItem_43 rfl ?_
        refine wn_if_eq dX3_takeItem_44 rfl (by omega) (fun c44 => absurd c44 (by omega)) (fun c44 => ?_)
        refine wp_iload_n dX3_takeItem_47 rfl (wp_iconst (v := nI 3) dX3_takeItem_48 rfl ?_)
        refine wn_icmp_ne dX3_takeItem_49 rfl (by omega) (by omega) (fun c49 => ?_) (fun c49 => absurd c49 (by omega))
        refine wp_iconst (v := nI 0) dX3_takeItem_56 rfl (p3_48 dX3_takeItem_57 ha (Or.inl rfl) (wp_iload_n dX3_takeItem_60 rfl ?_))
        refine wn_if_ne dX3_takeItem_61 rfl (by omega) (fun c61 => ?_) (fun c61 => absurd c61 (by omega))
        refine wp_aload_n dX3_takeItem_72 rfl rfl (wp_iload_n dX3_takeItem_73 rfl (wp_iconst (v := nI 4) dX3_takeItem_74 rfl ?_))
        refine wn_icmp_ne dX3_takeItem_75 rfl (by omega) (by omega) (fun c75 => ?_) (fun c75 => absurd c75 (by omega))
        exact wp_iconst (v := nI 5) dX3_takeItem_83 rfl (p3_42 dX3_takeItem_84 ha (wp_iconst (v := nI 0) dX3_takeItem_87 rfl (wp_ireturn dX3_takeItem_88 rfl rfl ⟨rfl, rfl⟩)))
    · simp only []
      rw [if_neg (fun w => absurd w.1 (by decide))]
      cases sb with
      | true =>
        refine ⟨xSI (xSI (xSI (xSI (xSI (xSI S (a + 2) Q.length (nI p)) (a + 3) Q.length (nI 3)) a 5 (nI (Q.length + 1))) a 12 (nI 1)) a 14 (xB true)) a 11 (nI 5), ?_, xFR1_item, fun r hr => (by cases hr; exact xCR_item hR)⟩
        refine xcall_intro (ls := [.ref a, .int (nI c), .int (nI p), .float 0]) q_X3_takeItem (by decide) rfl (Nat.le_of_ble_eq_true rfl) rfl ?_
        refine wp_iload_n dX3_takeItem_0 rfl (wp_is1 dX3_takeItem_1 k3_90 q_X3_kindFrom (by decide) (Nat.le_of_ble_eq_true rfl) gk (wp_istore_n dX3_takeItem_4 ⟨Nat.le_of_ble_eq_true rfl, Or.inr rfl⟩ rfl (wp_iload_n dX3_takeItem_5 rfl (wp_iconst (v := -1) dX3_takeItem_6 rfl ?_))))
        refine wp_icmp_eq dX3_takeItem_7 rfl (fun c7 => absurd c7 (by decide)) (fun c7 => ?_)
        refine wp_iload_n dX3_takeItem_10 rfl (wp_iconst (v := nI 4) dX3_takeItem_11 rfl ?_)
        refine wn_icmp_ne dX3_takeItem_12 rfl (by omega) (by omega) (fun c12 => ?_) (fun c12 => absurd c12 (by omega))
        refine wp_aload_n dX3_takeItem_24 rfl rfl (wp_iload_n dX3_takeItem_25 rfl (wp_iload_n dX3_takeItem_26 rfl (wp_iv3 dX3_takeItem_27 k3_86 q_X3_beginItem (by decide) ha (by decide) (Nat.le_of_ble_eq_true rfl) gb (wp_aload_n dX3_takeItem_30 rfl rfl (wp_iconst (v := nI 1) dX3_takeItem_31 rfl (p3_93 dX3_takeItem_32 ha (wp_aload_n dX3_takeItem_35 rfl rfl (wp_aload_n dX3_takeItem_36 rfl rfl (gv3_48 dX3_takeItem_37 ha (xi k14c (Or.inr (by decide))) ?_)))))))))
        refine wb_if_ne dX3_takeItem_40 rfl (fun c40 => ?_) (fun c40 => absurd c40 (by decide))
        refine wp_iconst (v := nI 1) dX3_takeItem_52 rfl (wp_goto dX3_takeItem_53 rfl (p3_48 dX3_takeItem_57 ha (Or.inr rfl) (wp_iload_n dX3_takeItem_60 rfl ?_)))
        refine wn_if_ne dX3_takeItem_61 rfl (by omega) (fun c61 => ?_) (fun c61 => absurd c61 (by omega))
        refine wp_aload_n dX3_takeItem_72 rfl rfl (wp_iload_n dX3_takeItem_73 rfl (wp_iconst (v := nI 4) dX3_takeItem_74 rfl ?_))
        refine wn_icmp_ne dX3_takeItem_75 rfl (by omega) (by omega) (fun c75 => ?_) (fun c75 => absurd c75 (by omega))
        exact wp_iconst (v := nI 5) dX3_takeItem_83 rfl (p3_42 dX3_takeItem_84 ha (wp_iconst (v := nI 0) dX3_takeItem_87 rfl (wp_ireturn dX3_takeItem_88 rfl rfl ⟨rfl, rfl⟩)))
      | false =>
        refine ⟨xSI (xSI (xSI (xSI (xSI (xSI S (a + 2) Q.length (nI p)) (a + 3) Q.length (nI 3)) a 5 (nI (Q.length + 1))) a 12 (nI 1)) a 14 (xB true)) a 11 (nI 5), ?_, xFR1_item, fun r hr => (by cases hr; exact xCR_item hR)⟩
        refine xcall_intro (ls := [.ref a, .int (nI c), .int (nI p), .float 0]) q_X3_takeItem (by decide) rfl (Nat.le_of_ble_eq_true rfl) rfl ?_
        refine wp_iload_n dX3_takeItem_0 rfl (wp_is1 dX3_takeItem_1 k3_90 q_X3_kindFrom (by decide) (Nat.le_of_ble_eq_true rfl) gk (wp_istore_n dX3_takeItem_4 ⟨Nat.le_of_ble_eq_true rfl, Or.inr rfl⟩ rfl (wp_iload_n dX3_takeItem_5 rfl (wp_iconst (v := -1) dX3_takeItem_6 rfl ?_))))
        refine wp_icmp_eq dX3_takeItem_7 rfl (fun c7 => absurd c7 (by decide)) (fun c7 => ?_)
        refine wp_iload_n dX3_takeItem_10 rfl (wp_iconst (v := nI 4) dX3_takeItem_11 rfl ?_)
        refine wn_icmp_ne dX3_takeItem_12 rfl (by omega) (by omega) (fun c12 => ?_) (fun c12 => absurd c12 (by omega))
        refine wp_aload_n dX3_takeItem_24 rfl rfl (wp_iload_n dX3_takeItem_25 rfl (wp_iload_n dX3_takeItem_26 rfl (wp_iv3 dX3_takeItem_27 k3_86 q_X3_beginItem (by decide) ha (by decide) (Nat.le_of_ble_eq_true rfl) gb (wp_aload_n dX3_takeItem_30 rfl rfl (wp_iconst (v := nI 1) dX3_takeItem_31 rfl (p3_93 dX3_takeItem_32 ha (wp_aload_n dX3_takeItem_35 rfl rfl (wp_aload_n dX3_takeItem_36 rfl rfl (gv3_48 dX3_takeItem_37 ha (xi k14c (Or.inr (by decide))) ?_)))))))))
        refine wb_if_ne dX3_takeItem_40 rfl (fun c40 => absurd c40 (by decide)) (fun c40 => ?_)
        refine wp_iload_n dX3_takeItem_43 rfl ?_
        refine wn_if_eq dX3_takeItem_44 rfl (by omega) (fun c44 => absurd c44 (by omega)) (fun c44 => ?_)
        refine wp_iload_n dX3_takeItem_47 rfl (wp_iconst (v := nI 3) dX3_takeItem_48 rfl ?_)
        refine wn_icmp_ne dX3_takeItem_49 rfl (by omega) (by omega) (fun c49 => absurd c49 (by omega)) (fun c49 => ?_)
        refine wp_iconst (v := nI 1) dX3_takeItem_52 rfl (wp_goto dX3_takeItem_53 rfl (p3_48 dX3_takeItem_57 ha (Or.inr rfl) (wp_iload_n dX3_takeItem_60 rfl ?_)))
        refine wn_if_ne dX3_takeItem_61 rfl (by omega) (fun c61 => ?_) (fun c61 => absurd c61 (by omega))
        refine wp_aload_n dX3_takeItem_72 rfl rfl (wp_iload_n dX3_takeItem_73 rfl (wp_iconst (v := nI 4) dX3_takeItem_74 rfl ?_))
        refine wn_icmp_ne dX3_takeItem_75 rfl (by omega) (by omega) (fun c75 => ?_) (fun c75 => absurd c75 (by omega))
        exact wp_iconst (v := nI 5) dX3_takeItem_83 rfl (p3_42 dX3_takeItem_84 ha (wp_iconst (v := nI 0) dX3_takeItem_87 rfl (wp_ireturn dX3_takeItem_88 rfl rfl ⟨rfl, rfl⟩)))
    · simp only []
      cases tb with
      | true =>
        rw [if_pos (by decide)]
        refine ⟨S, ?_, rf, fun r hr => (by cases hr)⟩
        refine xcall_intro (ls := [.ref a, .int (nI c), .int (nI p), .float 0]) q_X3_takeItem (by decide) rfl (Nat.le_of_ble_eq_true rfl) rfl ?_
        refine wp_iload_n dX3_takeItem_0 rfl (wp_is1 dX3_takeItem_1 k3_90 q_X3_kindFrom (by decide) (Nat.le_of_ble_eq_true rfl) gk (wp_istore_n dX3_takeItem_4 ⟨Nat.le_of_ble_eq_true rfl, Or.inr rfl⟩ rfl (wp_iload_n dX3_takeItem_5 rfl (wp_iconst (v := -1) dX3_takeItem_6 rfl ?_))))
        refine wp_icmp_eq dX3_takeItem_7 rfl (fun c7 => absurd c7 (by decide)) (fun c7 => ?_)
        refine wp_iload_n dX3_takeItem_10 rfl (wp_iconst (v := nI 4) dX3_takeItem_11 rfl ?_)
        refine wn_icmp_ne dX3_takeItem_12 rfl (by omega) (by omega) (fun c12 => absurd c12 (by omega)) (fun c12 => ?_)
        refine wp_aload_n dX3_takeItem_15 rfl rfl (gv3_45 dX3_takeItem_16 ha k13 ?_)
        refine wb_if_eq dX3_takeItem_19 rfl (fun c19 => absurd c19 (by decide)) (fun c19 => ?_)
        exact wp_iconst (v := nI 1) dX3_takeItem_22 rfl (wp_ireturn dX3_takeItem_23 rfl rfl ⟨rfl, rfl⟩)
      | false =>
        rw [if_neg (by decide)]
        cases sb with
        | true =>
          refine ⟨xSI (xSI (xSI (xSI (xSI (xSI S (a + 2) Q.length (nI p)) (a + 3) Q.length (nI 4)) a 5 (nI (Q.length + 1))) a 12 (nI 1)) a 14 (xB true)) a 11 (nI 6), ?_, xFR1_item, fun r hr => (by cases hr; exact xCR_item hR)⟩
          refine xcall_intro (ls := [.ref a, .int (nI c), .int (nI p), .float 0]) q_X3_takeItem (by decide) rfl (Nat.le_of_ble_eq_true rfl) rfl ?_
          refine wp_iload_n dX3_takeItem_0 rfl (wp_is1 dX3_takeItem_1 k3_90 q_X3_kindFrom (by decide) (Nat.le_of_ble_eq_true rfl) gk (wp_istore_n dX3_takeItem_4 ⟨Nat.le_of_ble_eq_true rfl, Or.inr rfl⟩ rfl (wp_iload_n dX3_takeItem_5 rfl (wp_iconst (v := -1) dX3_takeItem_6 rfl ?_))))
          refine wp_icmp_eq dX3_takeItem_7 rfl (fun c7 => absurd c7 (by decide)) (fun c7 => ?_)
          refine wp_iload_n dX3_takeItem_10 rfl (wp_iconst (v := nI 4) dX3_takeItem_11 rfl ?_)
          refine wn_icmp_ne dX3_takeItem_12 rfl (by omega) (by omega) (fun c12 => absurd c12 (by omega)) (fun c12 => ?_)
          refine wp_aload_n dX3_takeItem_15 rfl rfl (gv3_45 dX3_takeItem_16 ha k13 ?_)
          refine wb_if_eq dX3_takeItem_19 rfl (fun c19 => ?_) (fun c19 => absurd c19 (by decide))
          refine wp_aload_n dX3_takeItem_24 rfl rfl (wp_iload_n dX3_takeItem_25 rfl (wp_iload_n dX3_takeItem_26 rfl (wp_iv3 dX3_takeItem_27 k3_86 q_X3_beginItem (by decide) ha (by decide) (Nat.le_of_ble_eq_true rfl) gb (wp_aload_n dX3_takeItem_30 rfl rfl (wp_iconst (v := nI 1) dX3_takeItem_31 rfl (p3_93 dX3_takeItem_32 ha (wp_aload_n dX3_takeItem_35 rfl rfl (wp_aload_n dX3_takeItem_36 rfl rfl (gv3_48 dX3_takeItem_37 ha (xi k14c (Or.inr (by decide))) ?_)))))))))
          refine wb_if_ne dX3_takeItem_40 rfl (fun c40 => ?_) (fun c40 => absurd c40 (by decide))
          refine wp_iconst (v := nI 1) dX3_takeItem_52 rfl (wp_goto dX3_takeItem_53 rfl (p3_48 dX3_takeItem_57 ha (Or.inr rfl) (wp_iload_n dX3_takeItem_60 rfl ?_)))
          refine wn_if_ne dX3_takeItem_61 rfl (by omega) (fun c61 => ?_) (fun c61 => absurd c61 (by omega))
          refine wp_aload_n dX3_takeItem_72 rfl rfl (wp_iload_n dX3_takeItem_73 rfl (wp_iconst (v := nI 4) dX3_takeItem_74 rfl ?_))
          refine wn_icmp_ne dX3_takeItem_75 rfl (by omega) (by omega) (fun c75 => absurd c75 (by omega)) (fun c75 => ?_)
          exact wp_bipush (v := nI 6) dX3_takeItem_78 rfl (wp_goto dX3_takeItem_80 rfl (p3_42 dX3_takeItem_84 ha (wp_iconst (v := nI 0) dX3_takeItem_87 rfl (wp_ireturn dX3_takeItem_88 rfl rfl ⟨rfl, rfl⟩))))
        | false =>
          refine ⟨xSI (xSI (xSI (xSI (xSI (xSI S (a + 2) Q.length (nI p)) (a + 3) Q.length (nI 4)) a 5 (nI (Q.length + 1))) a 12 (nI 1)) a 14 (xB false)) a 11 (nI 6), ?_, xFR1_item, fun r hr => (by cases hr; exact xCR_item hR)⟩
          refine xcall_intro (ls := [.ref a, .int (nI c), .int (nI p), .float 0]) q_X3_takeItem (by decide) rfl (Nat.le_of_ble_eq_true rfl) rfl ?_
          refine wp_iload_n dX3_takeItem_0 rfl (wp_is1 dX3_takeItem_1 k3_90 q_X3_kindFrom (by decide) (Nat.le_of_ble_eq_true rfl) gk (wp_istore_n dX3_takeItem_4 ⟨Nat.le_of_ble_eq_true rfl, Or.inr rfl⟩ rfl (wp_iload_n dX3_takeItem_5 rfl (wp_iconst (v := -1) dX3_takeItem_6 rfl ?_))))
          refine wp_icmp_eq dX3_takeItem_7 rfl (fun c7 => absurd c7 (by decide)) (fun c7 => ?_)
          refine wp_iload_n dX3_takeItem_10 rfl (wp_iconst (v := nI 4) dX3_takeItem_11 rfl ?_)
          refine wn_icmp_ne dX3_takeItem_12 rfl (by omega) (by omega) (fun c12 => absurd c12 (by omega)) (fun c12 => ?_)
          refine wp_aload_n dX3_takeItem_15 rfl rfl (gv3_45 dX3_takeItem_16 ha k13 ?_)
          refine wb_if_eq dX3_takeItem_19 rfl (fun c19 => ?_) (fun c19 => absurd c19 (by decide))
          refine wp_aload_n dX3_takeItem_24 rfl rfl (wp_iload_n dX3_takeItem_25 rfl (wp_iload_n dX3_takeItem_26 rfl (wp_iv3 dX3_takeItem_27 k3_86 q_X3_beginItem (by decide) ha (by decide) (Nat.le_of_ble_eq_true rfl) gb (wp_aload_n dX3_takeItem_30 rfl rfl (wp_iconst (v := nI 1) dX3_takeItem_31 rfl (p3_93 dX3_takeItem_32 ha (wp_aload_n dX3_takeItem_35 rfl rfl (wp_aload_n dX3_takeItem_36 rfl rfl (gv3_48 dX3_takeItem_37 ha (xi k14c (Or.inr (by decide))) ?_)))))))))
          refine wb_if_ne dX3_takeItem_40 rfl (fun c40 => absurd c40 (by decide)) (fun c40 => ?_)
          refine wp_iload_n dX3_takeItem_43 rfl ?_
          refine wn_if_eq dX3_takeItem_44 rfl (by omega) (fun c44 => absurd c44 (by omega)) (fun c44 => ?_)
          refine wp_iload_n dX3_takeItem_47 rfl (wp_iconst (v := nI 3) dX3_takeItem_48 rfl ?_)
          refine wn_icmp_ne dX3_takeItem_49 rfl (by omega) (by omega) (fun c49 => ?_) (fun c49 => absurd c49 (by omega))
          refine wp_iconst (v := nI 0) dX3_takeItem_56 rfl (p3_48 dX3_takeItem_57 ha (Or.inl rfl) (wp_iload_n dX3_takeItem_60 rfl ?_))
          refine wn_if_ne dX3_takeItem_61 rfl (by omega) (fun c61 => ?_) (fun c61 => absurd c61 (by omega))
          refine wp_aload_n dX3_takeItem_72 rfl rfl (wp_iload_n dX3_takeItem_73 rfl (wp_iconst (v := nI 4) dX3_takeItem_74 rfl ?_))
          refine wn_icmp_ne dX3_takeItem_75 rfl (by omega) (by omega) (fun c75 => absurd c75 (by omega)) (fun c75 => ?_)
          exact wp_bipush (v := nI 6) dX3_takeItem_78 rfl (wp_goto dX3_takeItem_80 rfl (p3_42 dX3_takeItem_84 ha (wp_iconst (v := nI 0) dX3_takeItem_87 rfl (wp_ireturn dX3_takeItem_88 rfl rfl ⟨rfl, rfl⟩))))
