/-! rhymeIn, forget, born, total and counted of the class -/
theorem xof_le {α : Type} (f : xLn → List α) (L : List xLn) (l : Nat) : xof f L l ≤ (L.flatMap f).length := by
  have e : L.flatMap f = (L.take l).flatMap f ++ (L.drop l).flatMap f := by rw [← List.flatMap_append, List.take_append_drop]
  unfold xof
  rw [e, List.length_append]
  exact Nat.le_add_right _ _
theorem c_rhymeIn_out {sv : Int32} (d : Nat) {S : xS} (hX : XC S) (hsl : xsl sv = false) : xcall false (d + 1) j_X11_rhymeIn [.ref 0, .int sv] S (some .null) S := by
  have gi := c_isSlot sv d S
  rw [hsl] at gi
  refine xcall_intro (ls := [.ref 0, .int sv, .float 0]) q_X11_rhymeIn (by decide) rfl (Nat.le_of_ble_eq_true rfl) rfl ?_
  refine wp_iload_n dX11_rhymeIn_0 rfl (wp_is1 dX11_rhymeIn_1 k10_136 q_X11_isSlot (by decide) (Nat.le_of_ble_eq_true rfl) gi ?_)
  refine wb_if_eq dX11_rhymeIn_4 rfl (fun c4 => ?_) (fun c4 => absurd c4 (by decide))
  exact wp_aconst_null dX11_rhymeIn_16 (wp_astore_n dX11_rhymeIn_17 rfl ⟨Nat.le_of_ble_eq_true rfl, Or.inr rfl⟩ rfl (wp_aload_n dX11_rhymeIn_18 rfl rfl (wp_ifnull_N dX11_rhymeIn_19 rfl (wp_aconst_null dX11_rhymeIn_33 (wp_areturn dX11_rhymeIn_34 rfl rfl ⟨rfl, rfl⟩)))))
theorem c_rhymeIn_nil {b s : Nat} (d : Nat) (hob : xRo b) (hs6 : s < 6) {S : xS} (hX : XC S) (h17 : S.2.2.1 17 s = some b) (h9 : S.2.1 b 9 = nI 0) : xcall false (d + 1) j_X11_rhymeIn [.ref 0, .int (nI s)] S (some .null) S := by
  have gi := c_isSlot (nI s) d S
  rw [xsl_n (by omega), decide_eq_true hs6] at gi
  have hb := (hob.sh hX).1
  refine xcall_intro (ls := [.ref 0, .int (nI s), .float 0]) q_X11_rhymeIn (by decide) rfl (Nat.le_of_ble_eq_true rfl) rfl ?_
  refine wp_iload_n dX11_rhymeIn_0 rfl (wp_is1 dX11_rhymeIn_1 k10_136 q_X11_isSlot (by decide) (Nat.le_of_ble_eq_true rfl) gi ?_)
  refine wb_if_eq dX11_rhymeIn_4 rfl (fun c4 => absurd c4 (by decide)) (fun c4 => ?_)
  refine wp_aload_n dX11_rhymeIn_7 rfl rfl (g10_45 dX11_rhymeIn_8 (xsh hX sh_0) (xrr hX r0_6) (wp_iload_n dX11_rhymeIn_11 rfl (wn_aaload dX11_rhymeIn_12 (xsh hX sh_17) (Or.inl rfl) (by omega) (by decide) h17 (wp_goto dX11_rhymeIn_13 rfl (wp_astore_n dX11_rhymeIn_17 rfl ⟨Nat.le_of_ble_eq_true rfl, Or.inr rfl⟩ rfl (wp_aload_n dX11_rhymeIn_18 rfl rfl (wp_ifnull_R dX11_rhymeIn_19 rfl (wp_aload_n dX11_rhymeIn_22 rfl rfl (gv10_159 dX11_rhymeIn_23 hb h9 ?_)))))))))
  refine wn_if_eq dX11_rhymeIn_26 rfl (by omega) (fun c26 => ?_) (fun c26 => absurd c26 (by omega))
  exact wp_aconst_null dX11_rhymeIn_33 (wp_areturn dX11_rhymeIn_34 rfl rfl ⟨rfl, rfl⟩)
theorem c_rhymeIn {b s : Nat} (d : Nat) (hob : xRo b) (hs6 : s < 6) {S : xS} (hX : XC S) (h17 : S.2.2.1 17 s = some b) (h9 : S.2.1 b 9 = nI 1) : xcall false (d + 1) j_X11_rhymeIn [.ref 0, .int (nI s)] S (some (.ref b)) S := by
  have gi := c_isSlot (nI s) d S
  rw [xsl_n (by omega), decide_eq_true hs6] at gi
  have hb := (hob.sh hX).1
  refine xcall_intro (ls := [.ref 0, .int (nI s), .float 0]) q_X11_rhymeIn (by decide) rfl (Nat.le_of_ble_eq_true rfl) rfl ?_
  refine wp_iload_n dX11_rhymeIn_0 rfl (wp_is1 dX11_rhymeIn_1 k10_136 q_X11_isSlot (by decide) (Nat.le_of_ble_eq_true rfl) gi ?_)
  refine wb_if_eq dX11_rhymeIn_4 rfl (fun c4 => absurd c4 (by decide)) (fun c4 => ?_)
  refine wp_aload_n dX11_rhymeIn_7 rfl rfl (g10_45 dX11_rhymeIn_8 (xsh hX sh_0) (xrr hX r0_6) (wp_iload_n dX11_rhymeIn_11 rfl (wn_aaload dX11_rhymeIn_12 (xsh hX sh_17) (Or.inl rfl) (by omega) (by decide) h17 (wp_goto dX11_rhymeIn_13 rfl (wp_astore_n dX11_rhymeIn_17 rfl ⟨Nat.le_of_ble_eq_true rfl, Or.inr rfl⟩ rfl (wp_aload_n dX11_rhymeIn_18 rfl rfl (wp_ifnull_R dX11_rhymeIn_19 rfl (wp_aload_n dX11_rhymeIn_22 rfl rfl (gv10_159 dX11_rhymeIn_23 hb h9 ?_)))))))))
  refine wn_if_eq dX11_rhymeIn_26 rfl (by omega) (fun c26 => absurd c26 (by omega)) (fun c26 => ?_)
  exact wp_aload_n dX11_rhymeIn_29 rfl rfl (wp_goto dX11_rhymeIn_30 rfl (wp_areturn dX11_rhymeIn_34 rfl rfl ⟨rfl, rfl⟩))
theorem c_forget_no {sv : Int32} (d : Nat) {S : xS} (hX : XC S) (gn : xcall false (d + 1) j_X11_rhymeIn [.ref 0, .int sv] S (some .null) S) : xcall false (d + 2) j_X11_forget [.ref 0, .int sv] S (some (.int (xB false))) S := by
  refine xcall_intro (ls := [.ref 0, .int sv, .float 0]) q_X11_forget (by decide) rfl (Nat.le_of_ble_eq_true rfl) rfl ?_
  exact wp_aload_n dX11_forget_0 rfl rfl (wp_iload_n dX11_forget_1 rfl (wp_iv2 dX11_forget_2 k10_155 q_X11_rhymeIn (by decide) (xsh hX sh_0) (by decide) (Nat.le_of_ble_eq_true rfl) gn (wp_astore_n dX11_forget_5 rfl ⟨Nat.le_of_ble_eq_true rfl, Or.inr rfl⟩ rfl (wp_aload_n dX11_forget_6 rfl rfl (wp_ifnonnull_N dX11_forget_7 rfl (wp_iconst (v := nI 0) dX11_forget_10 rfl (wb_ret dX11_forget_11 rfl rfl ⟨rfl, rfl⟩)))))))
theorem c_forget {sv : Int32} {b : Nat} (d : Nat) (hob : xRo b) {S : xS} (hX : XC S) (gn : xcall false (d + 1) j_X11_rhymeIn [.ref 0, .int sv] S (some (.ref b)) S) : xcall false (d + 2) j_X11_forget [.ref 0, .int sv] S (some (.int (xB true))) (xSI S b 9 (nI 0)) := by
  have hb := (hob.sh hX).1
  refine xcall_intro (ls := [.ref 0, .int sv, .float 0]) q_X11_forget (by decide) rfl (Nat.le_of_ble_eq_true rfl) rfl ?_
  exact wp_aload_n dX11_forget_0 rfl rfl (wp_iload_n dX11_forget_1 rfl (wp_iv2 dX11_forget_2 k10_155 q_X11_rhymeIn (by decide) (xsh hX sh_0) (by decide) (Nat.le_of_ble_eq_true rfl) gn (wp_astore_n dX11_forget_5 rfl ⟨Nat.le_of_ble_eq_true rfl, Or.inr rfl⟩ rfl (wp_aload_n dX11_forget_6 rfl rfl (wp_ifnonnull_R dX11_forget_7 rfl (wp_aload_n dX11_forget_12 rfl rfl (wp_iconst (v := nI 0) dX11_forget_13 rfl (p10_159 dX11_forget_14 hb (Or.inl rfl) (wp_iconst (v := nI 1) dX11_forget_17 rfl (wb_ret dX11_forget_18 rfl rfl ⟨rfl, rfl⟩))))))))))
theorem c_born_no {day : Int32} {sv : Int32} (d : Nat) {S : xS} (hX : XC S) (gn : xcall false (d + 1) j_X11_rhymeIn [.ref 0, .int sv] S (some .null) S) : xcall false (d + 2) j_X11_born [.ref 0, .int sv, .int day] S (some (.int (xB false))) S := by
  refine xcall_intro (ls := [.ref 0, .int sv, .int day, .float 0]) q_X11_born (by decide) rfl (Nat.le_of_ble_eq_true rfl) rfl ?_
  exact wp_aload_n dX11_born_0 rfl rfl (wp_iload_n dX11_born_1 rfl (wp_iv2 dX11_born_2 k10_155 q_X11_rhymeIn (by decide) (xsh hX sh_0) (by decide) (Nat.le_of_ble_eq_true rfl) gn (wp_astore_n dX11_born_5 rfl ⟨Nat.le_of_ble_eq_true rfl, Or.inr rfl⟩ rfl (wp_aload_n dX11_born_6 rfl rfl (wp_ifnull_N dX11_born_7 rfl (wp_iconst (v := nI 0) dX11_born_21 rfl (wb_ret dX11_born_22 rfl rfl ⟨rfl, rfl⟩)))))))
theorem c_born {day : Int32} {sv : Int32} {b : Nat} (d : Nat) (hob : xRo b) {S : xS} (hX : XC S) (gn : xcall false (d + 1) j_X11_rhymeIn [.ref 0, .int sv] S (some (.ref b)) S) : xcall false (d + 2) j_X11_born [.ref 0, .int sv, .int day] S (some (.int (xB (decide (¬ day < 0 ∧ day ≤ 999))))) (if ¬ day < 0 ∧ day ≤ 999 then xSI S b 8 day else S) := by
  have hb := (hob.sh hX).1
  rcases Decidable.em (day < 0) with c1 | c1
  · rw [decide_eq_false (fun w => w.1 c1), if_neg (fun w => w.1 c1)]
    refine xcall_intro (ls := [.ref 0, .int sv, .int day, .float 0]) q_X11_born (by decide) rfl (Nat.le_of_ble_eq_true rfl) rfl ?_
    refine wp_aload_n dX11_born_0 rfl rfl (wp_iload_n dX11_born_1 rfl (wp_iv2 dX11_born_2 k10_155 q_X11_rhymeIn (by decide) (xsh hX sh_0) (by decide) (Nat.le_of_ble_eq_true rfl) gn (wp_astore_n dX11_born_5 rfl ⟨Nat.le_of_ble_eq_true rfl, Or.inr rfl⟩ rfl (wp_aload_n dX11_born_6 rfl rfl (wp_ifnull_R dX11_born_7 rfl (wp_iload_n dX11_born_10 rfl ?_))))))
    refine wp_if_lt dX11_born_11 rfl (fun c11 => ?_) (fun c11 => absurd c11 (not_not_intro c1))
    exact wp_iconst (v := nI 0) dX11_born_21 rfl (wb_ret dX11_born_22 rfl rfl ⟨rfl, rfl⟩)
  rcases Decidable.em (day ≤ 999) with c2 | c2
  · rw [decide_eq_true ⟨c1, c2⟩, if_pos ⟨c1, c2⟩]
    refine xcall_intro (ls := [.ref 0, .int sv, .int day, .float 0]) q_X11_born (by decide) rfl (Nat.le_of_ble_eq_true rfl) rfl ?_
    refine wp_aload_n dX11_born_0 rfl rfl (wp_iload_n dX11_born_1 rfl (wp_iv2 dX11_born_2 k10_155 q_X11_rhymeIn (by decide) (xsh hX sh_0) (by decide) (Nat.le_of_ble_eq_true rfl) gn (wp_astore_n dX11_born_5 rfl ⟨Nat.le_of_ble_eq_true rfl, Or.inr rfl⟩ rfl (wp_aload_n dX11_born_6 rfl rfl (wp_ifnull_R dX11_born_7 rfl (wp_iload_n dX11_born_10 rfl ?_))))))
    refine wp_if_lt dX11_born_11 rfl (fun c11 => absurd c11 c1) (fun c11 => ?_)
    refine wp_iload_n dX11_born_14 rfl (wp_sipush (v := 999) dX11_born_15 rfl ?_)
    refine wp_icmp_le dX11_born_18 rfl (fun c18 => ?_) (fun c18 => absurd c18 (not_not_intro c2))
    exact wp_aload_n dX11_born_23 rfl rfl (wp_iload_n dX11_born_24 rfl (p10_163 dX11_born_25 hb (wp_iconst (v := nI 1) dX11_born_28 rfl (wb_ret dX11_born_29 rfl rfl ⟨rfl, rfl⟩))))
  · rw [decide_eq_false (fun w => c2 w.2), if_neg (fun w => c2 w.2)]
    refine xcall_intro (ls := [.ref 0, .int sv, .int day, .float 0]) q_X11_born (by decide) rfl (Nat.le_of_ble_eq_true rfl) rfl ?_
    refine wp_aload_n dX11_born_0 rfl rfl (wp_iload_n dX11_born_1 rfl (wp_iv2 dX11_born_2 k10_155 q_X11_rhymeIn (by decide) (xsh hX sh_0) (by decide) (Nat.le_of_ble_eq_true rfl) gn (wp_astore_n dX11_born_5 rfl ⟨Nat.le_of_ble_eq_true rfl, Or.inr rfl⟩ rfl (wp_aload_n dX11_born_6 rfl rfl (wp_ifnull_R dX11_born_7 rfl (wp_iload_n dX11_born_10 rfl ?_))))))
    refine wp_if_lt dX11_born_11 rfl (fun c11 => absurd c11 c1) (fun c11 => ?_)
    refine wp_iload_n dX11_born_14 rfl (wp_sipush (v := 999) dX11_born_15 rfl ?_)
    refine wp_icmp_le dX11_born_18 rfl (fun c18 => absurd c18 c2) (fun c18 => ?_)
    exact wp_iconst (v := nI 0) dX11_born_21 rfl (wb_ret dX11_born_22 rfl rfl ⟨rfl, rfl⟩)
theorem tot_in {a n l : Nat} {t : Nat → Nat} {L : List xLn} {v : xTg} {d : Nat} {b : Bool} (ho : xRo a) {S : xS} (hX : XC S) (hV : xRV a S n t L) (hB : xRB a S v t L) (hl : l < L.length) {sm : Int32} {Q : Option Value → xS → Prop} (K : Wp false (d + 2) 3 cX3_total (some .int) false 52 [.ref a, .int (xB b), .int sm, .int (nI l), .int (nI (xsum (fun k => xct v t b ((xcI (L.getD l (0, 0, []))).getD k (0, 0, 0))) (xcI (L.getD l (0, 0, []))).length)), .int (nI (xof xcI L l + (xcI (L.getD l (0, 0, []))).length))] [] S Q) : ∀ (j k : Nat), k + j = (xcI (L.getD l (0, 0, []))).length → Wp false (d + 2) 3 cX3_total (some .int) false 22 [.ref a, .int (xB b), .int sm, .int (nI l), .int (nI (xsum (fun k => xct v t b ((xcI (L.getD l (0, 0, []))).getD k (0, 0, 0))) k)), .int (nI (xof xcI L l + k))] [] S Q := by
  have hou := ho
  unfold xRo at hou
  obtain ⟨ha, h1, h2, h3, h4, h5, q0, q2, q3, q4, q6⟩ := ho.sh hX
  obtain ⟨v1, v2, v3, v4, v5, v6, v7, v8, v9, v10⟩ := id hV
  have h120 := xRok_120 v7 v8
  have e := xof_succ xcI L l hl
  have hle := xof_le xcI L (l + 1)
  have gf := c_firstItem (d + 1) ho hX hV (l := l + 1) (by omega)
  intro j
  induction j with
  | zero =>
    intro k hk
    have hkk : k = (xcI (L.getD l (0, 0, []))).length := by omega
    subst hkk
    refine wp_iload dX3_total_22 rfl (wp_aload_n dX3_total_24 rfl rfl (wp_iload_n dX3_total_25 rfl (wp_iconst (v := nI 1) dX3_total_26 rfl (wv_iadd dX3_total_27 (nI_add _ _) (wp_iv2 dX3_total_28 k3_103 q_X3_firstItem (by decide) ha (by decide) (Nat.le_of_ble_eq_true rfl) gf ?_)))))
    refine wn_icmp_ge dX3_total_31 rfl (by omega) (by omega) (fun c31 => ?_) (fun c31 => absurd c31 (by omega))
    exact K
  | succ j ih =>
    intro k hk
    obtain ⟨o1, o2⟩ := xof_lt v7 hl (show k < (xcI (L.getD l (0, 0, []))).length by omega)
    have gc := c_countOf (d + 1) ho hX hV hB b o1
    rw [o2] at gc
    refine wp_iload dX3_total_22 rfl (wp_aload_n dX3_total_24 rfl rfl (wp_iload_n dX3_total_25 rfl (wp_iconst (v := nI 1) dX3_total_26 rfl (wv_iadd dX3_total_27 (nI_add _ _) (wp_iv2 dX3_total_28 k3_103 q_X3_firstItem (by decide) ha (by decide) (Nat.le_of_ble_eq_true rfl) gf ?_)))))
    refine wn_icmp_ge dX3_total_31 rfl (by omega) (by omega) (fun c31 => absurd c31 (by omega)) (fun c31 => ?_)
    exact wp_iload dX3_total_34 rfl (wp_aload_n dX3_total_36 rfl rfl (wp_iload dX3_total_37 rfl (wp_iload_n dX3_total_39 rfl (wp_iv3 dX3_total_40 k3_130 q_X3_countOf (by decide) ha (by decide) (Nat.le_of_ble_eq_true rfl) gc (wv_iadd dX3_total_43 (nI_add _ _) (wp_istore dX3_total_44 ⟨Nat.le_of_ble_eq_true rfl, Or.inr rfl⟩ rfl (wp_iinc dX3_total_46 rfl (nI_1 _) ⟨Nat.le_of_ble_eq_true rfl, Or.inr rfl⟩ rfl (wp_goto dX3_total_49 rfl (ih (k + 1) (by omega))))))))))
theorem tot_out {a n : Nat} {t : Nat → Nat} {L : List xLn} {v : xTg} {d : Nat} {b : Bool} (ho : xRo a) {S : xS} (hX : XC S) (hV : xRV a S n t L) (hB : xRB a S v t L) : ∀ (j l : Nat) (y4 y5 : Value), l + j = L.length → Wp false (d + 2) 3 cX3_total (some .int) false 4 [.ref a, .int (xB b), .int (nI (xsum (fun l => xsum (fun k => xct v t b ((xcI (L.getD l (0, 0, []))).getD k (0, 0, 0))) (xcI (L.getD l (0, 0, []))).length * (L.getD l (0, 0, [])).1) l)), .int (nI l), y4, y5] [] S (fun r S' => r = some (.int (nI (xtot v t b L))) ∧ S' = S) := by
  have hou := ho
  unfold xRo at hou
  obtain ⟨ha, h1, h2, h3, h4, h5, q0, q2, q3, q4, q6⟩ := ho.sh hX
  obtain ⟨v1, v2, v3, v4, v5, v6, v7, v8, v9, v10⟩ := id hV
  have h120 := xRok_120 v7 v8
  intro j
  induction j with
  | zero =>
    intro l y4 y5 hl
    have hll : l = L.length := by omega
    subst hll
    refine wp_iload_n dX3_total_4 rfl (wp_aload_n dX3_total_5 rfl rfl (gv3_39 dX3_total_6 ha v5 ?_))
    refine wn_icmp_ge dX3_total_9 rfl (by omega) (by omega) (fun c9 => ?_) (fun c9 => absurd c9 (by omega))
    exact wp_iload_n dX3_total_69 rfl (wp_ireturn dX3_total_70 rfl rfl ⟨rfl, rfl⟩)
  | succ j ih =>
    intro l y4 y5 hl
    have hl' : l < L.length := by omega
    have gf := c_firstItem (d + 1) ho hX hV (l := l) (by omega)
    have gt := c_timesOf d ho hX hV hl'
    refine wp_iload_n dX3_total_4 rfl (wp_aload_n dX3_total_5 rfl rfl (gv3_39 dX3_total_6 ha v5 ?_))
    refine wn_icmp_ge dX3_total_9 rfl (by omega) (by omega) (fun c9 => absurd c9 (by omega)) (fun c9 => ?_)
    refine wp_iconst (v := nI 0) dX3_total_12 rfl (wp_istore dX3_total_13 ⟨Nat.le_of_ble_eq_true rfl, Or.inr rfl⟩ rfl (wp_aload_n dX3_total_15 rfl rfl (wp_iload_n dX3_total_16 rfl (wp_iv2 dX3_total_17 k3_103 q_X3_firstItem (by decide) ha (by decide) (Nat.le_of_ble_eq_true rfl) gf (wp_istore dX3_total_20 ⟨Nat.le_of_ble_eq_true rfl, Or.inr rfl⟩ rfl ?_)))))
    refine tot_in ho hX hV hB hl' ?_ (xcI (L.getD l (0, 0, []))).length 0 (by omega)
    exact wp_iload_n dX3_total_52 rfl (wp_iload dX3_total_53 rfl (wp_aload_n dX3_total_55 rfl rfl (wp_iload_n dX3_total_56 rfl (wp_iv2 dX3_total_57 k3_134 q_X3_timesOf (by decide) ha (by decide) (Nat.le_of_ble_eq_true rfl) gt (wv_imul dX3_total_60 (pk_mul _ _) (wv_iadd dX3_total_61 (nI_add _ _) (wp_istore_n dX3_total_62 ⟨Nat.le_of_ble_eq_true rfl, Or.inr rfl⟩ rfl (wp_iinc dX3_total_63 rfl (nI_1 _) ⟨Nat.le_of_ble_eq_true rfl, Or.inr rfl⟩ rfl (wp_goto dX3_total_66 rfl (ih (l + 1) _ _ (by omega)))))))))))
theorem c_total {a n : Nat} {t : Nat → Nat} {L : List xLn} {v : xTg} (d : Nat) (b : Bool) (ho : xRo a) {S : xS} (hX : XC S) (hV : xRV a S n t L) (hB : xRB a S v t L) : xcall false (d + 2) j_X3_total [.ref a, .int (xB b)] S (some (.int (nI (xtot v t b L)))) S := by
  refine xcall_intro (ls := [.ref a, .int (xB b), .float 0, .float 0, .float 0, .float 0]) q_X3_total (by decide) rfl (Nat.le_of_ble_eq_true rfl) rfl ?_
  exact wp_iconst (v := nI 0) dX3_total_0 rfl (wp_istore_n dX3_total_1 ⟨Nat.le_of_ble_eq_true rfl, Or.inr rfl⟩ rfl (wp_iconst (v := nI 0) dX3_total_2 rfl (wp_istore_n dX3_total_3 ⟨Nat.le_of_ble_eq_true rfl, Or.inr rfl⟩ rfl (tot_out ho hX hV hB L.length 0 _ _ (by omega)))))
theorem c_counted_no {bv : Int32} {sv : Int32} (d : Nat) {S : xS} (hX : XC S) (gn : xcall false (d + 1) j_X11_rhymeIn [.ref 0, .int sv] S (some .null) S) : xcall false (d + 2) j_X11_counted [.ref 0, .int sv, .int bv] S (some (.int (-1))) S := by
  refine xcall_intro (ls := [.ref 0, .int sv, .int bv, .float 0]) q_X11_counted (by decide) rfl (Nat.le_of_ble_eq_true rfl) rfl ?_
  exact wp_aload_n dX11_counted_0 rfl rfl (wp_iload_n dX11_counted_1 rfl (wp_iv2 dX11_counted_2 k10_155 q_X11_rhymeIn (by decide) (xsh hX sh_0) (by decide) (Nat.le_of_ble_eq_true rfl) gn (wp_astore_n dX11_counted_5 rfl ⟨Nat.le_of_ble_eq_true rfl, Or.inr rfl⟩ rfl (wp_aload_n dX11_counted_6 rfl rfl (wp_ifnonnull_N dX11_counted_7 rfl (wp_iconst (v := -1) dX11_counted_10 rfl (wp_goto dX11_counted_11 rfl (wp_ireturn dX11_counted_19 rfl rfl ⟨rfl, rfl⟩))))))))
theorem c_counted {n : Nat} {t : Nat → Nat} {L : List xLn} {v : xTg} {cb : Bool} {sv : Int32} {b : Nat} (d : Nat) (hob : xRo b) {S : xS} (hX : XC S) (gn : xcall false (d + 2) j_X11_rhymeIn [.ref 0, .int sv] S (some (.ref b)) S) (hV : xRV b S n t L) (hB : xRB b S v t L) : xcall false (d + 3) j_X11_counted [.ref 0, .int sv, .int (xB cb)] S (some (.int (nI (xtot v t cb L)))) S := by
  have hb := (hob.sh hX).1
  have gt := c_total d cb hob hX hV hB
  refine xcall_intro (ls := [.ref 0, .int sv, .int (xB cb), .float 0]) q_X11_counted (by decide) rfl (Nat.le_of_ble_eq_true rfl) rfl ?_
  exact wp_aload_n dX11_counted_0 rfl rfl (wp_iload_n dX11_counted_1 rfl (wp_iv2 dX11_counted_2 k10_155 q_X11_rhymeIn (by decide) (xsh hX sh_0) (by decide) (Nat.le_of_ble_eq_true rfl) gn (wp_astore_n dX11_counted_5 rfl ⟨Nat.le_of_ble_eq_true rfl, Or.inr rfl⟩ rfl (wp_aload_n dX11_counted_6 rfl rfl (wp_ifnonnull_R dX11_counted_7 rfl (wp_aload_n dX11_counted_14 rfl rfl (wp_iload_n dX11_counted_15 rfl (wp_iv2 dX11_counted_16 k10_177 q_X3_total (by decide) hb (by decide) (Nat.le_of_ble_eq_true rfl) gt (wp_ireturn dX11_counted_19 rfl rfl ⟨rfl, rfl⟩)))))))))
