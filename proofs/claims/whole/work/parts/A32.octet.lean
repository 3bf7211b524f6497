/-! octet where nothing is thrown; a rhyme at no slot -/
theorem m_rhyme_no {n : Nat} {sv : Int32} (d : Nat) {S : xS} (hX : XC S) (hn : S.2.1 187 2 = nI n) (hsl : xsl sv = false) : xcall false (d + 1) j_X12_rhyme [.ref 187, .int sv] S (some (.int (-300))) (xSI (xSI (xSI (xSI S 187 0 (nI 0)) 187 3 (nI n)) 187 2 (nI 0)) 187 4 (nI 0)) := by
  have F0 : xFl (fun i k => i = 187 ∧ k = 0) S (xSI S 187 0 (nI 0)) := (xFl.rf S).SI ⟨rfl, rfl⟩
  have X0 := F0.XC hX
  have gt := m_taken d (S := xSI S 187 0 (nI 0)) X0 (F0.i hn (by omega))
  have X1 : XC (xSI (xSI (xSI (xSI S 187 0 (nI 0)) 187 3 (nI n)) 187 2 (nI 0)) 187 4 (nI 0)) := hX
  have hs := of_decide_eq_false hsl
  rcases Decidable.em (sv < 0) with w | w
  · skip
    refine xcall_intro (ls := [.ref 187, .int sv, .float 0, .float 0, .float 0]) q_X12_rhyme (by decide) rfl (Nat.le_of_ble_eq_true rfl) rfl ?_
    refine wp_aload_n dX12_rhyme_0 rfl rfl (wp_iconst (v := nI 0) dX12_rhyme_1 rfl (p11_1 dX12_rhyme_2 (xsh hX sh_187) (wp_aload_n dX12_rhyme_5 rfl rfl (wp_iv1 dX12_rhyme_6 k11_69 q_X12_taken (by decide) (xsh hX sh_187) (by decide) (Nat.le_of_ble_eq_true rfl) gt (wp_iload_n dX12_rhyme_9 rfl ?_)))))
    refine wp_if_lt dX12_rhyme_10 rfl (fun c10 => ?_) (fun c10 => absurd c10 (not_not_intro w))
    exact wp_sipush (v := -300) dX12_rhyme_19 rfl (wp_ireturn dX12_rhyme_22 rfl rfl ⟨rfl, rfl⟩)
  · have w2 : ¬ sv < nI 6 := fun z => hs ⟨w, z⟩
    refine xcall_intro (ls := [.ref 187, .int sv, .float 0, .float 0, .float 0]) q_X12_rhyme (by decide) rfl (Nat.le_of_ble_eq_true rfl) rfl ?_
    refine wp_aload_n dX12_rhyme_0 rfl rfl (wp_iconst (v := nI 0) dX12_rhyme_1 rfl (p11_1 dX12_rhyme_2 (xsh hX sh_187) (wp_aload_n dX12_rhyme_5 rfl rfl (wp_iv1 dX12_rhyme_6 k11_69 q_X12_taken (by decide) (xsh hX sh_187) (by decide) (Nat.le_of_ble_eq_true rfl) gt (wp_iload_n dX12_rhyme_9 rfl ?_)))))
    refine wp_if_lt dX12_rhyme_10 rfl (fun c10 => absurd c10 w) (fun c10 => ?_)
    refine wp_iload_n dX12_rhyme_13 rfl (wp_bipush (v := nI 6) dX12_rhyme_14 rfl ?_)
    refine wp_icmp_lt dX12_rhyme_16 rfl (fun c16 => absurd c16 w2) (fun c16 => ?_)
    exact wp_sipush (v := -300) dX12_rhyme_19 rfl (wp_ireturn dX12_rhyme_22 rfl rfl ⟨rfl, rfl⟩)
theorem c_octet {i ol : Nat} (d : Nat) {S : xS} (hX : XC S) (k13 : S.2.1 0 13 = nI ol) (hol : ol ≤ 240) (hi : i < ol) : xcall false d j_X11_octet [.ref 0, .int (nI i)] S (some (.int (S.2.1 72 i))) S := by
  refine xcall_intro (ls := [.ref 0, .int (nI i)]) q_X11_octet (by decide) rfl (Nat.le_of_ble_eq_true rfl) rfl ?_
  refine wp_iload_n dX11_octet_0 rfl ?_
  refine wn_if_lt dX11_octet_1 rfl (by omega) ?_
  refine wp_iload_n dX11_octet_4 rfl (wp_aload_n dX11_octet_5 rfl rfl (gv10_188 dX11_octet_6 (xsh hX sh_0) k13 ?_))
  refine wn_icmp_ge dX11_octet_9 rfl (by omega) (by omega) (fun c9 => absurd c9 (by omega)) (fun c9 => ?_)
  refine wp_iload_n dX11_octet_12 rfl (wp_aload_n dX11_octet_13 rfl rfl (g10_67 dX11_octet_14 (xsh hX sh_0) (xrr hX r0_12) (wp_alen (v := nI 240) dX11_octet_17 (xsh hX sh_72) ⟨by decide, by decide⟩ rfl ?_)))
  refine wn_icmp_lt dX11_octet_18 rfl (by omega) (by omega) (fun c18 => ?_) (fun c18 => absurd c18 (by omega))
  exact wp_aload_n dX11_octet_29 rfl rfl (g10_67 dX11_octet_30 (xsh hX sh_0) (xrr hX r0_12) (wp_iload_n dX11_octet_33 rfl (wn_caload dX11_octet_34 (xsh hX sh_72) rfl (by omega) (by decide) rfl (wp_ireturn dX11_octet_35 rfl rfl ⟨rfl, rfl⟩))))
theorem m_octet {i ol : Nat} (d : Nat) {S : xS} (hX : XC S) (k43 : S.2.1 187 43 = nI ol) (hol : ol ≤ 240) (hi : i < ol) : xcall false (d + 1) j_X12_octet [.ref 187, .int (nI i)] S (some (.int (S.2.1 205 i))) (xSI S 187 0 (nI 0)) := by
  have gt := m_throwsIf false d hX
  refine xcall_intro (ls := [.ref 187, .int (nI i)]) q_X12_octet (by decide) rfl (Nat.le_of_ble_eq_true rfl) rfl ?_
  refine wp_aload_n dX12_octet_0 rfl rfl (wp_iload_n dX12_octet_1 rfl ?_)
  refine wn_if_lt dX12_octet_2 rfl (by omega) ?_
  refine wp_iload_n dX12_octet_5 rfl (wp_aload_n dX12_octet_6 rfl rfl (gv11_248 dX12_octet_7 (xsh hX sh_187) k43 ?_))
  refine wn_icmp_lt dX12_octet_10 rfl (by omega) (by omega) (fun c10 => ?_) (fun c10 => absurd c10 (by omega))
  refine wp_iconst (v := nI 0) dX12_octet_17 rfl (wp_iv2 dX12_octet_18 k11_251 q_X12_throwsIf (by decide) (xsh hX sh_187) (by decide) (Nat.le_of_ble_eq_true rfl) gt ?_)
  refine wb_if_eq dX12_octet_21 rfl (fun c21 => ?_) (fun c21 => absurd c21 (by decide))
  exact wp_aload_n dX12_octet_28 rfl rfl (g11_241 dX12_octet_29 (xsh hX sh_187) (xrr hX r187_41) (wp_iload_n dX12_octet_32 rfl (wn_baload dX12_octet_33 (xsh hX sh_205) (Or.inl rfl) (by omega) (by decide) rfl (wp_ireturn dX12_octet_34 rfl rfl ⟨rfl, rfl⟩))))
theorem m_octet_no {iv : Int32} {ol : Nat} (d : Nat) {S : xS} (hX : XC S) (k43 : S.2.1 187 43 = nI ol) (hol : ol ≤ 240) (hno : ¬ ∃ i, i < ol ∧ iv = nI i) : xcall false (d + 1) j_X12_octet [.ref 187, .int iv] S (some (.int (nI 0))) (xSI S 187 0 (nI 1)) := by
  have gt := m_throwsIf true d hX
  rcases Decidable.em (iv < 0) with w | w
  · skip
    refine xcall_intro (ls := [.ref 187, .int iv]) q_X12_octet (by decide) rfl (Nat.le_of_ble_eq_true rfl) rfl ?_
    refine wp_aload_n dX12_octet_0 rfl rfl (wp_iload_n dX12_octet_1 rfl ?_)
    refine wp_if_lt dX12_octet_2 rfl (fun c2 => ?_) (fun c2 => absurd c2 (not_not_intro w))
    refine wp_iconst (v := nI 1) dX12_octet_13 rfl (wp_goto dX12_octet_14 rfl (wp_iv2 dX12_octet_18 k11_251 q_X12_throwsIf (by decide) (xsh hX sh_187) (by decide) (Nat.le_of_ble_eq_true rfl) gt ?_))
    refine wb_if_eq dX12_octet_21 rfl (fun c21 => absurd c21 (by decide)) (fun c21 => ?_)
    exact wp_iconst (v := nI 0) dX12_octet_24 rfl (wp_goto dX12_octet_25 rfl (wp_ireturn dX12_octet_34 rfl rfl ⟨rfl, rfl⟩))
  · obtain ⟨i, hi, rfl⟩ := nI_of w
    have w2 : ol ≤ i := Nat.le_of_not_lt (fun z => hno ⟨i, z, rfl⟩)
    refine xcall_intro (ls := [.ref 187, .int (nI i)]) q_X12_octet (by decide) rfl (Nat.le_of_ble_eq_true rfl) rfl ?_
    refine wp_aload_n dX12_octet_0 rfl rfl (wp_iload_n dX12_octet_1 rfl ?_)
    refine wn_if_lt dX12_octet_2 rfl (by omega) ?_
    refine wp_iload_n dX12_octet_5 rfl (wp_aload_n dX12_octet_6 rfl rfl (gv11_248 dX12_octet_7 (xsh hX sh_187) k43 ?_))
    refine wn_icmp_lt dX12_octet_10 rfl (by omega) (by omega) (fun c10 => absurd c10 (by omega)) (fun c10 => ?_)
    refine wp_iconst (v := nI 1) dX12_octet_13 rfl (wp_goto dX12_octet_14 rfl (wp_iv2 dX12_octet_18 k11_251 q_X12_throwsIf (by decide) (xsh hX sh_187) (by decide) (Nat.le_of_ble_eq_true rfl) gt ?_))
    refine wb_if_eq dX12_octet_21 rfl (fun c21 => absurd c21 (by decide)) (fun c21 => ?_)
    exact wp_iconst (v := nI 0) dX12_octet_24 rfl (wp_goto dX12_octet_25 rfl (wp_ireturn dX12_octet_34 rfl rfl ⟨rfl, rfl⟩))
