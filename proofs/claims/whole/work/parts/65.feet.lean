/-! feet, the calls; the class measures all and reads THE TONGUE -/
/-- a line's number that a rhyme has -/
def xlnok (lv : Int32) (q : Nat) : Bool := decide (¬ lv < 0 ∧ lv < nI q)
theorem xlnok_nI {lv : Int32} {q : Nat} (hq : q < 2 ^ 31) (h : xlnok lv q = true) : ∃ l, l < q ∧ lv = nI l := by
  obtain ⟨h1, h2⟩ := of_decide_eq_true h
  obtain ⟨j, hj, rfl⟩ := nI_of h1
  exact ⟨j, (nI_ltI hj hq).mp h2, rfl⟩
theorem c_hasLine {a n : Nat} {t : Nat → Nat} {L : List xLn} {lv : Int32} (d : Nat) (ho : xRo a) {S : xS} (hX : XC S) (hV : xRV a S n t L) : xcall false d j_X3_hasLine [.ref a, .int lv] S (some (.int (xB (xlnok lv L.length)))) S := by
  have ha := (ho.sh hX).1
  have v5 := hV.2.2.2.2.1
  rcases Decidable.em (lv < 0) with w1 | w1
  · have e : xlnok lv L.length = false := decide_eq_false (fun w => w.1 w1)
    rw [e]
    refine xcall_intro (ls := [.ref a, .int lv]) q_X3_hasLine (by decide) rfl (Nat.le_of_ble_eq_true rfl) rfl ?_
    refine wp_iload_n dX3_hasLine_0 rfl ?_
    refine wp_if_lt dX3_hasLine_1 rfl (fun c1 => ?_) (fun c1 => absurd c1 (not_not_intro w1))
    exact wp_iconst (v := nI 0) dX3_hasLine_16 rfl (wb_ret dX3_hasLine_17 rfl rfl ⟨rfl, rfl⟩)
  rcases Decidable.em (lv < nI L.length) with w2 | w2
  · have e : xlnok lv L.length = true := decide_eq_true ⟨w1, w2⟩
    rw [e]
    refine xcall_intro (ls := [.ref a, .int lv]) q_X3_hasLine (by decide) rfl (Nat.le_of_ble_eq_true rfl) rfl ?_
    refine wp_iload_n dX3_hasLine_0 rfl ?_
    refine wp_if_lt dX3_hasLine_1 rfl (fun c1 => absurd c1 w1) (fun c1 => ?_)
    refine wp_iload_n dX3_hasLine_4 rfl (wp_aload_n dX3_hasLine_5 rfl rfl (gv3_39 dX3_hasLine_6 ha v5 ?_))
    refine wp_icmp_ge dX3_hasLine_9 rfl (fun c9 => absurd c9 (Int32.not_le.mpr w2)) (fun c9 => ?_)
    exact wp_iconst (v := nI 1) dX3_hasLine_12 rfl (wp_goto dX3_hasLine_13 rfl (wb_ret dX3_hasLine_17 rfl rfl ⟨rfl, rfl⟩))
  · have e : xlnok lv L.length = false := decide_eq_false (fun w => w2 w.2)
    rw [e]
    refine xcall_intro (ls := [.ref a, .int lv]) q_X3_hasLine (by decide) rfl (Nat.le_of_ble_eq_true rfl) rfl ?_
    refine wp_iload_n dX3_hasLine_0 rfl ?_
    refine wp_if_lt dX3_hasLine_1 rfl (fun c1 => absurd c1 w1) (fun c1 => ?_)
    refine wp_iload_n dX3_hasLine_4 rfl (wp_aload_n dX3_hasLine_5 rfl rfl (gv3_39 dX3_hasLine_6 ha v5 ?_))
    refine wp_icmp_ge dX3_hasLine_9 rfl (fun c9 => ?_) (fun c9 => absurd c9 (not_not_intro (Int32.not_lt.mp w2)))
    exact wp_iconst (v := nI 0) dX3_hasLine_16 rfl (wb_ret dX3_hasLine_17 rfl rfl ⟨rfl, rfl⟩)
theorem c_feet_no {sv lv : Int32} (d : Nat) {S : xS} (hX : XC S) (gn : xcall false (d + 2) j_X11_rhymeIn [.ref 0, .int sv] S (some .null) S) : xcall false (d + 3) j_X11_feet [.ref 0, .int sv, .int lv] S (some (.int (-1))) S := by
  refine xcall_intro (ls := [.ref 0, .int sv, .int lv, .float 0]) q_X11_feet (by decide) rfl (Nat.le_of_ble_eq_true rfl) rfl ?_
  exact wp_aload_n dX11_feet_0 rfl rfl (wp_iload_n dX11_feet_1 rfl (wp_iv2 dX11_feet_2 k10_155 q_X11_rhymeIn (by decide) (xsh hX sh_0) (by decide) (Nat.le_of_ble_eq_true rfl) gn (wp_astore_n dX11_feet_5 rfl ⟨Nat.le_of_ble_eq_true rfl, Or.inr rfl⟩ rfl (wp_aload_n dX11_feet_6 rfl rfl (wp_ifnull_N dX11_feet_7 rfl (wp_iconst (v := -1) dX11_feet_18 rfl (wp_ireturn dX11_feet_19 rfl rfl ⟨rfl, rfl⟩)))))))
theorem c_feet_bad {sv lv : Int32} {b n : Nat} {t : Nat → Nat} {L : List xLn} (d : Nat) (hob : xRo b) {S : xS} (hX : XC S) (gn : xcall false (d + 2) j_X11_rhymeIn [.ref 0, .int sv] S (some (.ref b)) S) (hV : xRV b S n t L) (hl : xlnok lv L.length = false) : xcall false (d + 3) j_X11_feet [.ref 0, .int sv, .int lv] S (some (.int (-1))) S := by
  have hb := (hob.sh hX).1
  have gl := c_hasLine (lv := lv) (d + 2) hob hX hV
  rw [hl] at gl
  refine xcall_intro (ls := [.ref 0, .int sv, .int lv, .float 0]) q_X11_feet (by decide) rfl (Nat.le_of_ble_eq_true rfl) rfl ?_
  refine wp_aload_n dX11_feet_0 rfl rfl (wp_iload_n dX11_feet_1 rfl (wp_iv2 dX11_feet_2 k10_155 q_X11_rhymeIn (by decide) (xsh hX sh_0) (by decide) (Nat.le_of_ble_eq_true rfl) gn (wp_astore_n dX11_feet_5 rfl ⟨Nat.le_of_ble_eq_true rfl, Or.inr rfl⟩ rfl (wp_aload_n dX11_feet_6 rfl rfl (wp_ifnull_R dX11_feet_7 rfl (wp_aload_n dX11_feet_10 rfl rfl (wp_iload_n dX11_feet_11 rfl (wp_iv2 dX11_feet_12 k10_181 q_X3_hasLine (by decide) hb (by decide) (Nat.le_of_ble_eq_true rfl) gl ?_))))))))
  refine wb_if_ne dX11_feet_15 rfl (fun c15 => absurd c15 (by decide)) (fun c15 => ?_)
  exact wp_iconst (v := -1) dX11_feet_18 rfl (wp_ireturn dX11_feet_19 rfl rfl ⟨rfl, rfl⟩)
theorem c_feet {sv : Int32} {b n l ta tb tc : Nat} {t : Nat → Nat} {L : List xLn} {v : xTg} (d : Nat) (hob : xRo b) (htg : xTgC ta tb tc) {S : xS} (hX : XC S) (gn : xcall false (d + 2) j_X11_rhymeIn [.ref 0, .int sv] S (some (.ref b)) S) (hV : xRV b S n t L) (hB : xRB b S v t L) (hrt : S.2.2.1 0 2 = some ta) (hT : xTgV ta tb tc S v) (hl : l < L.length) : ∃ S', xcall false (d + 3) j_X11_feet [.ref 0, .int sv, .int (nI l)] S (some (.int (nI (xfeet v t (L.getD l (0, 0, []))).length))) S' ∧ xFl (fun i k => i = 72 ∨ (i = 0 ∧ k = 13)) S S' ∧ S'.2.1 0 13 = nI (xfeet v t (L.getD l (0, 0, []))).length ∧ xrow S' 72 (xfeet v t (L.getD l (0, 0, []))) := by
  have hb := (hob.sh hX).1
  have gl := c_hasLine (lv := nI l) (d + 2) hob hX hV
  have hL16 := hV.2.2.2.2.2.2.2.2.1
  have e1 : xlnok (nI l) L.length = true := decide_eq_true ⟨nI_pos (by omega), (nI_ltI (by omega) (by omega)).mpr hl⟩
  rw [e1] at gl
  obtain ⟨S2, g2, f2, r2⟩ := c_feetInto (r := 72) d hob htg (Or.inl rfl) hl hX hV hB hT
  have X2 := f2.XC hX
  have F3 : xFl (fun i k => i = 0 ∧ k = 13) S2 (xSI S2 0 13 (nI (xfeet v t (L.getD l (0, 0, []))).length)) := (xFl.rf S2).SI ⟨rfl, rfl⟩
  have k13 : (xSI S2 0 13 (nI (xfeet v t (L.getD l (0, 0, []))).length)).2.1 0 13 = nI (xfeet v t (L.getD l (0, 0, []))).length := xI_same _ _ _ _
  refine ⟨xSI S2 0 13 (nI (xfeet v t (L.getD l (0, 0, []))).length), ?_, (f2.mono (fun i k h => Or.inl h)).SI (Or.inr ⟨rfl, rfl⟩), k13, fun k hk => F3.i (r2 k hk) (by omega)⟩
  refine xcall_intro (ls := [.ref 0, .int sv, .int (nI l), .float 0]) q_X11_feet (by decide) rfl (Nat.le_of_ble_eq_true rfl) rfl ?_
  refine wp_aload_n dX11_feet_0 rfl rfl (wp_iload_n dX11_feet_1 rfl (wp_iv2 dX11_feet_2 k10_155 q_X11_rhymeIn (by decide) (xsh hX sh_0) (by decide) (Nat.le_of_ble_eq_true rfl) gn (wp_astore_n dX11_feet_5 rfl ⟨Nat.le_of_ble_eq_true rfl, Or.inr rfl⟩ rfl (wp_aload_n dX11_feet_6 rfl rfl (wp_ifnull_R dX11_feet_7 rfl (wp_aload_n dX11_feet_10 rfl rfl (wp_iload_n dX11_feet_11 rfl (wp_iv2 dX11_feet_12 k10_181 q_X3_hasLine (by decide) hb (by decide) (Nat.le_of_ble_eq_true rfl) gl ?_))))))))
  refine wb_if_ne dX11_feet_15 rfl (fun c15 => ?_) (fun c15 => absurd c15 (by decide))
  exact wp_aload_n dX11_feet_20 rfl rfl (wp_aload_n dX11_feet_21 rfl rfl (wp_iload_n dX11_feet_22 rfl (wp_aload_n dX11_feet_23 rfl rfl (g10_26 dX11_feet_24 (xsh hX sh_0) hrt (wp_aload_n dX11_feet_27 rfl rfl (g10_67 dX11_feet_28 (xsh hX sh_0) (xrr hX r0_12) (wp_iv4 dX11_feet_31 k10_184 q_X3_feetInto (by decide) hb (by decide) (Nat.le_of_ble_eq_true rfl) g2 (p10_188 dX11_feet_34 (xsh X2 sh_0) (wp_aload_n dX11_feet_37 rfl rfl (gv10_188 dX11_feet_38 (xsh X2 sh_0) (xI_same _ _ _ _) (wp_ireturn dX11_feet_41 rfl rfl ⟨rfl, rfl⟩)))))))))))
theorem m_feet_no {sv lv : Int32} (d : Nat) {S : xS} (hX : XC S) (gn : xcall false (d + 3) j_X12_has [.ref 187, .int sv] (xSI S 187 0 (nI 0)) (some (.int (xB false))) (xSI S 187 0 (nI 0))) : xcall false (d + 4) j_X12_feet [.ref 187, .int sv, .int lv] S (some (.int (-1))) (xSI S 187 0 (nI 0)) := by
  refine xcall_intro (ls := [.ref 187, .int sv, .int lv]) q_X12_feet (by decide) rfl (Nat.le_of_ble_eq_true rfl) rfl ?_
  refine wp_aload_n dX12_feet_0 rfl rfl (wp_iconst (v := nI 0) dX12_feet_1 rfl (p11_1 dX12_feet_2 (xsh hX sh_187) (wp_aload_n dX12_feet_5 rfl rfl (wp_iload_n dX12_feet_6 rfl (wp_iv2 dX12_feet_7 k11_231 q_X12_has (by decide) (xsh hX sh_187) (by decide) (Nat.le_of_ble_eq_true rfl) gn ?_)))))
  refine wb_if_eq dX12_feet_10 rfl (fun c10 => ?_) (fun c10 => absurd c10 (by decide))
  exact wp_iconst (v := -1) dX12_feet_27 rfl (wp_ireturn dX12_feet_28 rfl rfl ⟨rfl, rfl⟩)
theorem m_feet_bad {s q : Nat} {lv : Int32} (d : Nat) (hs6 : s < 6) {S : xS} (hX : XC S) (h203 : S.2.1 203 s = nI q) (gn : xcall false (d + 3) j_X12_has [.ref 187, .int (nI s)] (xSI S 187 0 (nI 0)) (some (.int (xB true))) (xSI S 187 0 (nI 0))) (hl : xlnok lv q = false) : xcall false (d + 4) j_X12_feet [.ref 187, .int (nI s), .int lv] S (some (.int (-1))) (xSI S 187 0 (nI 0)) := by
  have h2 : (xSI S 187 0 (nI 0)).2.1 203 s = nI q := xi h203 (Or.inl (by decide))
  rcases Decidable.em (lv < 0) with w1 | w1
  · refine xcall_intro (ls := [.ref 187, .int (nI s), .int lv]) q_X12_feet (by decide) rfl (Nat.le_of_ble_eq_true rfl) rfl ?_
    refine wp_aload_n dX12_feet_0 rfl rfl (wp_iconst (v := nI 0) dX12_feet_1 rfl (p11_1 dX12_feet_2 (xsh hX sh_187) (wp_aload_n dX12_feet_5 rfl rfl (wp_iload_n dX12_feet_6 rfl (wp_iv2 dX12_feet_7 k11_231 q_X12_has (by decide) (xsh hX sh_187) (by decide) (Nat.le_of_ble_eq_true rfl) gn ?_)))))
    refine wb_if_eq dX12_feet_10 rfl (fun c10 => absurd c10 (by decide)) (fun c10 => ?_)
    refine wp_iload_n dX12_feet_13 rfl ?_
    refine wp_if_lt dX12_feet_14 rfl (fun c14 => ?_) (fun c14 => absurd c14 (not_not_intro w1))
    exact wp_iconst (v := -1) dX12_feet_27 rfl (wp_ireturn dX12_feet_28 rfl rfl ⟨rfl, rfl⟩)
  have w2 : ¬ lv < nI q := fun w => absurd ⟨w1, w⟩ (of_decide_eq_false hl)
  refine xcall_intro (ls := [.ref 187, .int (nI s), .int lv]) q_X12_feet (by decide) rfl (Nat.le_of_ble_eq_true rfl) rfl ?_
  refine wp_aload_n dX12_feet_0 rfl rfl (wp_iconst (v := nI 0) dX12_feet_1 rfl (p11_1 dX12_feet_2 (xsh hX sh_187) (wp_aload_n dX12_feet_5 rfl rfl (wp_iload_n dX12_feet_6 rfl (wp_iv2 dX12_feet_7 k11_231 q_X12_has (by decide) (xsh hX sh_187) (by decide) (Nat.le_of_ble_eq_true rfl) gn ?_)))))
  refine wb_if_eq dX12_feet_10 rfl (fun c10 => absurd c10 (by decide)) (fun c10 => ?_)
  refine wp_iload_n dX12_feet_13 rfl ?_
  refine wp_if_lt dX12_feet_14 rfl (fun c14 => absurd c14 w1) (fun c14 => ?_)
  refine wp_iload_n dX12_feet_17 rfl (wp_aload_n dX12_feet_18 rfl rfl (g11_222 dX12_feet_19 (xsh hX sh_187) (xrr hX r187_37) (wp_iload_n dX12_feet_22 rfl (wn_iaload dX12_feet_23 (xsh hX sh_203) rfl (by omega) (by decide) h2 ?_))))
  refine wp_icmp_lt dX12_feet_24 rfl (fun c24 => absurd c24 w2) (fun c24 => ?_)
  exact wp_iconst (v := -1) dX12_feet_27 rfl (wp_ireturn dX12_feet_28 rfl rfl ⟨rfl, rfl⟩)
theorem m_feet {n s l : Nat} {t : Nat → Nat} {L : List xLn} {v : xTg} (d : Nat) (hs6 : s < 6) (hok : xRok t n L) (hn : n ≤ 240) (hlen : (L.flatMap xmit).length ≤ 121) (hl : l < L.length) (hl16 : L.length ≤ 16) {S : xS} (hX : XC S) (hM : xRM s S n t L) (hT : xTgM S v) (gn : xcall false (d + 3) j_X12_has [.ref 187, .int (nI s)] (xSI S 187 0 (nI 0)) (some (.int (xB true))) (xSI S 187 0 (nI 0))) : ∃ S', xcall false (d + 4) j_X12_feet [.ref 187, .int (nI s), .int (nI l)] S (some (.int (nI (xfeet v t (L.getD l (0, 0, []))).length))) S' ∧ xFl (fun i k => i = 205 ∨ (i = 187 ∧ (k = 0 ∨ k = 43))) S S' ∧ S'.2.1 187 43 = nI (xfeet v t (L.getD l (0, 0, []))).length ∧ xrow S' 205 (xfeet v t (L.getD l (0, 0, []))) := by
  have F1 : xFl (fun i k => i = 187 ∧ k = 0) S (xSI S 187 0 (nI 0)) := (xFl.rf S).SI ⟨rfl, rfl⟩
  have h2 : (xSI S 187 0 (nI 0)).2.1 203 s = nI L.length := F1.i hM.2.2.2.2 (by omega)
  obtain ⟨S2, g2, f2, r2⟩ := m_feetOf (r := 205) (S := xSI S 187 0 (nI 0)) (d + 0) (Or.inl rfl) hs6 hok hn hlen hl hl16 hX (hM.fr F1 (fun i k h => by omega)) (hT.fr F1 (fun k h => by omega) (fun a k h => by omega))
  have X2 := f2.XC hX
  have F3 : xFl (fun i k => i = 187 ∧ k = 43) S2 (xSI S2 187 43 (nI (xfeet v t (L.getD l (0, 0, []))).length)) := (xFl.rf S2).SI ⟨rfl, rfl⟩
  have k43 : (xSI S2 187 43 (nI (xfeet v t (L.getD l (0, 0, []))).length)).2.1 187 43 = nI (xfeet v t (L.getD l (0, 0, []))).length := xI_same _ _ _ _
  refine ⟨xSI S2 187 43 (nI (xfeet v t (L.getD l (0, 0, []))).length), ?_, ((F1.mono (fun i k h => Or.inr ⟨h.1, Or.inl h.2⟩)).tt (f2.mono (fun i k h => Or.inl h))).SI (Or.inr ⟨rfl, Or.inr rfl⟩), k43, fun k hk => F3.i (r2 k hk) (by omega)⟩
  refine xcall_intro (ls := [.ref 187, .int (nI s), .int (nI l)]) q_X12_feet (by decide) rfl (Nat.le_of_ble_eq_true rfl) rfl ?_
  refine wp_aload_n dX12_feet_0 rfl rfl (wp_iconst (v := nI 0) dX12_feet_1 rfl (p11_1 dX12_feet_2 (xsh hX sh_187) (wp_aload_n dX12_feet_5 rfl rfl (wp_iload_n dX12_feet_6 rfl (wp_iv2 dX12_feet_7 k11_231 q_X12_has (by decide) (xsh hX sh_187) (by decide) (Nat.le_of_ble_eq_true rfl) gn ?_)))))
  refine wb_if_eq dX12_feet_10 rfl (fun c10 => absurd c10 (by decide)) (fun c10 => ?_)
  refine wp_iload_n dX12_feet_13 rfl ?_
  refine wn_if_lt dX12_feet_14 rfl (by omega) ?_
  refine wp_iload_n dX12_feet_17 rfl (wp_aload_n dX12_feet_18 rfl rfl (g11_222 dX12_feet_19 (xsh hX sh_187) (xrr hX r187_37) (wp_iload_n dX12_feet_22 rfl (wn_iaload dX12_feet_23 (xsh hX sh_203) rfl (by omega) (by decide) h2 ?_))))
  refine wn_icmp_lt dX12_feet_24 rfl (by omega) (by omega) (fun c24 => ?_) (fun c24 => absurd c24 (by omega))
  exact wp_aload_n dX12_feet_29 rfl rfl (wp_aload_n dX12_feet_30 rfl rfl (wp_iload_n dX12_feet_31 rfl (wp_iload_n dX12_feet_32 rfl (wp_aload_n dX12_feet_33 rfl rfl (g11_241 dX12_feet_34 (xsh hX sh_187) (xrr hX r187_41) (wp_iv4 dX12_feet_37 k11_244 q_X12_feetOf (by decide) (xsh hX sh_187) (by decide) (Nat.le_of_ble_eq_true rfl) g2 (p11_248 dX12_feet_40 (xsh X2 sh_187) (wp_aload_n dX12_feet_43 rfl rfl (gv11_248 dX12_feet_44 (xsh X2 sh_187) (xI_same _ _ _ _) (wp_ireturn dX12_feet_47 rfl rfl ⟨rfl, rfl⟩))))))))))
