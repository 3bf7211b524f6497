/-! THE YARD of the reference: the rules -/
/-- the reference's number of a rule -/
def xym (r : Nat) : Nat := if r = 6 then 7 else if r = 7 then 6 else r
theorem xwh_flip {t : Nat → Nat} {n p : Nat} {a b : List Nat} (hab : a ≠ b) : xwh t n p [a, b] 0 = (match xwh t n p [b, a] 0 with
    | none => none
    | some k => some (1 - k)) := by
  simp only [xwh]
  cases ha : xiw a n t p with
  | true =>
    rw [xiw_uni ha hab]
    simp
  | false =>
    cases hb : xiw b n t p with
    | true => simp
    | false => simp
theorem m_yr_none {n p sm : Nat} {t : Nat → Nat} (d : Nat) {S : xS} (hX : XC S) (hT : xTxM S n t) (hM : xTM S n t p) (hs : S.2.1 187 20 = nI sm) (hs2 : sm < 2 ^ 31) (n_count : xiw xw_count n t p = false) (n_by : xiw xw_by n t p = false) (n_hit : xiw xw_hit n t p = false) (n_then : xiw xw_then n t p = false) (n_turn : xiw xw_turn n t p = false) (n_aim : xiw xw_aim n t p = false) (n_left : xiw xw_left n t p = false) (n_rhymes : xiw xw_rhymes n t p = false) : ∃ S', xcall false (d + 4) j_X12_yardRule [.ref 187] S (some (.int (xB false))) S' ∧ xFl xFY S S' ∧ S'.2.1 187 9 = nI (xfh t n p).1 ∧ S'.2.1 187 10 = nI (xfh t n p).2 := by
  have hM0 := hM
  obtain ⟨hp, h6, h4, h5, hr⟩ := hM
  have b4 := xtk_b t n p
  have hab := xta_b t hp
  have hle := hT.2.1
  refine ⟨_, ?_, ((xFl.rf S).SI (a := 187) (k := 9) (Or.inl ⟨rfl, by omega⟩)).SI (a := 187) (k := 10) (Or.inl ⟨rfl, by omega⟩), xi (xI_same _ _ _ _) (Or.inr (by decide)), xI_same _ _ _ _⟩
  refine xcall_intro (ls := [.ref 187]) q_X12_yardRule (by decide) rfl (Nat.le_of_ble_eq_true rfl) rfl ?_
  refine wp_aload_n dX12_yardRule_0 rfl rfl (wp_ldc2 (v := lN 427071729268) dX12_yardRule_1 k11_281 rfl (wp_iv2 dX12_yardRule_4 k11_124 q_X12_isWord (by decide) (xsh hX sh_187) (by decide) (Nat.le_of_ble_eq_true rfl) (m_isWord (d + 3) hX hT hM0 (r := xw_count) (W := 427071729268) ⟨by decide, by decide, by decide, by decide⟩ (by decide)) ?_))
  refine wb_if_eq dX12_yardRule_7 rfl (fun c7 => ?_) (fun c7 => absurd c7 (by rw [n_count]; decide))
  refine wp_aload_n dX12_yardRule_23 rfl rfl (wp_ldc2 (v := lN 25209) dX12_yardRule_24 k11_291 rfl (wp_iv2 dX12_yardRule_27 k11_124 q_X12_isWord (by decide) (xsh hX sh_187) (by decide) (Nat.le_of_ble_eq_true rfl) (m_isWord (d + 3) hX hT hM0 (r := xw_by) (W := 25209) ⟨by decide, by decide, by decide, by decide⟩ (by decide)) ?_))
  refine wb_if_eq dX12_yardRule_30 rfl (fun c30 => ?_) (fun c30 => absurd c30 (by rw [n_by]; decide))
  refine wp_aload_n dX12_yardRule_46 rfl rfl (wp_ldc2 (v := lN 6842740) dX12_yardRule_47 k11_297 rfl (wp_iv2 dX12_yardRule_50 k11_124 q_X12_isWord (by decide) (xsh hX sh_187) (by decide) (Nat.le_of_ble_eq_true rfl) (m_isWord (d + 3) hX hT hM0 (r := xw_hit) (W := 6842740) ⟨by decide, by decide, by decide, by decide⟩ (by decide)) ?_))
  refine wb_if_eq dX12_yardRule_53 rfl (fun c53 => ?_) (fun c53 => absurd c53 (by rw [n_hit]; decide))
  refine wp_aload_n dX12_yardRule_69 rfl rfl (wp_ldc2 (v := lN 1952998766) dX12_yardRule_70 k11_303 rfl (wp_iv2 dX12_yardRule_73 k11_124 q_X12_isWord (by decide) (xsh hX sh_187) (by decide) (Nat.le_of_ble_eq_true rfl) (m_isWord (d + 3) hX hT hM0 (r := xw_then) (W := 1952998766) ⟨by decide, by decide, by decide, by decide⟩ (by decide)) ?_))
  refine wb_if_eq dX12_yardRule_76 rfl (fun c76 => ?_) (fun c76 => absurd c76 (by rw [n_then]; decide))
  refine wp_aload_n dX12_yardRule_94 rfl rfl (wp_ldc2 (v := lN 1953854062) dX12_yardRule_95 k11_311 rfl (wp_iv2 dX12_yardRule_98 k11_124 q_X12_isWord (by decide) (xsh hX sh_187) (by decide) (Nat.le_of_ble_eq_true rfl) (m_isWord (d + 3) hX hT hM0 (r := xw_turn) (W := 1953854062) ⟨by decide, by decide, by decide, by decide⟩ (by decide)) ?_))
  refine wb_if_eq dX12_yardRule_101 rfl (fun c101 => ?_) (fun c101 => absurd c101 (by rw [n_turn]; decide))
  refine wp_aload_n dX12_yardRule_117 rfl rfl (wp_ldc2 (v := lN 6383981) dX12_yardRule_118 k11_317 rfl (wp_iv2 dX12_yardRule_121 k11_124 q_X12_isWord (by decide) (xsh hX sh_187) (by decide) (Nat.le_of_ble_eq_true rfl) (m_isWord (d + 3) hX hT hM0 (r := xw_aim) (W := 6383981) ⟨by decide, by decide, by decide, by decide⟩ (by decide)) ?_))
  refine wb_if_eq dX12_yardRule_124 rfl (fun c124 => ?_) (fun c124 => absurd c124 (by rw [n_aim]; decide))
  refine wp_aload_n dX12_yardRule_141 rfl rfl (wp_ldc2 (v := lN 1818584692) dX12_yardRule_142 k11_321 rfl (wp_iv2 dX12_yardRule_145 k11_124 q_X12_isWord (by decide) (xsh hX sh_187) (by decide) (Nat.le_of_ble_eq_true rfl) (m_isWord (d + 3) hX hT hM0 (r := xw_left) (W := 1818584692) ⟨by decide, by decide, by decide, by decide⟩ (by decide)) ?_))
  refine wb_if_eq dX12_yardRule_148 rfl (fun c148 => ?_) (fun c148 => absurd c148 (by rw [n_left]; decide))
  refine wp_aload_n dX12_yardRule_210 rfl rfl (wp_ldc2 (v := lN 125793039377779) dX12_yardRule_211 k11_323 rfl (wp_iv2 dX12_yardRule_214 k11_124 q_X12_isWord (by decide) (xsh hX sh_187) (by decide) (Nat.le_of_ble_eq_true rfl) (m_isWord (d + 3) hX hT hM0 (r := xw_rhymes) (W := 125793039377779) ⟨by decide, by decide, by decide, by decide⟩ (by decide)) ?_))
  refine wb_if_ne dX12_yardRule_217 rfl (fun c217 => absurd c217 (by rw [n_rhymes]; decide)) (fun c217 => ?_)
  exact wp_aload_n dX12_yardRule_220 rfl rfl (wp_iv1 dX12_yardRule_221 k11_61 q_X12_cant (by decide) (xsh hX sh_187) (by decide) (Nat.le_of_ble_eq_true rfl) (m_cant (d + 2) hX hT hM0) (wb_ret dX12_yardRule_224 rfl rfl ⟨rfl, rfl⟩))
theorem m_choice_two {n p sm rm : Nat} {t : Nat → Nat} {A B C : Int64} (d : Nat) {S : xS} (hX : XC S) (hT : xTxM S n t) (hM : xTM S n t p) (hs : S.2.1 187 20 = nI sm) (hs2 : sm < 2 ^ 31) (hrm : rm < 9) (hb : sm.testBit rm = true) : xcall false (d + 3) j_X12_choice [.ref 187, .int (nI rm), .long A, .long B, .long C] S (some (.int (xB false))) (xSI (xSI S 187 9 (nI 4)) 187 10 (nI (xts t n p))) := by
  have g := m_once_two d hX hT hM hs hs2 hrm hb
  refine xcall_intro (ls := [.ref 187, .int (nI rm), .long A, .float 0, .long B, .float 0, .long C, .float 0]) q_X12_choice (by decide) rfl (Nat.le_of_ble_eq_true rfl) rfl ?_
  refine wp_aload_n dX12_choice_0 rfl rfl (wp_iload_n dX12_choice_1 rfl (wp_iv2 dX12_choice_2 k11_128 q_X12_once (by decide) (xsh hX sh_187) (by decide) (Nat.le_of_ble_eq_true rfl) g ?_))
  refine wb_if_ne dX12_choice_5 rfl (fun c5 => absurd c5 (by decide)) (fun c5 => ?_)
  exact wp_iconst (v := nI 0) dX12_choice_8 rfl (wb_ret dX12_choice_9 rfl rfl ⟨rfl, rfl⟩)
theorem m_yr_two0 {n p sm : Nat} {t : Nat → Nat} (d : Nat) {S : xS} (hX : XC S) (hT : xTxM S n t) (hM : xTM S n t p) (hs : S.2.1 187 20 = nI sm) (hs2 : sm < 2 ^ 31) (h : xiw xw_count n t p = true) (hb : sm.testBit 0 = true) : ∃ S', xcall false (d + 4) j_X12_yardRule [.ref 187] S (some (.int (xB false))) S' ∧ xFl xFY S S' ∧ S'.2.1 187 9 = nI 4 ∧ S'.2.1 187 10 = nI (xts t n p) := by
  have hM0 := hM
  obtain ⟨hp, h6, h4, h5, hr⟩ := hM
  have b4 := xtk_b t n p
  have hab := xta_b t hp
  have hle := hT.2.1
  refine ⟨_, ?_, ((xFl.rf S).SI (a := 187) (k := 9) (Or.inl ⟨rfl, by omega⟩)).SI (a := 187) (k := 10) (Or.inl ⟨rfl, by omega⟩), xi (xI_same _ _ _ _) (Or.inr (by decide)), xI_same _ _ _ _⟩
  refine xcall_intro (ls := [.ref 187]) q_X12_yardRule (by decide) rfl (Nat.le_of_ble_eq_true rfl) rfl ?_
  refine wp_aload_n dX12_yardRule_0 rfl rfl (wp_ldc2 (v := lN 427071729268) dX12_yardRule_1 k11_281 rfl (wp_iv2 dX12_yardRule_4 k11_124 q_X12_isWord (by decide) (xsh hX sh_187) (by decide) (Nat.le_of_ble_eq_true rfl) (m_isWord (d + 3) hX hT hM0 (r := xw_count) (W := 427071729268) ⟨by decide, by decide, by decide, by decide⟩ (by decide)) ?_))
  refine wb_if_eq dX12_yardRule_7 rfl (fun c7 => absurd c7 (by rw [h]; decide)) (fun c7 => ?_)
  exact wp_aload_n dX12_yardRule_10 rfl rfl (wp_iconst (v := nI 0) dX12_yardRule_11 rfl (wp_ldc2 (v := lN 512970876019) dX12_yardRule_12 k11_283 rfl (wp_ldc2 (v := lN 422607680627) dX12_yardRule_15 k11_285 rfl (wp_lconst dX12_yardRule_18 rfl (wp_iv5 dX12_yardRule_19 k11_287 q_X12_choice (by decide) (xsh hX sh_187) (by decide) (Nat.le_of_ble_eq_true rfl) (m_choice_two d hX hT hM0 hs hs2 (by decide) hb) (wb_ret dX12_yardRule_22 rfl rfl ⟨rfl, rfl⟩))))))
theorem m_yr_two1 {n p sm : Nat} {t : Nat → Nat} (d : Nat) {S : xS} (hX : XC S) (hT : xTxM S n t) (hM : xTM S n t p) (hs : S.2.1 187 20 = nI sm) (hs2 : sm < 2 ^ 31) (h : xiw xw_by n t p = true) (hb : sm.testBit 1 = true) : ∃ S', xcall false (d + 4) j_X12_yardRule [.ref 187] S (some (.int (xB false))) S' ∧ xFl xFY S S' ∧ S'.2.1 187 9 = nI 4 ∧ S'.2.1 187 10 = nI (xts t n p) := by
  have hM0 := hM
  obtain ⟨hp, h6, h4, h5, hr⟩ := hM
  have b4 := xtk_b t n p
  have hab := xta_b t hp
  have hle := hT.2.1
  have n_count : xiw xw_count n t p = false := xiw_uni h (by decide)
  refine ⟨_, ?_, ((xFl.rf S).SI (a := 187) (k := 9) (Or.inl ⟨rfl, by omega⟩)).SI (a := 187) (k := 10) (Or.inl ⟨rfl, by omega⟩), xi (xI_same _ _ _ _) (Or.inr (by decide)), xI_same _ _ _ _⟩
  refine xcall_intro (ls := [.ref 187]) q_X12_yardRule (by decide) rfl (Nat.le_of_ble_eq_true rfl) rfl ?_
  refine wp_aload_n dX12_yardRule_0 rfl rfl (wp_ldc2 (v := lN 427071729268) dX12_yardRule_1 k11_281 rfl (wp_iv2 dX12_yardRule_4 k11_124 q_X12_isWord (by decide) (xsh hX sh_187) (by decide) (Nat.le_of_ble_eq_true rfl) (m_isWord (d + 3) hX hT hM0 (r := xw_count) (W := 427071729268) ⟨by decide, by decide, by decide, by decide⟩ (by decide)) ?_))
  refine wb_if_eq dX12_yardRule_7 rfl (fun c7 => ?_) (fun c7 => absurd c7 (by rw [n_count]; decide))
  refine wp_aload_n dX12_yardRule_23 rfl rfl (wp_ldc2 (v := lN 25209) dX12_yardRule_24 k11_291 rfl (wp_iv2 dX12_yardRule_27 k11_124 q_X12_isWord (by decide) (xsh hX sh_187) (by decide) (Nat.le_of_ble_eq_true rfl) (m_isWord (d + 3) hX hT hM0 (r := xw_by) (W := 25209) ⟨by decide, by decide, by decide, by decide⟩ (by decide)) ?_))
  refine wb_if_eq dX12_yardRule_30 rfl (fun c30 => absurd c30 (by rw [h]; decide)) (fun c30 => ?_)
  exact wp_aload_n dX12_yardRule_33 rfl rfl (wp_iconst (v := nI 1) dX12_yardRule_34 rfl (wp_ldc2 (v := lN 448377480307) dX12_yardRule_35 k11_293 rfl (wp_ldc2 (v := lN 439855838323) dX12_yardRule_38 k11_295 rfl (wp_lconst dX12_yardRule_41 rfl (wp_iv5 dX12_yardRule_42 k11_287 q_X12_choice (by decide) (xsh hX sh_187) (by decide) (Nat.le_of_ble_eq_true rfl) (m_choice_two d hX hT hM0 hs hs2 (by decide) hb) (wb_ret dX12_yardRule_45 rfl rfl ⟨rfl, rfl⟩))))))
theorem m_yr_two2 {n p sm : Nat} {t : Nat → Nat} (d : Nat) {S : xS} (hX : XC S) (hT : xTxM S n t) (hM : xTM S n t p) (hs : S.2.1 187 20 = nI sm) (hs2 : sm < 2 ^ 31) (h : xiw xw_hit n t p = true) (hb : sm.testBit 2 = true) : ∃ S', xcall false (d + 4) j_X12_yardRule [.ref 187] S (some (.int (xB false))) S' ∧ xFl xFY S S' ∧ S'.2.1 187 9 = nI 4 ∧ S'.2.1 187 10 = nI (xts t n p) := by
  have hM0 := hM
  obtain ⟨hp, h6, h4, h5, hr⟩ := hM
  have b4 := xtk_b t n p
  have hab := xta_b t hp
  have hle := hT.2.1
  have n_count : xiw xw_count n t p = false := xiw_uni h (by decide)
  have n_by : xiw xw_by n t p = false := xiw_uni h (by decide)
  refine ⟨_, ?_, ((xFl.rf S).SI (a := 187) (k := 9) (Or.inl ⟨rfl, by omega⟩)).SI (a := 187) (k := 10) (Or.inl ⟨rfl, by omega⟩), xi (xI_same _ _ _ _) (Or.inr (by decide)), xI_same _ _ _ _⟩
  refine xcall_intro (ls := [.ref 187]) q_X12_yardRule (by decide) rfl (Nat.le_of_ble_eq_true rfl) rfl ?_
  refine wp_aload_n dX12_yardRule_0 rfl rfl (wp_ldc2 (v := lN 427071729268) dX12_yardRule_1 k11_281 rfl (wp_iv2 dX12_yardRule_4 k11_124 q_X12_isWord (by decide) (xsh hX sh_187) (by decide) (Nat.le_of_ble_eq_true rfl) (m_isWord (d + 3) hX hT hM0 (r := xw_count) (W := 427071729268) ⟨by decide, by decide, by decide, by decide⟩ (by decide)) ?_))
  refine wb_if_eq dX12_yardRule_7 rfl (fun c7 => ?_) (fun c7 => absurd c7 (by rw [n_count]; decide))
  refine wp_aload_n dX12_yardRule_23 rfl rfl (wp_ldc2 (v := lN 25209) dX12_yardRule_24 k11_291 rfl (wp_iv2 dX12_yardRule_27 k11_124 q_X12_isWord (by decide) (xsh hX sh_187) (by decide) (Nat.le_of_ble_eq_true rfl) (m_isWord (d + 3) hX hT hM0 (r := xw_by) (W := 25209) ⟨by decide, by decide, by decide, by decide⟩ (by decide)) ?_))
  refine wb_if_eq dX12_yardRule_30 rfl (fun c30 => ?_) (fun c30 => absurd c30 (by rw [n_by]; decide))
  refine wp_aload_n dX12_yardRule_46 rfl rfl (wp_ldc2 (v := lN 6842740) dX12_yardRule_47 k11_297 rfl (wp_iv2 dX12_yardRule_50 k11_124 q_X12_isWord (by decide) (xsh hX sh_187) (by decide) (Nat.le_of_ble_eq_true rfl) (m_isWord (d + 3) hX hT hM0 (r := xw_hit) (W := 6842740) ⟨by decide, by decide, by decide, by decide⟩ (by decide)) ?_))
  refine wb_if_eq dX12_yardRule_53 rfl (fun c53 => absurd c53 (by rw [h]; decide)) (fun c53 => ?_)
  exact wp_aload_n dX12_yardRule_56 rfl rfl (wp_iconst (v := nI 2) dX12_yardRule_57 rfl (wp_ldc2 (v := lN 7304564) dX12_yardRule_58 k11_299 rfl (wp_ldc2 (v := lN 495873784179) dX12_yardRule_61 k11_301 rfl (wp_lconst dX12_yardRule_64 rfl (wp_iv5 dX12_yardRule_65 k11_287 q_X12_choice (by decide) (xsh hX sh_187) (by decide) (Nat.le_of_ble_eq_true rfl) (m_choice_two d hX hT hM0 hs hs2 (by decide) hb) (wb_ret dX12_yardRule_68 rfl rfl ⟨rfl, rfl⟩))))))
theorem m_yr_two3 {n p sm : Nat} {t : Nat → Nat} (d : Nat) {S : xS} (hX : XC S) (hT : xTxM S n t) (hM : xTM S n t p) (hs : S.2.1 187 20 = nI sm) (hs2 : sm < 2 ^ 31) (h : xiw xw_then n t p = true) (hb : sm.testBit 3 = true) : ∃ S', xcall false (d + 4) j_X12_yardRule [.ref 187] S (some (.int (xB false))) S' ∧ xFl xFY S S' ∧ S'.2.1 187 9 = nI 4 ∧ S'.2.1 187 10 = nI (xts t n p) := by
  have hM0 := hM
  obtain ⟨hp, h6, h4, h5, hr⟩ := hM
  have b4 := xtk_b t n p
  have hab := xta_b t hp
  have hle := hT.2.1
  have n_count : xiw xw_count n t p = false := xiw_uni h (by decide)
  have n_by : xiw xw_by n t p = false := xiw_uni h (by decide)
  have n_hit : xiw xw_hit n t p = false := xiw_uni h (by decide)
  refine ⟨_, ?_, ((xFl.rf S).SI (a := 187) (k := 9) (Or.inl ⟨rfl, by omega⟩)).SI (a := 187) (k := 10) (Or.inl ⟨rfl, by omega⟩), xi (xI_same _ _ _ _) (Or.inr (by decide)), xI_same _ _ _ _⟩
  refine xcall_intro (ls := [.ref 187]) q_X12_yardRule (by decide) rfl (Nat.le_of_ble_eq_true rfl) rfl ?_
  refine wp_aload_n dX12_yardRule_0 rfl rfl (wp_ldc2 (v := lN 427071729268) dX12_yardRule_1 k11_281 rfl (wp_iv2 dX12_yardRule_4 k11_124 q_X12_isWord (by decide) (xsh hX sh_187) (by decide) (Nat.le_of_ble_eq_true rfl) (m_isWord (d + 3) hX hT hM0 (r := xw_count) (W := 427071729268) ⟨by decide, by decide, by decide, by decide⟩ (by decide)) ?_))
  refine wb_if_eq dX12_yardRule_7 rfl (fun c7 => ?_) (fun c7 => absurd c7 (by rw [n_count]; decide))
  refine wp_aload_n dX12_yardRule_23 rfl rfl (wp_ldc2 (v := lN 25209) dX12_yardRule_24 k11_291 rfl (wp_iv2 dX12_yardRule_27 k11_124 q_X12_isWord (by decide) (xsh hX sh_187) (by decide) (Nat.le_of_ble_eq_true rfl) (m_isWord (d + 3) hX hT hM0 (r := xw_by) (W := 25209) ⟨by decide, by decide, by decide, by decide⟩ (by decide)) ?_))
  refine wb_if_eq dX12_yardRule_30 rfl (fun c30 => ?_) (fun c30 => absurd c30 (by rw [n_by]; decide))
  refine wp_aload_n dX12_yardRule_46 rfl rfl (wp_ldc2 (v := lN 6842740) dX12_yardRule_47 k11_297 rfl (wp_iv2 dX12_yardRule_50 k11_124 q_X12_isWord (by decide) (xsh hX sh_187) (by decide) (Nat.le_of_ble_eq_true rfl) (m_isWord (d + 3) hX hT hM0 (r := xw_hit) (W := 6842740) ⟨by decide, by decide, by decide, by decide⟩ (by decide)) ?_))
  refine wb_if_eq dX12_yardRule_53 rfl (fun c53 => ?_) (fun c53 => absurd c53 (by rw [n_hit]; decide))
  refine wp_aload_n dX12_yardRule_69 rfl rfl (wp_ldc2 (v := lN 1952998766) dX12_yardRule_70 k11_303 rfl (wp_iv2 dX12_yardRule_73 k11_124 q_X12_isWord (by decide) (xsh hX sh_187) (by decide) (Nat.le_of_ble_eq_true rfl) (m_isWord (d + 3) hX hT hM0 (r := xw_then) (W := 1952998766) ⟨by decide, by decide, by decide, by decide⟩ (by decide)) ?_))
  refine wb_if_eq dX12_yardRule_76 rfl (fun c76 => absurd c76 (by rw [h]; decide)) (fun c76 => ?_)
  exact wp_aload_n dX12_yardRule_79 rfl rfl (wp_iconst (v := nI 3) dX12_yardRule_80 rfl (wp_ldc2 (v := lN 1852143732) dX12_yardRule_81 k11_305 rfl (wp_ldc2 (v := lN 1935764837) dX12_yardRule_84 k11_307 rfl (wp_ldc2 (v := lN 109270082020722) dX12_yardRule_87 k11_309 rfl (wp_iv5 dX12_yardRule_90 k11_287 q_X12_choice (by decide) (xsh hX sh_187) (by decide) (Nat.le_of_ble_eq_true rfl) (m_choice_two d hX hT hM0 hs hs2 (by decide) hb) (wb_ret dX12_yardRule_93 rfl rfl ⟨rfl, rfl⟩))))))
theorem m_yr_two4 {n p sm : Nat} {t : Nat → Nat} (d : Nat) {S : xS} (hX : XC S) (hT : xTxM S n t) (hM : xTM S n t p) (hs : S.2.1 187 20 = nI sm) (hs2 : sm < 2 ^ 31) (h : xiw xw_turn n t p = true) (hb : sm.testBit 4 = true) : ∃ S', xcall false (d + 4) j_X12_yardRule [.ref 187] S (some (.int (xB false))) S' ∧ xFl xFY S S' ∧ S'.2.1 187 9 = nI 4 ∧ S'.2.1 187 10 = nI (xts t n p) := by
  have hM0 := hM
  obtain ⟨hp, h6, h4, h5, hr⟩ := hM
  have b4 := xtk_b t n p
  have hab := xta_b t hp
  have hle := hT.2.1
  have n_count : xiw xw_count n t p = false := xiw_uni h (by decide)
  have n_by : xiw xw_by n t p = false := xiw_uni h (by decide)
  have n_hit : xiw xw_hit n t p = false := xiw_uni h (by decide)
  have n_then : xiw xw_then n t p = false := xiw_uni h (by decide)
  refine ⟨_, ?_, ((xFl.rf S).SI (a := 187) (k := 9) (Or.inl ⟨rfl, by omega⟩)).SI (a := 187) (k := 10) (Or.inl ⟨rfl, by omega⟩), xi (xI_same _ _ _ _) (Or.inr (by decide)), xI_same _ _ _ _⟩
  refine xcall_intro (ls := [.ref 187]) q_X12_yardRule (by decide) rfl (Nat.le_of_ble_eq_true rfl) rfl ?_
  refine wp_aload_n dX12_yardRule_0 rfl rfl (wp_ldc2 (v := lN 427071729268) dX12_yardRule_1 k11_281 rfl (wp_iv2 dX12_yardRule_4 k11_124 q_X12_isWord (by decide) (xsh hX sh_187) (by decide) (Nat.le_of_ble_eq_true rfl) (m_isWord (d + 3) hX hT hM0 (r := xw_count) (W := 427071729268) ⟨by decide, by decide, by decide, by decide⟩ (by decide)) ?_))
  refine wb_if_eq dX12_yardRule_7 rfl (fun c7 => ?_) (fun c7 => absurd c7 (by rw [n_count]; decide))
  refine wp_aload_n dX12_yardRule_23 rfl rfl (wp_ldc2 (v := lN 25209) dX12_yardRule_24 k11_291 rfl (wp_iv2 dX12_yardRule_27 k11_124 q_X12_isWord (by decide) (xsh hX sh_187) (by decide) (Nat.le_of_ble_eq_true rfl) (m_isWord (d + 3) hX hT hM0 (r := xw_by) (W := 25209) ⟨by decide, by decide, by decide, by decide⟩ (by decide)) ?_))
  refine wb_if_eq dX12_yardRule_30 rfl (fun c30 => ?_) (fun c30 => absurd c30 (by rw [n_by]; decide))
  refine wp_aload_n dX12_yardRule_46 rfl rfl (wp_ldc2 (v := lN 6842740) dX12_yardRule_47 k11_297 rfl (wp_iv2 dX12_yardRule_50 k11_124 q_X12_isWord (by decide) (xsh hX sh_187) (by decide) (Nat.le_of_ble_eq_true rfl) (m_isWord (d + 3) hX hT hM0 (r := xw_hit) (W := 6842740) ⟨by decide, by decide, by decide, by decide⟩ (by decide)) ?_))
  refine wb_if_eq dX12_yardRule_53 rfl (fun c53 => ?_) (fun c53 => absurd c53 (by rw [n_hit]; decide))
  refine wp_aload_n dX12_yardRule_69 rfl rfl (wp_ldc2 (v := lN 1952998766) dX12_yardRule_70 k11_303 rfl (wp_iv2 dX12_yardRule_73 k11_124 q_X12_isWord (by decide) (xsh hX sh_187) (by decide) (Nat.le_of_ble_eq_true rfl) (m_isWord (d + 3) hX hT hM0 (r := xw_then) (W := 1952998766) ⟨by decide, by decide, by decide, by decide⟩ (by decide)) ?_))
  refine wb_if_eq dX12_yardRule_76 rfl (fun c76 => ?_) (fun c76 => absurd c76 (by rw [n_then]; decide))
  refine wp_aload_n dX12_yardRule_94 rfl rfl (wp_ldc2 (v := lN 1953854062) dX12_yardRule_95 k11_311 rfl (wp_iv2 dX12_yardRule_98 k11_124 q_X12_isWord (by decide) (xsh hX sh_187) (by decide) (Nat.le_of_ble_eq_true rfl) (m_isWord (d + 3) hX hT hM0 (r := xw_turn) (W := 1953854062) ⟨by decide, by decide, by decide, by decide⟩ (by decide)) ?_))
  refine wb_if_eq dX12_yardRule_101 rfl (fun c101 => absurd c101 (by rw [h]; decide)) (fun c101 => ?_)
  exact wp_aload_n dX12_yardRule_104 rfl rfl (wp_iconst (v := nI 4) dX12_yardRule_105 rfl (wp_ldc2 (v := lN 474148660594) dX12_yardRule_106 k11_313 rfl (wp_ldc2 (v := lN 107118487239027) dX12_yardRule_109 k11_315 rfl (wp_lconst dX12_yardRule_112 rfl (wp_iv5 dX12_yardRule_113 k11_287 q_X12_choice (by decide) (xsh hX sh_187) (by decide) (Nat.le_of_ble_eq_true rfl) (m_choice_two d hX hT hM0 hs hs2 (by decide) hb) (wb_ret dX12_yardRule_116 rfl rfl ⟨rfl, rfl⟩))))))
theorem m_yr_two7 {n p sm : Nat} {t : Nat → Nat} (d : Nat) {S : xS} (hX : XC S) (hT : xTxM S n t) (hM : xTM S n t p) (hs : S.2.1 187 20 = nI sm) (hs2 : sm < 2 ^ 31) (h : xiw xw_aim n t p = true) (hb : sm.testBit 6 = true) : ∃ S', xcall false (d + 4) j_X12_yardRule [.ref 187] S (some (.int (xB false))) S' ∧ xFl xFY S S' ∧ S'.2.1 187 9 = nI 4 ∧ S'.2.1 187 10 = nI (xts t n p) := by
  have hM0 := hM
  obtain ⟨hp, h6, h4, h5, hr⟩ := hM
  have b4 := xtk_b t n p
  have hab := xta_b t hp
  have hle := hT.2.1
  have n_count : xiw xw_count n t p = false := xiw_uni h (by decide)
  have n_by : xiw xw_by n t p = false := xiw_uni h (by decide)
  have n_hit : xiw xw_hit n t p = false := xiw_uni h (by decide)
  have n_then : xiw xw_then n t p = false := xiw_uni h (by decide)
  have n_turn : xiw xw_turn n t p = false := xiw_uni h (by decide)
  refine ⟨_, ?_, ((xFl.rf S).SI (a := 187) (k := 9) (Or.inl ⟨rfl, by omega⟩)).SI (a := 187) (k := 10) (Or.inl ⟨rfl, by omega⟩), xi (xI_same _ _ _ _) (Or.inr (by decide)), xI_same _ _ _ _⟩
  refine xcall_intro (ls := [.ref 187]) q_X12_yardRule (by decide) rfl (Nat.le_of_ble_eq_true rfl) rfl ?_
  refine wp_aload_n dX12_yardRule_0 rfl rfl (wp_ldc2 (v := lN 427071729268) dX12_yardRule_1 k11_281 rfl (wp_iv2 dX12_yardRule_4 k11_124 q_X12_isWord (by decide) (xsh hX sh_187) (by decide) (Nat.le_of_ble_eq_true rfl) (m_isWord (d + 3) hX hT hM0 (r := xw_count) (W := 427071729268) ⟨by decide, by decide, by decide, by decide⟩ (by decide)) ?_))
  refine wb_if_eq dX12_yardRule_7 rfl (fun c7 => ?_) (fun c7 => absurd c7 (by rw [n_count]; decide))
  refine wp_aload_n dX12_yardRule_23 rfl rfl (wp_ldc2 (v := lN 25209) dX12_yardRule_24 k11_291 rfl (wp_iv2 dX12_yardRule_27 k11_124 q_X12_isWord (by decide) (xsh hX sh_187) (by decide) (Nat.le_of_ble_eq_true rfl) (m_isWord (d + 3) hX hT hM0 (r := xw_by) (W := 25209) ⟨by decide, by decide, by decide, by decide⟩ (by decide)) ?_))
  refine wb_if_eq dX12_yardRule_30 rfl (fun c30 => ?_) (fun c30 => absurd c30 (by rw [n_by]; decide))
  refine wp_aload_n dX12_yardRule_46 rfl rfl (wp_ldc2 (v := lN 6842740) dX12_yardRule_47 k11_297 rfl (wp_iv2 dX12_yardRule_50 k11_124 q_X12_isWord (by decide) (xsh hX sh_187) (by decide) (Nat.le_of_ble_eq_true rfl) (m_isWord (d + 3) hX hT hM0 (r := xw_hit) (W := 6842740) ⟨by decide, by decide, by decide, by decide⟩ (by decide)) ?_))
  refine wb_if_eq dX12_yardRule_53 rfl (fun c53 => ?_) (fun c53 => absurd c53 (by rw [n_hit]; decide))
  refine wp_aload_n dX12_yardRule_69 rfl rfl (wp_ldc2 (v := lN 1952998766) dX12_yardRule_70 k11_303 rfl (wp_iv2 dX12_yardRule_73 k11_124 q_X12_isWord (by decide) (xsh hX sh_187) (by decide) (Nat.le_of_ble_eq_true rfl) (m_isWord (d + 3) hX hT hM0 (r := xw_then) (W := 1952998766) ⟨by decide, by decide, by decide, by decide⟩ (by decide)) ?_))
  refine wb_if_eq dX12_yardRule_76 rfl (fun c76 => ?_) (fun c76 => absurd c76 (by rw [n_then]; decide))
  refine wp_aload_n dX12_yardRule_94 rfl rfl (wp_ldc2 (v := lN 1953854062) dX12_yardRule_95 k11_311 rfl (wp_iv2 dX12_yardRule_98 k11_124 q_X12_isWord (by decide) (xsh hX sh_187) (by decide) (Nat.le_of_ble_eq_true rfl) (m_isWord (d + 3) hX hT hM0 (r := xw_turn) (W := 1953854062) ⟨by decide, by decide, by decide, by decide⟩ (by decide)) ?_))
  refine wb_if_eq dX12_yardRule_101 rfl (fun c101 => ?_) (fun c101 => absurd c101 (by rw [n_turn]; decide))
  refine wp_aload_n dX12_yardRule_117 rfl rfl (wp_ldc2 (v := lN 6383981) dX12_yardRule_118 k11_317 rfl (wp_iv2 dX12_yardRule_121 k11_124 q_X12_isWord (by decide) (xsh hX sh_187) (by decide) (Nat.le_of_ble_eq_true rfl) (m_isWord (d + 3) hX hT hM0 (r := xw_aim) (W := 6383981) ⟨by decide, by decide, by decide, by decide⟩ (by decide)) ?_))
  refine wb_if_eq dX12_yardRule_124 rfl (fun c124 => absurd c124 (by rw [h]; decide)) (fun c124 => ?_)
  exact wp_aload_n dX12_yardRule_127 rfl rfl (wp_bipush (v := nI 6) dX12_yardRule_128 rfl (wp_ldc2 (v := lN 1718773093) dX12_yardRule_130 k11_319 rfl (wp_ldc2 (v := lN 1818584692) dX12_yardRule_133 k11_321 rfl (wp_lconst dX12_yardRule_136 rfl (wp_iv5 dX12_yardRule_137 k11_287 q_X12_choice (by decide) (xsh hX sh_187) (by decide) (Nat.le_of_ble_eq_true rfl) (m_choice_two d hX hT hM0 hs hs2 (by decide) hb) (wb_ret dX12_yardRule_140 rfl rfl ⟨rfl, rfl⟩))))))
theorem m_yr_two5 {n p sm : Nat} {t : Nat → Nat} (d : Nat) {S : xS} (hX : XC S) (hT : xTxM S n t) (hM : xTM S n t p) (hs : S.2.1 187 20 = nI sm) (hs2 : sm < 2 ^ 31) (h : xiw xw_left n t p = true) (hb : sm.testBit 5 = true) : ∃ S', xcall false (d + 4) j_X12_yardRule [.ref 187] S (some (.int (xB false))) S' ∧ xFl xFY S S' ∧ S'.2.1 187 9 = nI 4 ∧ S'.2.1 187 10 = nI (xts t n p) := by
  have hM0 := hM
  obtain ⟨hp, h6, h4, h5, hr⟩ := hM
  have b4 := xtk_b t n p
  have hab := xta_b t hp
  have hle := hT.2.1
  have n_count : xiw xw_count n t p = false := xiw_uni h (by decide)
  have n_by : xiw xw_by n t p = false := xiw_uni h (by decide)
  have n_hit : xiw xw_hit n t p = false := xiw_uni h (by decide)
  have n_then : xiw xw_then n t p = false := xiw_uni h (by decide)
  have n_turn : xiw xw_turn n t p = false := xiw_uni h (by decide)
  have n_aim : xiw xw_aim n t p = false := xiw_uni h (by decide)
  refine ⟨_, ?_, ((xFl.rf S).SI (a := 187) (k := 9) (Or.inl ⟨rfl, by omega⟩)).SI (a := 187) (k := 10) (Or.inl ⟨rfl, by omega⟩), xi (xI_same _ _ _ _) (Or.inr (by decide)), xI_same _ _ _ _⟩
  refine xcall_intro (ls := [.ref 187]) q_X12_yardRule (by decide) rfl (Nat.le_of_ble_eq_true rfl) rfl ?_
  refine wp_aload_n dX12_yardRule_0 rfl rfl (wp_ldc2 (v := lN 427071729268) dX12_yardRule_1 k11_281 rfl (wp_iv2 dX12_yardRule_4 k11_124 q_X12_isWord (by decide) (xsh hX sh_187) (by decide) (Nat.le_of_ble_eq_true rfl) (m_isWord (d + 3) hX hT hM0 (r := xw_count) (W := 427071729268) ⟨by decide, by decide, by decide, by decide⟩ (by decide)) ?_))
  refine wb_if_eq dX12_yardRule_7 rfl (fun c7 => ?_) (fun c7 => absurd c7 (by rw [n_count]; decide))
  refine wp_aload_n dX12_yardRule_23 rfl rfl (wp_ldc2 (v := lN 25209) dX12_yardRule_24 k11_291 rfl (wp_iv2 dX12_yardRule_27 k11_124 q_X12_isWord (by decide) (xsh hX sh_187) (by decide) (Nat.le_of_ble_eq_true rfl) (m_isWord (d + 3) hX hT hM0 (r := xw_by) (W := 25209) ⟨by decide, by decide, by decide, by decide⟩ (by decide)) ?_))
  refine wb_if_eq dX12_yardRule_30 rfl (fun c30 => ?_) (fun c30 => absurd c30 (by rw [n_by]; decide))
  refine wp_aload_n dX12_yardRule_46 rfl rfl (wp_ldc2 (v := lN 6842740) dX12_yardRule_47 k11_297 rfl (wp_iv2 dX12_yardRule_50 k11_124 q_X12_isWord (by decide) (xsh hX sh_187) (by decide) (Nat.le_of_ble_eq_true rfl) (m_isWord (d + 3) hX hT hM0 (r := xw_hit) (W := 6842740) ⟨by decide, by decide, by decide, by decide⟩ (by decide)) ?_))
  refine wb_if_eq dX12_yardRule_53 rfl (fun c53 => ?_) (fun c53 => absurd c53 (by rw [n_hit]; decide))
  refine wp_aload_n dX12_yardRule_69 rfl rfl (wp_ldc2 (v := lN 1952998766) dX12_yardRule_70 k11_303 rfl (wp_iv2 dX12_yardRule_73 k11_124 q_X12_isWord (by decide) (xsh hX sh_187) (by decide) (Nat.le_of_ble_eq_true rfl) (m_isWord (d + 3) hX hT hM0 (r := xw_then) (W := 1952998766) ⟨by decide, by decide, by decide, by decide⟩ (by decide)) ?_))
  refine wb_if_eq dX12_yardRule_76 rfl (fun c76 => ?_) (fun c76 => absurd c76 (by rw [n_then]; decide))
  refine wp_aload_n dX12_yardRule_94 rfl rfl (wp_ldc2 (v := lN 1953854062) dX12_yardRule_95 k11_311 rfl (wp_iv2 dX12_yardRule_98 k11_124 q_X12_isWord (by decide) (xsh hX sh_187) (by decide) (Nat.le_of_ble_eq_true rfl) (m_isWord (d + 3) hX hT hM0 (r := xw_turn) (W := 1953854062) ⟨by decide, by decide, by decide, by decide⟩ (by decide)) ?_))
  refine wb_if_eq dX12_yardRule_101 rfl (fun c101 => ?_) (fun c101 => absurd c101 (by rw [n_turn]; decide))
  refine wp_aload_n dX12_yardRule_117 rfl rfl (wp_ldc2 (v := lN 6383981) dX12_yardRule_118 k11_317 rfl (wp_iv2 dX12_yardRule_121 k11_124 q_X12_isWord (by decide) (xsh hX sh_187) (by decide) (Nat.le_of_ble_eq_true rfl) (m_isWord (d + 3) hX hT hM0 (r := xw_aim) (W := 6383981) ⟨by decide, by decide, by decide, by decide⟩ (by decide)) ?_))
  refine wb_if_eq dX12_yardRule_124 rfl (fun c124 => ?_) (fun c124 => absurd c124 (by rw [n_aim]; decide))
  refine wp_aload_n dX12_yardRule_141 rfl rfl (wp_ldc2 (v := lN 1818584692) dX12_yardRule_142 k11_321 rfl (wp_iv2 dX12_yardRule_145 k11_124 q_X12_isWord (by decide) (xsh hX sh_187) (by decide) (Nat.le_of_ble_eq_true rfl) (m_isWord (d + 3) hX hT hM0 (r := xw_left) (W := 1818584692) ⟨by decide, by decide, by decide, by decide⟩ (by decide)) ?_))
  refine wb_if_eq dX12_yardRule_148 rfl (fun c148 => absurd c148 (by rw [h]; decide)) (fun c148 => ?_)
  refine wp_aload_n dX12_yardRule_151 rfl rfl (wp_iconst (v := nI 5) dX12_yardRule_152 rfl (wp_iv2 dX12_yardRule_153 k11_128 q_X12_once (by decide) (xsh hX sh_187) (by decide) (Nat.le_of_ble_eq_true rfl) (m_once_two (d + 1) hX hT hM0 hs hs2 (by decide) hb) ?_))
  refine wb_if_ne dX12_yardRule_156 rfl (fun c156 => absurd c156 (by decide)) (fun c156 => ?_)
  exact wp_iconst (v := nI 0) dX12_yardRule_159 rfl (wb_ret dX12_yardRule_160 rfl rfl ⟨rfl, rfl⟩)
theorem m_yr_two6 {n p sm : Nat} {t : Nat → Nat} (d : Nat) {S : xS} (hX : XC S) (hT : xTxM S n t) (hM : xTM S n t p) (hs : S.2.1 187 20 = nI sm) (hs2 : sm < 2 ^ 31) (h : xiw xw_rhymes n t p = true) (hb : sm.testBit 7 = true) : ∃ S', xcall false (d + 4) j_X12_yardRule [.ref 187] S (some (.int (xB false))) S' ∧ xFl xFY S S' ∧ S'.2.1 187 9 = nI 4 ∧ S'.2.1 187 10 = nI (xts t n p) := by
  have hM0 := hM
  obtain ⟨hp, h6, h4, h5, hr⟩ := hM
  have b4 := xtk_b t n p
  have hab := xta_b t hp
  have hle := hT.2.1
  have n_count : xiw xw_count n t p = false := xiw_uni h (by decide)
  have n_by : xiw xw_by n t p = false := xiw_uni h (by decide)
  have n_hit : xiw xw_hit n t p = false := xiw_uni h (by decide)
  have n_then : xiw xw_then n t p = false := xiw_uni h (by decide)
  have n_turn : xiw xw_turn n t p = false := xiw_uni h (by decide)
  have n_aim : xiw xw_aim n t p = false := xiw_uni h (by decide)
  have n_left : xiw xw_left n t p = false := xiw_uni h (by decide)
  refine ⟨_, ?_, ((xFl.rf S).SI (a := 187) (k := 9) (Or.inl ⟨rfl, by omega⟩)).SI (a := 187) (k := 10) (Or.inl ⟨rfl, by omega⟩), xi (xI_same _ _ _ _) (Or.inr (by decide)), xI_same _ _ _ _⟩
  refine xcall_intro (ls := [.ref 187]) q_X12_yardRule (by decide) rfl (Nat.le_of_ble_eq_true rfl) rfl ?_
  refine wp_aload_n dX12_yardRule_0 rfl rfl (wp_ldc2 (v := lN 427071729268) dX12_yardRule_1 k11_281 rfl (wp_iv2 dX12_yardRule_4 k11_124 q_X12_isWord (by decide) (xsh hX sh_187) (by decide) (Nat.le_of_ble_eq_true rfl) (m_isWord (d + 3) hX hT hM0 (r := xw_count) (W := 427071729268) ⟨by decide, by decide, by decide, by decide⟩ (by decide)) ?_))
  refine wb_if_eq dX12_yardRule_7 rfl (fun c7 => ?_) (fun c7 => absurd c7 (by rw [n_count]; decide))
  refine wp_aload_n dX12_yardRule_23 rfl rfl (wp_ldc2 (v := lN 25209) dX12_yardRule_24 k11_291 rfl (wp_iv2 dX12_yardRule_27 k11_124 q_X12_isWord (by decide) (xsh hX sh_187) (by decide) (Nat.le_of_ble_eq_true rfl) (m_isWord (d + 3) hX hT hM0 (r := xw_by) (W := 25209) ⟨by decide, by decide, by decide, by decide⟩ (by decide)) ?_))
  refine wb_if_eq dX12_yardRule_30 rfl (fun c30 => ?_) (fun c30 => absurd c30 (by rw [n_by]; decide))
  refine wp_aload_n dX12_yardRule_46 rfl rfl (wp_ldc2 (v := lN 6842740) dX12_yardRule_47 k11_297 rfl (wp_iv2 dX12_yardRule_50 k11_124 q_X12_isWord (by decide) (xsh hX sh_187) (by decide) (Nat.le_of_ble_eq_true rfl) (m_isWord (d + 3) hX hT hM0 (r := xw_hit) (W := 6842740) ⟨by decide, by decide, by decide, by decide⟩ (by decide)) ?_))
  refine wb_if_eq dX12_yardRule_53 rfl (fun c53 => ?_) (fun c53 => absurd c53 (by rw [n_hit]; decide))
  refine wp_aload_n dX12_yardRule_69 rfl rfl (wp_ldc2 (v := lN 1952998766) dX12_yardRule_70 k11_303 rfl (wp_iv2 dX12_yardRule_73 k11_124 q_X12_isWord (by decide) (xsh hX sh_187) (by decide) (Nat.le_of_ble_eq_true rfl) (m_isWord (d + 3) hX hT hM0 (r := xw_then) (W := 1952998766) ⟨by decide, by decide, by decide, by decide⟩ (by decide)) ?_))
  refine wb_if_eq dX12_yardRule_76 rfl (fun c76 => ?_) (fun c76 => absurd c76 (by rw [n_then]; decide))
  refine wp_aload_n dX12_yardRule_94 rfl rfl (wp_ldc2 (v := lN 1953854062) dX12_yardRule_95 k11_311 rfl (wp_iv2 dX12_yardRule_98 k11_124 q_X12_isWord (by decide) (xsh hX sh_187) (by decide) (Nat.le_of_ble_eq_true rfl) (m_isWord (d + 3) hX hT hM0 (r := xw_turn) (W := 1953854062) ⟨by decide, by decide, by decide, by decide⟩ (by decide)) ?_))
  refine wb_if_eq dX12_yardRule_101 rfl (fun c101 => ?_) (fun c101 => absurd c101 (by rw [n_turn]; decide))
  refine wp_aload_n dX12_yardRule_117 rfl rfl (wp_ldc2 (v := lN 6383981) dX12_yardRule_118 k11_317 rfl (wp_iv2 dX12_yardRule_121 k11_124 q_X12_isWord (by decide) (xsh hX sh_187) (by decide) (Nat.le_of_ble_eq_true rfl) (m_isWord (d + 3) hX hT hM0 (r := xw_aim) (W := 6383981) ⟨by decide, by decide, by decide, by decide⟩ (by decide)) ?_))
  refine wb_if_eq dX12_yardRule_124 rfl (fun c124 => ?_) (fun c124 => absurd c124 (by rw [n_aim]; decide))
  refine wp_aload_n dX12_yardRule_141 rfl rfl (wp_ldc2 (v := lN 1818584692) dX12_yardRule_142 k11_321 rfl (wp_iv2 dX12_yardRule_145 k11_124 q_X12_isWord (by decide) (xsh hX sh_187) (by decide) (Nat.le_of_ble_eq_true rfl) (m_isWord (d + 3) hX hT hM0 (r := xw_left) (W := 1818584692) ⟨by decide, by decide, by decide, by decide⟩ (by decide)) ?_))
  refine wb_if_eq dX12_yardRule_148 rfl (fun c148 => ?_) (fun c148 => absurd c148 (by rw [n_left]; decide))
  refine wp_aload_n dX12_yardRule_210 rfl rfl (wp_ldc2 (v := lN 125793039377779) dX12_yardRule_211 k11_323 rfl (wp_iv2 dX12_yardRule_214 k11_124 q_X12_isWord (by decide) (xsh hX sh_187) (by decide) (Nat.le_of_ble_eq_true rfl) (m_isWord (d + 3) hX hT hM0 (r := xw_rhymes) (W := 125793039377779) ⟨by decide, by decide, by decide, by decide⟩ (by decide)) ?_))
  refine wb_if_ne dX12_yardRule_217 rfl (fun c217 => ?_) (fun c217 => absurd c217 (by rw [h]; decide))
  refine wp_aload_n dX12_yardRule_225 rfl rfl (wp_bipush (v := nI 7) dX12_yardRule_226 rfl (wp_iv2 dX12_yardRule_228 k11_128 q_X12_once (by decide) (xsh hX sh_187) (by decide) (Nat.le_of_ble_eq_true rfl) (m_once_two (d + 1) hX hT hM0 hs hs2 (by decide) hb) ?_))
  refine wb_if_ne dX12_yardRule_231 rfl (fun c231 => absurd c231 (by decide)) (fun c231 => ?_)
  exact wp_iconst (v := nI 0) dX12_yardRule_234 rfl (wb_ret dX12_yardRule_235 rfl rfl ⟨rfl, rfl⟩)
theorem xCH_mo {t : Nat → Nat} {n p1 r rm sm : Nat} {ws : List (List Nat)} {S S' : xS} {b : Bool} {v : xYd} (h : xCH t n p1 rm sm ws S b S') (hV : xYdN S v) (hr : r < 5 ∧ rm = r ∧ ws = xychs r) : xFl xFY S S' ∧ xMO xYdN n t S S' b (xyrule t n r p1 v) ∧ S'.2.1 187 20 = nI (sm ||| 2 ^ rm) := by
  obtain ⟨hr5, rfl, rfl⟩ := hr
  obtain ⟨h1, h2, h3, h4, h5, h6⟩ := h
  refine ⟨h1, ?_, h2⟩
  have ER : xyrule t n rm p1 v = match xwh t n p1 (xychs rm) 0 with
    | none => .error (xfh t n p1)
    | some k => .ok (xta t n p1, (xyup v.1 rm k, v.2)) := by
    unfold xyrule
    rw [if_neg (by omega), if_neg (by omega)]
    all_goals rfl
  rw [ER]
  cases hw : xwh t n p1 (xychs rm) 0 with
  | none =>
    obtain ⟨q1, q2, q3⟩ := h5 hw
    exact ⟨fun e he => (by cases he; exact ⟨q1, q2, q3⟩), fun p' v' he => (by cases he)⟩
  | some k =>
    obtain ⟨q1, q2, q3, q4⟩ := h6 k hw
    obtain ⟨v1, v2, v3, v4, v5⟩ := hV
    have ht := xychs_top (by omega) (by omega) (by omega) hw
    refine ⟨fun e he => (by cases he), fun p' v' he => ?_⟩
    cases he
    refine ⟨fun w => ?_, q4⟩
    obtain ⟨w1, w2, w3⟩ := q3 w
    refine ⟨w1, w2, w3, fun i hi => ?_, ?_, h3.trans v3, fun i hi => (h4 i).trans (v4 i hi), xyok_up' v5 ht (by omega)⟩
    · show _ = nI (xyup v.1 rm k i)
      unfold xyup
      split
      · rename_i e; rw [e]; exact q2
      · rename_i e; rw [q1 i e]; exact v1 i hi
    · show _ = nI (1 - xyup v.1 rm k 7)
      unfold xyup
      rw [if_neg (by omega), q1 6 (by omega)]
      exact v2
theorem xCH_aim {t : Nat → Nat} {n p1 sm : Nat} {S S' : xS} {b : Bool} {v : xYd} (h : xCH t n p1 6 sm [xw_free, xw_left] S b S') (hV : xYdN S v) : xFl xFY S S' ∧ xMO xYdN n t S S' b (xyrule t n 7 p1 v) ∧ S'.2.1 187 20 = nI (sm ||| 2 ^ 6) := by
  obtain ⟨h1, h2, h3, h4, h5, h6⟩ := h
  refine ⟨h1, ?_, h2⟩
  have ER : xyrule t n 7 p1 v = match xwh t n p1 [xw_left, xw_free] 0 with
    | none => .error (xfh t n p1)
    | some k => .ok (xta t n p1, (xyup v.1 7 k, v.2)) := by
    unfold xyrule
    rw [if_neg (by decide), if_neg (by decide)]
    rfl
  rw [ER, xwh_flip (a := xw_left) (b := xw_free) (by decide)]
  cases hw : xwh t n p1 [xw_free, xw_left] 0 with
  | none =>
    obtain ⟨q1, q2, q3⟩ := h5 hw
    exact ⟨fun e he => (by cases he; exact ⟨q1, q2, q3⟩), fun p' v' he => (by cases he)⟩
  | some k =>
    obtain ⟨q1, q2, q3, q4⟩ := h6 k hw
    obtain ⟨v1, v2, v3, v4, v5⟩ := hV
    have ht := (xwh_lt _ _ hw).2
    have hk2 : k < 2 := ht
    refine ⟨fun e he => (by cases he), fun p' v' he => ?_⟩
    cases he
    refine ⟨fun w => ?_, q4⟩
    obtain ⟨w1, w2, w3⟩ := q3 w
    refine ⟨w1, w2, w3, fun i hi => ?_, ?_, h3.trans v3, fun i hi => (h4 i).trans (v4 i hi), xyok_up' v5 (by show _ ≤ 1; omega) (by decide)⟩
    · show _ = nI (xyup v.1 7 (1 - k) i)
      unfold xyup
      rw [if_neg (by omega), q1 i (by omega)]
      exact v1 i hi
    · show _ = nI (1 - xyup v.1 7 (1 - k) 7)
      unfold xyup
      rw [if_pos rfl, show 1 - (1 - k) = k by omega]
      exact q2
theorem m_yr0 {n p sm : Nat} {t : Nat → Nat} (d : Nat) {v : xYd} {S : xS} (hX : XC S) (hT : xTxM S n t) (hM : xTM S n t p) (hs : S.2.1 187 20 = nI sm) (hs2 : sm < 2 ^ 31) (hV : xYdN S v) (h : xiw xw_count n t p = true) (hb : sm.testBit 0 = false) : ∃ b S', xcall false (d + 4) j_X12_yardRule [.ref 187] S (some (.int (xB b))) S' ∧ xFl xFY S S' ∧ xMO xYdN n t S S' b (xyrule t n 0 (xta t n p) v) ∧ S'.2.1 187 20 = nI (sm ||| 2 ^ 0) := by
  have hM0 := hM
  obtain ⟨hp, h6, h4, h5, hr⟩ := hM
  have b4 := xtk_b t n p
  have hab := xta_b t hp
  have hle := hT.2.1
  obtain ⟨b, S', g, c⟩ := m_choice2 (w0 := xw_words) (W0 := 512970876019) (w1 := xw_beats) (W1 := 422607680627) (rm := 0) d ⟨by decide, by decide, by decide, by decide⟩ (by decide) ⟨by decide, by decide, by decide, by decide⟩ (by decide) hX hT hM0 hs hs2 (by decide) hb
  obtain ⟨c1, c2, c3⟩ := xCH_mo (r := 0) c hV ⟨by decide, rfl, rfl⟩
  refine ⟨b, S', ?_, c1, c2, c3⟩
  refine xcall_intro (ls := [.ref 187]) q_X12_yardRule (by decide) rfl (Nat.le_of_ble_eq_true rfl) rfl ?_
  refine wp_aload_n dX12_yardRule_0 rfl rfl (wp_ldc2 (v := lN 427071729268) dX12_yardRule_1 k11_281 rfl (wp_iv2 dX12_yardRule_4 k11_124 q_X12_isWord (by decide) (xsh hX sh_187) (by decide) (Nat.le_of_ble_eq_true rfl) (m_isWord (d + 3) hX hT hM0 (r := xw_count) (W := 427071729268) ⟨by decide, by decide, by decide, by decide⟩ (by decide)) ?_))
  refine wb_if_eq dX12_yardRule_7 rfl (fun c7 => absurd c7 (by rw [h]; decide)) (fun c7 => ?_)
  exact wp_aload_n dX12_yardRule_10 rfl rfl (wp_iconst (v := nI 0) dX12_yardRule_11 rfl (wp_ldc2 (v := lN 512970876019) dX12_yardRule_12 k11_283 rfl (wp_ldc2 (v := lN 422607680627) dX12_yardRule_15 k11_285 rfl (wp_lconst dX12_yardRule_18 rfl (wp_iv5 dX12_yardRule_19 k11_287 q_X12_choice (by decide) (xsh hX sh_187) (by decide) (Nat.le_of_ble_eq_true rfl) g (wb_ret dX12_yardRule_22 rfl rfl ⟨rfl, rfl⟩))))))
theorem m_yr1 {n p sm : Nat} {t : Nat → Nat} (d : Nat) {v : xYd} {S : xS} (hX : XC S) (hT : xTxM S n t) (hM : xTM S n t p) (hs : S.2.1 187 20 = nI sm) (hs2 : sm < 2 ^ 31) (hV : xYdN S v) (h : xiw xw_by n t p = true) (hb : sm.testBit 1 = false) : ∃ b S', xcall false (d + 4) j_X12_yardRule [.ref 187] S (some (.int (xB b))) S' ∧ xFl xFY S S' ∧ xMO xYdN n t S S' b (xyrule t n 1 (xta t n p) v) ∧ S'.2.1 187 20 = nI (sm ||| 2 ^ 1) := by
  have hM0 := hM
  obtain ⟨hp, h6, h4, h5, hr⟩ := hM
  have b4 := xtk_b t n p
  have hab := xta_b t hp
  have hle := hT.2.1
  have n_count : xiw xw_count n t p = false := xiw_uni h (by decide)
  obtain ⟨b, S', g, c⟩ := m_choice2 (w0 := xw_heads) (W0 := 448377480307) (w1 := xw_fists) (W1 := 439855838323) (rm := 1) d ⟨by decide, by decide, by decide, by decide⟩ (by decide) ⟨by decide, by decide, by decide, by decide⟩ (by decide) hX hT hM0 hs hs2 (by decide) hb
  obtain ⟨c1, c2, c3⟩ := xCH_mo (r := 1) c hV ⟨by decide, rfl, rfl⟩
  refine ⟨b, S', ?_, c1, c2, c3⟩
  refine xcall_intro (ls := [.ref 187]) q_X12_yardRule (by decide) rfl (Nat.le_of_ble_eq_true rfl) rfl ?_
  refine wp_aload_n dX12_yardRule_0 rfl rfl (wp_ldc2 (v := lN 427071729268) dX12_yardRule_1 k11_281 rfl (wp_iv2 dX12_yardRule_4 k11_124 q_X12_isWord (by decide) (xsh hX sh_187) (by decide) (Nat.le_of_ble_eq_true rfl) (m_isWord (d + 3) hX hT hM0 (r := xw_count) (W := 427071729268) ⟨by decide, by decide, by decide, by decide⟩ (by decide)) ?_))
  refine wb_if_eq dX12_yardRule_7 rfl (fun c7 => ?_) (fun c7 => absurd c7 (by rw [n_count]; decide))
  refine wp_aload_n dX12_yardRule_23 rfl rfl (wp_ldc2 (v := lN 25209) dX12_yardRule_24 k11_291 rfl (wp_iv2 dX12_yardRule_27 k11_124 q_X12_isWord (by decide) (xsh hX sh_187) (by decide) (Nat.le_of_ble_eq_true rfl) (m_isWord (d + 3) hX hT hM0 (r := xw_by) (W := 25209) ⟨by decide, by decide, by decide, by decide⟩ (by decide)) ?_))
  refine wb_if_eq dX12_yardRule_30 rfl (fun c30 => absurd c30 (by rw [h]; decide)) (fun c30 => ?_)
  exact wp_aload_n dX12_yardRule_33 rfl rfl (wp_iconst (v := nI 1) dX12_yardRule_34 rfl (wp_ldc2 (v := lN 448377480307) dX12_yardRule_35 k11_293 rfl (wp_ldc2 (v := lN 439855838323) dX12_yardRule_38 k11_295 rfl (wp_lconst dX12_yardRule_41 rfl (wp_iv5 dX12_yardRule_42 k11_287 q_X12_choice (by decide) (xsh hX sh_187) (by decide) (Nat.le_of_ble_eq_true rfl) g (wb_ret dX12_yardRule_45 rfl rfl ⟨rfl, rfl⟩))))))
theorem m_yr2 {n p sm : Nat} {t : Nat → Nat} (d : Nat) {v : xYd} {S : xS} (hX : XC S) (hT : xTxM S n t) (hM : xTM S n t p) (hs : S.2.1 187 20 = nI sm) (hs2 : sm < 2 ^ 31) (hV : xYdN S v) (h : xiw xw_hit n t p = true) (hb : sm.testBit 2 = false) : ∃ b S', xcall false (d + 4) j_X12_yardRule [.ref 187] S (some (.int (xB b))) S' ∧ xFl xFY S S' ∧ xMO xYdN n t S S' b (xyrule t n 2 (xta t n p) v) ∧ S'.2.1 187 20 = nI (sm ||| 2 ^ 2) := by
  have hM0 := hM
  obtain ⟨hp, h6, h4, h5, hr⟩ := hM
  have b4 := xtk_b t n p
  have hab := xta_b t hp
  have hle := hT.2.1
  have n_count : xiw xw_count n t p = false := xiw_uni h (by decide)
  have n_by : xiw xw_by n t p = false := xiw_uni h (by decide)
  obtain ⟨b, S', g, c⟩ := m_choice2 (w0 := xw_out) (W0 := 7304564) (w1 := xw_stays) (W1 := 495873784179) (rm := 2) d ⟨by decide, by decide, by decide, by decide⟩ (by decide) ⟨by decide, by decide, by decide, by decide⟩ (by decide) hX hT hM0 hs hs2 (by decide) hb
  obtain ⟨c1, c2, c3⟩ := xCH_mo (r := 2) c hV ⟨by decide, rfl, rfl⟩
  refine ⟨b, S', ?_, c1, c2, c3⟩
  refine xcall_intro (ls := [.ref 187]) q_X12_yardRule (by decide) rfl (Nat.le_of_ble_eq_true rfl) rfl ?_
  refine wp_aload_n dX12_yardRule_0 rfl rfl (wp_ldc2 (v := lN 427071729268) dX12_yardRule_1 k11_281 rfl (wp_iv2 dX12_yardRule_4 k11_124 q_X12_isWord (by decide) (xsh hX sh_187) (by decide) (Nat.le_of_ble_eq_true rfl) (m_isWord (d + 3) hX hT hM0 (r := xw_count) (W := 427071729268) ⟨by decide, by decide, by decide, by decide⟩ (by decide)) ?_))
  refine wb_if_eq dX12_yardRule_7 rfl (fun c7 => ?_) (fun c7 => absurd c7 (by rw [n_count]; decide))
  refine wp_aload_n dX12_yardRule_23 rfl rfl (wp_ldc2 (v := lN 25209) dX12_yardRule_24 k11_291 rfl (wp_iv2 dX12_yardRule_27 k11_124 q_X12_isWord (by decide) (xsh hX sh_187) (by decide) (Nat.le_of_ble_eq_true rfl) (m_isWord (d + 3) hX hT hM0 (r := xw_by) (W := 25209) ⟨by decide, by decide, by decide, by decide⟩ (by decide)) ?_))
  refine wb_if_eq dX12_yardRule_30 rfl (fun c30 => ?_) (fun c30 => absurd c30 (by rw [n_by]; decide))
  refine wp_aload_n dX12_yardRule_46 rfl rfl (wp_ldc2 (v := lN 6842740) dX12_yardRule_47 k11_297 rfl (wp_iv2 dX12_yardRule_50 k11_124 q_X12_isWord (by decide) (xsh hX sh_187) (by decide) (Nat.le_of_ble_eq_true rfl) (m_isWord (d + 3) hX hT hM0 (r := xw_hit) (W := 6842740) ⟨by decide, by decide, by decide, by decide⟩ (by decide)) ?_))
  refine wb_if_eq dX12_yardRule_53 rfl (fun c53 => absurd c53 (by rw [h]; decide)) (fun c53 => ?_)
  exact wp_aload_n dX12_yardRule_56 rfl rfl (wp_iconst (v := nI 2) dX12_yardRule_57 rfl (wp_ldc2 (v := lN 7304564) dX12_yardRule_58 k11_299 rfl (wp_ldc2 (v := lN 495873784179) dX12_yardRule_61 k11_301 rfl (wp_lconst dX12_yardRule_64 rfl (wp_iv5 dX12_yardRule_65 k11_287 q_X12_choice (by decide) (xsh hX sh_187) (by decide) (Nat.le_of_ble_eq_true rfl) g (wb_ret dX12_yardRule_68 rfl rfl ⟨rfl, rfl⟩))))))
theorem m_yr3 {n p sm : Nat} {t : Nat → Nat} (d : Nat) {v : xYd} {S : xS} (hX : XC S) (hT : xTxM S n t) (hM : xTM S n t p) (hs : S.2.1 187 20 = nI sm) (hs2 : sm < 2 ^ 31) (hV : xYdN S v) (h : xiw xw_then n t p = true) (hb : sm.testBit 3 = false) : ∃ b S', xcall false (d + 4) j_X12_yardRule [.ref 187] S (some (.int (xB b))) S' ∧ xFl xFY S S' ∧ xMO xYdN n t S S' b (xyrule t n 3 (xta t n p) v) ∧ S'.2.1 187 20 = nI (sm ||| 2 ^ 3) := by
  have hM0 := hM
  obtain ⟨hp, h6, h4, h5, hr⟩ := hM
  have b4 := xtk_b t n p
  have hab := xta_b t hp
  have hle := hT.2.1
  have n_count : xiw xw_count n t p = false := xiw_uni h (by decide)
  have n_by : xiw xw_by n t p = false := xiw_uni h (by decide)
  have n_hit : xiw xw_hit n t p = false := xiw_uni h (by decide)
  obtain ⟨b, S', g, c⟩ := m_choice3 (w0 := xw_next) (W0 := 1852143732) (w1 := xw_same) (W1 := 1935764837) (w2 := xw_caller) (W2 := 109270082020722) (rm := 3) d ⟨by decide, by decide, by decide, by decide⟩ (by decide) ⟨by decide, by decide, by decide, by decide⟩ (by decide) ⟨by decide, by decide, by decide, by decide⟩ (by decide) hX hT hM0 hs hs2 (by decide) hb
  obtain ⟨c1, c2, c3⟩ := xCH_mo (r := 3) c hV ⟨by decide, rfl, rfl⟩
  refine ⟨b, S', ?_, c1, c2, c3⟩
  refine xcall_intro (ls := [.ref 187]) q_X12_yardRule (by decide) rfl (Nat.le_of_ble_eq_true rfl) rfl ?_
  refine wp_aload_n dX12_yardRule_0 rfl rfl (wp_ldc2 (v := lN 427071729268) dX12_yardRule_1 k11_281 rfl (wp_iv2 dX12_yardRule_4 k11_124 q_X12_isWord (by decide) (xsh hX sh_187) (by decide) (Nat.le_of_ble_eq_true rfl) (m_isWord (d + 3) hX hT hM0 (r := xw_count) (W := 427071729268) ⟨by decide, by decide, by decide, by decide⟩ (by decide)) ?_))
  refine wb_if_eq dX12_yardRule_7 rfl (fun c7 => ?_) (fun c7 => absurd c7 (by rw [n_count]; decide))
  refine wp_aload_n dX12_yardRule_23 rfl rfl (wp_ldc2 (v := lN 25209) dX12_yardRule_24 k11_291 rfl (wp_iv2 dX12_yardRule_27 k11_124 q_X12_isWord (by decide) (xsh hX sh_187) (by decide) (Nat.le_of_ble_eq_true rfl) (m_isWord (d + 3) hX hT hM0 (r := xw_by) (W := 25209) ⟨by decide, by decide, by decide, by decide⟩ (by decide)) ?_))
  refine wb_if_eq dX12_yardRule_30 rfl (fun c30 => ?_) (fun c30 => absurd c30 (by rw [n_by]; decide))
  refine wp_aload_n dX12_yardRule_46 rfl rfl (wp_ldc2 (v := lN 6842740) dX12_yardRule_47 k11_297 rfl (wp_iv2 dX12_yardRule_50 k11_124 q_X12_isWord (by decide) (xsh hX sh_187) (by decide) (Nat.le_of_ble_eq_true rfl) (m_isWord (d + 3) hX hT hM0 (r := xw_hit) (W := 6842740) ⟨by decide, by decide, by decide, by decide⟩ (by decide)) ?_))
  refine wb_if_eq dX12_yardRule_53 rfl (fun c53 => ?_) (fun c53 => absurd c53 (by rw [n_hit]; decide))
  refine wp_aload_n dX12_yardRule_69 rfl rfl (wp_ldc2 (v := lN 1952998766) dX12_yardRule_70 k11_303 rfl (wp_iv2 dX12_yardRule_73 k11_124 q_X12_isWord (by decide) (xsh hX sh_187) (by decide) (Nat.le_of_ble_eq_true rfl) (m_isWord (d + 3) hX hT hM0 (r := xw_then) (W := 1952998766) ⟨by decide, by decide, by decide, by decide⟩ (by decide)) ?_))
  refine wb_if_eq dX12_yardRule_76 rfl (fun c76 => absurd c76 (by rw [h]; decide)) (fun c76 => ?_)
  exact wp_aload_n dX12_yardRule_79 rfl rfl (wp_iconst (v := nI 3) dX12_yardRule_80 rfl (wp_ldc2 (v := lN 1852143732) dX12_yardRule_81 k11_305 rfl (wp_ldc2 (v := lN 1935764837) dX12_yardRule_84 k11_307 rfl (wp_ldc2 (v := lN 109270082020722) dX12_yardRule_87 k11_309 rfl (wp_iv5 dX12_yardRule_90 k11_287 q_X12_choice (by decide) (xsh hX sh_187) (by decide) (Nat.le_of_ble_eq_true rfl) g (wb_ret dX12_yardRule_93 rfl rfl ⟨rfl, rfl⟩))))))
theorem m_yr4 {n p sm : Nat} {t : Nat → Nat} (d : Nat) {v : xYd} {S : xS} (hX : XC S) (hT : xTxM S n t) (hM : xTM S n t p) (hs : S.2.1 187 20 = nI sm) (hs2 : sm < 2 ^ 31) (hV : xYdN S v) (h : xiw xw_turn n t p = true) (hb : sm.testBit 4 = false) : ∃ b S', xcall false (d + 4) j_X12_yardRule [.ref 187] S (some (.int (xB b))) S' ∧ xFl xFY S S' ∧ xMO xYdN n t S S' b (xyrule t n 4 (xta t n p) v) ∧ S'.2.1 187 20 = nI (sm ||| 2 ^ 4) := by
  have hM0 := hM
  obtain ⟨hp, h6, h4, h5, hr⟩ := hM
  have b4 := xtk_b t n p
  have hab := xta_b t hp
  have hle := hT.2.1
  have n_count : xiw xw_count n t p = false := xiw_uni h (by decide)
  have n_by : xiw xw_by n t p = false := xiw_uni h (by decide)
  have n_hit : xiw xw_hit n t p = false := xiw_uni h (by decide)
  have n_then : xiw xw_then n t p = false := xiw_uni h (by decide)
  obtain ⟨b, S', g, c⟩ := m_choice2 (w0 := xw_never) (W0 := 474148660594) (w1 := xw_always) (W1 := 107118487239027) (rm := 4) d ⟨by decide, by decide, by decide, by decide⟩ (by decide) ⟨by decide, by decide, by decide, by decide⟩ (by decide) hX hT hM0 hs hs2 (by decide) hb
  obtain ⟨c1, c2, c3⟩ := xCH_mo (r := 4) c hV ⟨by decide, rfl, rfl⟩
  refine ⟨b, S', ?_, c1, c2, c3⟩
  refine xcall_intro (ls := [.ref 187]) q_X12_yardRule (by decide) rfl (Nat.le_of_ble_eq_true rfl) rfl ?_
  refine wp_aload_n dX12_yardRule_0 rfl rfl (wp_ldc2 (v := lN 427071729268) dX12_yardRule_1 k11_281 rfl (wp_iv2 dX12_yardRule_4 k11_124 q_X12_isWord (by decide) (xsh hX sh_187) (by decide) (Nat.le_of_ble_eq_true rfl) (m_isWord (d + 3) hX hT hM0 (r := xw_count) (W := 427071729268) ⟨by decide, by decide, by decide, by decide⟩ (by decide)) ?_))
  refine wb_if_eq dX12_yardRule_7 rfl (fun c7 => ?_) (fun c7 => absurd c7 (by rw [n_count]; decide))
  refine wp_aload_n dX12_yardRule_23 rfl rfl (wp_ldc2 (v := lN 25209) dX12_yardRule_24 k11_291 rfl (wp_iv2 dX12_yardRule_27 k11_124 q_X12_isWord (by decide) (xsh hX sh_187) (by decide) (Nat.le_of_ble_eq_true rfl) (m_isWord (d + 3) hX hT hM0 (r := xw_by) (W := 25209) ⟨by decide, by decide, by decide, by decide⟩ (by decide)) ?_))
  refine wb_if_eq dX12_yardRule_30 rfl (fun c30 => ?_) (fun c30 => absurd c30 (by rw [n_by]; decide))
  refine wp_aload_n dX12_yardRule_46 rfl rfl (wp_ldc2 (v := lN 6842740) dX12_yardRule_47 k11_297 rfl (wp_iv2 dX12_yardRule_50 k11_124 q_X12_isWord (by decide) (xsh hX sh_187) (by decide) (Nat.le_of_ble_eq_true rfl) (m_isWord (d + 3) hX hT hM0 (r := xw_hit) (W := 6842740) ⟨by decide, by decide, by decide, by decide⟩ (by decide)) ?_))
  refine wb_if_eq dX12_yardRule_53 rfl (fun c53 => ?_) (fun c53 => absurd c53 (by rw [n_hit]; decide))
  refine wp_aload_n dX12_yardRule_69 rfl rfl (wp_ldc2 (v := lN 1952998766) dX12_yardRule_70 k11_303 rfl (wp_iv2 dX12_yardRule_73 k11_124 q_X12_isWord (by decide) (xsh hX sh_187) (by decide) (Nat.le_of_ble_eq_true rfl) (m_isWord (d + 3) hX hT hM0 (r := xw_then) (W := 1952998766) ⟨by decide, by decide, by decide, by decide⟩ (by decide)) ?_))
  refine wb_if_eq dX12_yardRule_76 rfl (fun c76 => ?_) (fun c76 => absurd c76 (by rw [n_then]; decide))
  refine wp_aload_n dX12_yardRule_94 rfl rfl (wp_ldc2 (v := lN 1953854062) dX12_yardRule_95 k11_311 rfl (wp_iv2 dX12_yardRule_98 k11_124 q_X12_isWord (by decide) (xsh hX sh_187) (by decide) (Nat.le_of_ble_eq_true rfl) (m_isWord (d + 3) hX hT hM0 (r := xw_turn) (W := 1953854062) ⟨by decide, by decide, by decide, by decide⟩ (by decide)) ?_))
  refine wb_if_eq dX12_yardRule_101 rfl (fun c101 => absurd c101 (by rw [h]; decide)) (fun c101 => ?_)
  exact wp_aload_n dX12_yardRule_104 rfl rfl (wp_iconst (v := nI 4) dX12_yardRule_105 rfl (wp_ldc2 (v := lN 474148660594) dX12_yardRule_106 k11_313 rfl (wp_ldc2 (v := lN 107118487239027) dX12_yardRule_109 k11_315 rfl (wp_lconst dX12_yardRule_112 rfl (wp_iv5 dX12_yardRule_113 k11_287 q_X12_choice (by decide) (xsh hX sh_187) (by decide) (Nat.le_of_ble_eq_true rfl) g (wb_ret dX12_yardRule_116 rfl rfl ⟨rfl, rfl⟩))))))
theorem m_yr7 {n p sm : Nat} {t : Nat → Nat} (d : Nat) {v : xYd} {S : xS} (hX : XC S) (hT : xTxM S n t) (hM : xTM S n t p) (hs : S.2.1 187 20 = nI sm) (hs2 : sm < 2 ^ 31) (hV : xYdN S v) (h : xiw xw_aim n t p = true) (hb : sm.testBit 6 = false) : ∃ b S', xcall false (d + 4) j_X12_yardRule [.ref 187] S (some (.int (xB b))) S' ∧ xFl xFY S S' ∧ xMO xYdN n t S S' b (xyrule t n 7 (xta t n p) v) ∧ S'.2.1 187 20 = nI (sm ||| 2 ^ 6) := by
  have hM0 := hM
  obtain ⟨hp, h6, h4, h5, hr⟩ := hM
  have b4 := xtk_b t n p
  have hab := xta_b t hp
  have hle := hT.2.1
  have n_count : xiw xw_count n t p = false := xiw_uni h (by decide)
  have n_by : xiw xw_by n t p = false := xiw_uni h (by decide)
  have n_hit : xiw xw_hit n t p = false := xiw_uni h (by decide)
  have n_then : xiw xw_then n t p = false := xiw_uni h (by decide)
  have n_turn : xiw xw_turn n t p = false := xiw_uni h (by decide)
  obtain ⟨b, S', g, c⟩ := m_choice2 (w0 := xw_free) (W0 := 1718773093) (w1 := xw_left) (W1 := 1818584692) (rm := 6) d ⟨by decide, by decide, by decide, by decide⟩ (by decide) ⟨by decide, by decide, by decide, by decide⟩ (by decide) hX hT hM0 hs hs2 (by decide) hb
  obtain ⟨c1, c2, c3⟩ := xCH_aim c hV
  refine ⟨b, S', ?_, c1, c2, c3⟩
  refine xcall_intro (ls := [.ref 187]) q_X12_yardRule (by decide) rfl (Nat.le_of_ble_eq_true rfl) rfl ?_
  refine wp_aload_n dX12_yardRule_0 rfl rfl (wp_ldc2 (v := lN 427071729268) dX12_yardRule_1 k11_281 rfl (wp_iv2 dX12_yardRule_4 k11_124 q_X12_isWord (by decide) (xsh hX sh_187) (by decide) (Nat.le_of_ble_eq_true rfl) (m_isWord (d + 3) hX hT hM0 (r := xw_count) (W := 427071729268) ⟨by decide, by decide, by decide, by decide⟩ (by decide)) ?_))
  refine wb_if_eq dX12_yardRule_7 rfl (fun c7 => ?_) (fun c7 => absurd c7 (by rw [n_count]; decide))
  refine wp_aload_n dX12_yardRule_23 rfl rfl (wp_ldc2 (v := lN 25209) dX12_yardRule_24 k11_291 rfl (wp_iv2 dX12_yardRule_27 k11_124 q_X12_isWord (by decide) (xsh hX sh_187) (by decide) (Nat.le_of_ble_eq_true rfl) (m_isWord (d + 3) hX hT hM0 (r := xw_by) (W := 25209) ⟨by decide, by decide, by decide, by decide⟩ (by decide)) ?_))
  refine wb_if_eq dX12_yardRule_30 rfl (fun c30 => ?_) (fun c30 => absurd c30 (by rw [n_by]; decide))
  refine wp_aload_n dX12_yardRule_46 rfl rfl (wp_ldc2 (v := lN 6842740) dX12_yardRule_47 k11_297 rfl (wp_iv2 dX12_yardRule_50 k11_124 q_X12_isWord (by decide) (xsh hX sh_187) (by decide) (Nat.le_of_ble_eq_true rfl) (m_isWord (d + 3) hX hT hM0 (r := xw_hit) (W := 6842740) ⟨by decide, by decide, by decide, by decide⟩ (by decide)) ?_))
  refine wb_if_eq dX12_yardRule_53 rfl (fun c53 => ?_) (fun c53 => absurd c53 (by rw [n_hit]; decide))
  refine wp_aload_n dX12_yardRule_69 rfl rfl (wp_ldc2 (v := lN 1952998766) dX12_yardRule_70 k11_303 rfl (wp_iv2 dX12_yardRule_73 k11_124 q_X12_isWord (by decide) (xsh hX sh_187) (by decide) (Nat.le_of_ble_eq_true rfl) (m_isWord (d + 3) hX hT hM0 (r := xw_then) (W := 1952998766) ⟨by decide, by decide, by decide, by decide⟩ (by decide)) ?_))
  refine wb_if_eq dX12_yardRule_76 rfl (fun c76 => ?_) (fun c76 => absurd c76 (by rw [n_then]; decide))
  refine wp_aload_n dX12_yardRule_94 rfl rfl (wp_ldc2 (v := lN 1953854062) dX12_yardRule_95 k11_311 rfl (wp_iv2 dX12_yardRule_98 k11_124 q_X12_isWord (by decide) (xsh hX sh_187) (by decide) (Nat.le_of_ble_eq_true rfl) (m_isWord (d + 3) hX hT hM0 (r := xw_turn) (W := 1953854062) ⟨by decide, by decide, by decide, by decide⟩ (by decide)) ?_))
  refine wb_if_eq dX12_yardRule_101 rfl (fun c101 => ?_) (fun c101 => absurd c101 (by rw [n_turn]; decide))
  refine wp_aload_n dX12_yardRule_117 rfl rfl (wp_ldc2 (v := lN 6383981) dX12_yardRule_118 k11_317 rfl (wp_iv2 dX12_yardRule_121 k11_124 q_X12_isWord (by decide) (xsh hX sh_187) (by decide) (Nat.le_of_ble_eq_true rfl) (m_isWord (d + 3) hX hT hM0 (r := xw_aim) (W := 6383981) ⟨by decide, by decide, by decide, by decide⟩ (by decide)) ?_))
  refine wb_if_eq dX12_yardRule_124 rfl (fun c124 => absurd c124 (by rw [h]; decide)) (fun c124 => ?_)
  exact wp_aload_n dX12_yardRule_127 rfl rfl (wp_bipush (v := nI 6) dX12_yardRule_128 rfl (wp_ldc2 (v := lN 1718773093) dX12_yardRule_130 k11_319 rfl (wp_ldc2 (v := lN 1818584692) dX12_yardRule_133 k11_321 rfl (wp_lconst dX12_yardRule_136 rfl (wp_iv5 dX12_yardRule_137 k11_287 q_X12_choice (by decide) (xsh hX sh_187) (by decide) (Nat.le_of_ble_eq_true rfl) g (wb_ret dX12_yardRule_140 rfl rfl ⟨rfl, rfl⟩))))))
