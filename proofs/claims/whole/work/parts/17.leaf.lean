theorem xB_of_f {b : Bool} (h : b = false) : nI 0 = xB b := by subst h; rfl
theorem xB_of_t {b : Bool} (h : b = true) : nI 1 = xB b := by subst h; rfl
/-- a small letter, a digit -/
def xsm (c : Nat) : Bool := decide (97 ≤ c ∧ c ≤ 122)
def xdg (c : Nat) : Bool := decide (48 ≤ c ∧ c ≤ 57)
theorem c_isSmall {c : Nat} (hc : c < 65536) (d : Nat) (S : xS) : xcall false d j_X11_isSmall [.int (nI c)] S (some (.int (xB (xsm c)))) S := by
  refine xcall_intro (ls := [.int (nI c)]) q_X11_isSmall (by decide) rfl (Nat.le_of_ble_eq_true rfl) rfl ?_
  refine wp_iload_n dX11_isSmall_0 rfl (wp_bipush (v := nI 97) dX11_isSmall_1 rfl ?_)
  refine wn_icmp_lt dX11_isSmall_3 rfl (by omega) (by omega) (fun c3 => ?_) (fun c3 => ?_)
  · exact wp_iconst (v := nI 0) dX11_isSmall_16 rfl (wb_ret dX11_isSmall_17 rfl (xB_of_f (decide_eq_false (by omega))) ⟨rfl, rfl⟩)
  · refine wp_iload_n dX11_isSmall_6 rfl (wp_bipush (v := nI 122) dX11_isSmall_7 rfl ?_)
    refine wn_icmp_gt dX11_isSmall_9 rfl (by omega) (by omega) (fun c9 => ?_) (fun c9 => ?_)
    · exact wp_iconst (v := nI 0) dX11_isSmall_16 rfl (wb_ret dX11_isSmall_17 rfl (xB_of_f (decide_eq_false (by omega))) ⟨rfl, rfl⟩)
    · exact wp_iconst (v := nI 1) dX11_isSmall_12 rfl (wp_goto dX11_isSmall_13 rfl (wb_ret dX11_isSmall_17 rfl (xB_of_t (decide_eq_true (by omega))) ⟨rfl, rfl⟩))
theorem c_isDigit {c : Nat} (hc : c < 65536) (d : Nat) (S : xS) : xcall false d j_X11_isDigit [.int (nI c)] S (some (.int (xB (xdg c)))) S := by
  refine xcall_intro (ls := [.int (nI c)]) q_X11_isDigit (by decide) rfl (Nat.le_of_ble_eq_true rfl) rfl ?_
  refine wp_iload_n dX11_isDigit_0 rfl (wp_bipush (v := nI 48) dX11_isDigit_1 rfl ?_)
  refine wn_icmp_lt dX11_isDigit_3 rfl (by omega) (by omega) (fun c3 => ?_) (fun c3 => ?_)
  · exact wp_iconst (v := nI 0) dX11_isDigit_16 rfl (wb_ret dX11_isDigit_17 rfl (xB_of_f (decide_eq_false (by omega))) ⟨rfl, rfl⟩)
  · refine wp_iload_n dX11_isDigit_6 rfl (wp_bipush (v := nI 57) dX11_isDigit_7 rfl ?_)
    refine wn_icmp_gt dX11_isDigit_9 rfl (by omega) (by omega) (fun c9 => ?_) (fun c9 => ?_)
    · exact wp_iconst (v := nI 0) dX11_isDigit_16 rfl (wb_ret dX11_isDigit_17 rfl (xB_of_f (decide_eq_false (by omega))) ⟨rfl, rfl⟩)
    · exact wp_iconst (v := nI 1) dX11_isDigit_12 rfl (wp_goto dX11_isDigit_13 rfl (wb_ret dX11_isDigit_17 rfl (xB_of_t (decide_eq_true (by omega))) ⟨rfl, rfl⟩))
/-- an int that is a slot's number -/
def xsl (s : Int32) : Bool := decide (¬ s < 0 ∧ s < 6)
theorem xsl_nI {s : Int32} (h : xsl s = true) : ∃ k, k < 6 ∧ s = nI k := by
  unfold xsl at h
  obtain ⟨h1, h2⟩ := of_decide_eq_true h
  obtain ⟨j, hj, rfl⟩ := nI_of h1
  exact ⟨j, (nI_ltI hj (by decide)).mp h2, rfl⟩
theorem c_isSlot (s : Int32) (d : Nat) (S : xS) : xcall false d j_X11_isSlot [.int s] S (some (.int (xB (xsl s)))) S := by
  refine xcall_intro (ls := [.int s]) q_X11_isSlot (by decide) rfl (Nat.le_of_ble_eq_true rfl) rfl ?_
  refine wp_iload_n dX11_isSlot_0 rfl ?_
  refine wp_if_lt dX11_isSlot_1 rfl (fun c1 => ?_) (fun c1 => ?_)
  · exact wp_iconst (v := nI 0) dX11_isSlot_14 rfl (wb_ret dX11_isSlot_15 rfl (xB_of_f (decide_eq_false (fun q => q.1 c1))) ⟨rfl, rfl⟩)
  · refine wp_iload_n dX11_isSlot_4 rfl (wp_bipush (v := 6) dX11_isSlot_5 rfl ?_)
    refine wp_icmp_ge dX11_isSlot_7 rfl (fun c7 => ?_) (fun c7 => ?_)
    · exact wp_iconst (v := nI 0) dX11_isSlot_14 rfl (wb_ret dX11_isSlot_15 rfl (xB_of_f (decide_eq_false (fun q => Int32.not_le.mpr q.2 c7))) ⟨rfl, rfl⟩)
    · exact wp_iconst (v := nI 1) dX11_isSlot_10 rfl (wp_goto dX11_isSlot_11 rfl (wb_ret dX11_isSlot_15 rfl (xB_of_t (decide_eq_true ⟨c1, Int32.not_le.mp c7⟩)) ⟨rfl, rfl⟩))
theorem m_isSmall {c : Nat} (hc : c < 2 ^ 31) (d : Nat) (S : xS) : xcall false d j_X12_isSmall [.int (nI c)] S (some (.int (xB (xsm c)))) S := by
  refine xcall_intro (ls := [.int (nI c)]) q_X12_isSmall (by decide) rfl (Nat.le_of_ble_eq_true rfl) rfl ?_
  refine wp_iload_n dX12_isSmall_0 rfl (wp_bipush (v := nI 97) dX12_isSmall_1 rfl ?_)
  refine wn_icmp_lt dX12_isSmall_3 rfl (by omega) (by omega) (fun c3 => ?_) (fun c3 => ?_)
  · exact wp_iconst (v := nI 0) dX12_isSmall_16 rfl (wb_ret dX12_isSmall_17 rfl (xB_of_f (decide_eq_false (by omega))) ⟨rfl, rfl⟩)
  · refine wp_iload_n dX12_isSmall_6 rfl (wp_bipush (v := nI 122) dX12_isSmall_7 rfl ?_)
    refine wn_icmp_gt dX12_isSmall_9 rfl (by omega) (by omega) (fun c9 => ?_) (fun c9 => ?_)
    · exact wp_iconst (v := nI 0) dX12_isSmall_16 rfl (wb_ret dX12_isSmall_17 rfl (xB_of_f (decide_eq_false (by omega))) ⟨rfl, rfl⟩)
    · exact wp_iconst (v := nI 1) dX12_isSmall_12 rfl (wp_goto dX12_isSmall_13 rfl (wb_ret dX12_isSmall_17 rfl (xB_of_t (decide_eq_true (by omega))) ⟨rfl, rfl⟩))
theorem m_isDigit {c : Nat} (hc : c < 2 ^ 31) (d : Nat) (S : xS) : xcall false d j_X12_isDigit [.int (nI c)] S (some (.int (xB (xdg c)))) S := by
  refine xcall_intro (ls := [.int (nI c)]) q_X12_isDigit (by decide) rfl (Nat.le_of_ble_eq_true rfl) rfl ?_
  refine wp_iload_n dX12_isDigit_0 rfl (wp_bipush (v := nI 48) dX12_isDigit_1 rfl ?_)
  refine wn_icmp_lt dX12_isDigit_3 rfl (by omega) (by omega) (fun c3 => ?_) (fun c3 => ?_)
  · exact wp_iconst (v := nI 0) dX12_isDigit_16 rfl (wb_ret dX12_isDigit_17 rfl (xB_of_f (decide_eq_false (by omega))) ⟨rfl, rfl⟩)
  · refine wp_iload_n dX12_isDigit_6 rfl (wp_bipush (v := nI 57) dX12_isDigit_7 rfl ?_)
    refine wn_icmp_gt dX12_isDigit_9 rfl (by omega) (by omega) (fun c9 => ?_) (fun c9 => ?_)
    · exact wp_iconst (v := nI 0) dX12_isDigit_16 rfl (wb_ret dX12_isDigit_17 rfl (xB_of_f (decide_eq_false (by omega))) ⟨rfl, rfl⟩)
    · exact wp_iconst (v := nI 1) dX12_isDigit_12 rfl (wp_goto dX12_isDigit_13 rfl (wb_ret dX12_isDigit_17 rfl (xB_of_t (decide_eq_true (by omega))) ⟨rfl, rfl⟩))
/-- the class's tape: n bytes t; the bytes stand behind a taking -/
def xTb (S : xS) (n : Nat) (t : Nat → Nat) : Prop := n ≤ 260 ∧ (∀ k, k < n → t k < 256 ∧ S.2.1 2 k = nI (t k))
theorem c_take {S : xS} {n : Nat} (hX : XC S) (hn : S.2.1 1 1 = nI n) (d : Nat) : xcall false d j_X6_take [.ref 1] S (some (.int (nI n))) (xSI S 1 1 (nI 0)) := by
  refine xcall_intro (ls := [.ref 1, .float 0]) q_X6_take (by decide) rfl (Nat.le_of_ble_eq_true rfl) rfl ?_
  exact wp_aload_n dX6_take_0 rfl rfl (gv5_15 dX6_take_1 (xsh hX sh_1) hn (wp_istore_n dX6_take_4 ⟨Nat.le_of_ble_eq_true rfl, Or.inr rfl⟩ rfl (wp_aload_n dX6_take_5 rfl rfl (wp_iconst (v := nI 0) dX6_take_6 rfl (p5_15 dX6_take_7 (xsh hX sh_1) (wp_iload_n dX6_take_10 rfl (wp_ireturn dX6_take_11 rfl rfl ⟨rfl, rfl⟩)))))))
theorem isWord_loop {S : xS} {n : Nat} {t : Nat → Nat} (hX : XC S) (hT : xTb S n t) (d : Nat) : ∀ (j i : Nat), i + j = n → (∀ k, k < i → xsm (t k) = true) →
    Wp false (d + 1) 5 cX6_isWord (some .boolean) false 15 [.ref 1, .int (nI n), .int (nI i)] [] S (fun r S' => r = some (.int (xB (decide (∀ k, k < n → xsm (t k) = true)))) ∧ S' = S) := by
  intro j
  induction j with
  | zero =>
    intro i hi hall
    refine wp_iload_n dX6_isWord_15 rfl (wp_iload_n dX6_isWord_16 rfl ?_)
    refine wn_icmp_ge dX6_isWord_17 rfl (by have := hT.1; omega) (by have := hT.1; omega) (fun c17 => ?_) (fun c17 => absurd c17 (by omega))
    exact wp_iconst (v := nI 1) dX6_isWord_49 rfl (wb_ret dX6_isWord_50 rfl (xB_of_t (decide_eq_true (fun k hk => hall k (by omega)))) ⟨rfl, rfl⟩)
  | succ j ih =>
    intro i hi hall
    obtain ⟨h0, hT2⟩ := hT
    obtain ⟨ht, hb⟩ := hT2 i (by omega)
    refine wp_iload_n dX6_isWord_15 rfl (wp_iload_n dX6_isWord_16 rfl ?_)
    refine wn_icmp_ge dX6_isWord_17 rfl (by omega) (by omega) (fun c17 => absurd c17 (by omega)) (fun c17 => ?_)
    refine wp_iload_n dX6_isWord_20 rfl (wp_aload_n dX6_isWord_21 rfl rfl (g5_9 dX6_isWord_22 (xsh hX sh_1) (xrr hX r1_0) (wp_alen (v := nI 260) dX6_isWord_25 (xsh hX sh_2) ⟨by decide, by decide⟩ rfl ?_)))
    refine wn_icmp_ge dX6_isWord_26 rfl (by omega) (by omega) (fun c26 => absurd c26 (by omega)) (fun c26 => ?_)
    refine wp_aload_n dX6_isWord_29 rfl rfl (g5_9 dX6_isWord_30 (xsh hX sh_1) (xrr hX r1_0) (wp_iload_n dX6_isWord_33 rfl (wn_caload dX6_isWord_34 (xsh hX sh_2) rfl (by omega) (by decide) hb ?_)))
    refine wp_is1 dX6_isWord_35 k5_19 q_X11_isSmall (by decide) (Nat.le_of_ble_eq_true rfl) (c_isSmall (by omega) d S) ?_
    refine wb_if_ne dX6_isWord_38 rfl (fun c38 => ?_) (fun c38 => ?_)
    · refine wp_iinc dX6_isWord_43 rfl (nI_1 _) ⟨Nat.le_of_ble_eq_true rfl, Or.inr rfl⟩ rfl (wp_goto dX6_isWord_46 rfl ?_)
      exact ih (i + 1) (by omega) (fun k hk => by
        rcases Nat.lt_or_ge k i with q | q
        · exact hall k q
        · rw [show k = i by omega]; exact c38)
    · exact wp_iconst (v := nI 0) dX6_isWord_41 rfl (wb_ret dX6_isWord_42 rfl (xB_of_f (decide_eq_false (fun q => by rw [q i (by omega)] at c38; cases c38))) ⟨rfl, rfl⟩)
/-- a tape that is one WORD -/
def xisW (n : Nat) (t : Nat → Nat) : Bool := decide (1 ≤ n ∧ n ≤ 12 ∧ ∀ k, k < n → xsm (t k) = true)
theorem c_isWord {S : xS} {n : Nat} {t : Nat → Nat} (hX : XC S) (hT : xTb S n t) (d : Nat) : xcall false (d + 1) j_X6_isWord [.ref 1, .int (nI n)] S (some (.int (xB (xisW n t)))) S := by
  refine xcall_intro (ls := [.ref 1, .int (nI n), .float 0]) q_X6_isWord (by decide) rfl (Nat.le_of_ble_eq_true rfl) rfl ?_
  have h0 := hT.1
  refine wp_iload_n dX6_isWord_0 rfl (wp_iconst (v := nI 1) dX6_isWord_1 rfl ?_)
  refine wn_icmp_lt dX6_isWord_2 rfl (by omega) (by omega) (fun c2 => ?_) (fun c2 => ?_)
  · exact wp_iconst (v := nI 0) dX6_isWord_11 rfl (wb_ret dX6_isWord_12 rfl (xB_of_f (decide_eq_false (by omega))) ⟨rfl, rfl⟩)
  · refine wp_iload_n dX6_isWord_5 rfl (wp_bipush (v := nI 12) dX6_isWord_6 rfl ?_)
    refine wn_icmp_le dX6_isWord_8 rfl (by omega) (by omega) (fun c8 => ?_) (fun c8 => ?_)
    · refine wp_iconst (v := nI 0) dX6_isWord_13 rfl (wp_istore_n dX6_isWord_14 ⟨Nat.le_of_ble_eq_true rfl, Or.inr rfl⟩ rfl ?_)
      refine (isWord_loop hX hT d n 0 (by omega) (fun k hk => absurd hk (Nat.not_lt_zero k))).mono ?_
      rintro r S' ⟨rfl, rfl⟩
      refine ⟨?_, rfl⟩
      congr 3
      unfold xisW
      apply decide_eq_decide.mpr
      exact ⟨fun q => ⟨c2, c8, q⟩, fun q => q.2.2⟩
    · exact wp_iconst (v := nI 0) dX6_isWord_11 rfl (wb_ret dX6_isWord_12 rfl (xB_of_f (decide_eq_false (by omega))) ⟨rfl, rfl⟩)
theorem isBelow_loop {S : xS} {n b : Nat} {t : Nat → Nat} (hX : XC S) (hT : xTb S n t) (hb : b < 2 ^ 31) (d : Nat) : ∀ (j i : Nat), i + j = n → (∀ k, k < i → t k < b) →
    Wp false d 5 cX6_isBelow (some .boolean) false 2 [.ref 1, .int (nI n), .int (nI b), .int (nI i)] [] S (fun r S' => r = some (.int (xB (decide (∀ k, k < n → t k < b)))) ∧ S' = S) := by
  intro j
  induction j with
  | zero =>
    intro i hi hall
    refine wp_iload_n dX6_isBelow_2 rfl (wp_iload_n dX6_isBelow_3 rfl ?_)
    refine wn_icmp_ge dX6_isBelow_4 rfl (by have := hT.1; omega) (by have := hT.1; omega) (fun c4 => ?_) (fun c4 => absurd c4 (by omega))
    exact wp_iconst (v := nI 1) dX6_isBelow_34 rfl (wb_ret dX6_isBelow_35 rfl (xB_of_t (decide_eq_true (fun k hk => hall k (by omega)))) ⟨rfl, rfl⟩)
  | succ j ih =>
    intro i hi hall
    obtain ⟨h0, hT2⟩ := hT
    obtain ⟨ht, hbt⟩ := hT2 i (by omega)
    refine wp_iload_n dX6_isBelow_2 rfl (wp_iload_n dX6_isBelow_3 rfl ?_)
    refine wn_icmp_ge dX6_isBelow_4 rfl (by omega) (by omega) (fun c4 => absurd c4 (by omega)) (fun c4 => ?_)
    refine wp_iload_n dX6_isBelow_7 rfl (wp_aload_n dX6_isBelow_8 rfl rfl (g5_9 dX6_isBelow_9 (xsh hX sh_1) (xrr hX r1_0) (wp_alen (v := nI 260) dX6_isBelow_12 (xsh hX sh_2) ⟨by decide, by decide⟩ rfl ?_)))
    refine wn_icmp_ge dX6_isBelow_13 rfl (by omega) (by omega) (fun c13 => absurd c13 (by omega)) (fun c13 => ?_)
    refine wp_aload_n dX6_isBelow_16 rfl rfl (g5_9 dX6_isBelow_17 (xsh hX sh_1) (xrr hX r1_0) (wp_iload_n dX6_isBelow_20 rfl (wn_caload dX6_isBelow_21 (xsh hX sh_2) rfl (by omega) (by decide) hbt (wp_iload_n dX6_isBelow_22 rfl ?_))))
    refine wn_icmp_lt dX6_isBelow_23 rfl (by omega) (by omega) (fun c23 => ?_) (fun c23 => ?_)
    · refine wp_iinc dX6_isBelow_28 rfl (nI_1 _) ⟨Nat.le_of_ble_eq_true rfl, Or.inr rfl⟩ rfl (wp_goto dX6_isBelow_31 rfl ?_)
      exact ih (i + 1) (by omega) (fun k hk => by
        rcases Nat.lt_or_ge k i with q | q
        · exact hall k q
        · rw [show k = i by omega]; exact c23)
    · exact wp_iconst (v := nI 0) dX6_isBelow_26 rfl (wb_ret dX6_isBelow_27 rfl (xB_of_f (decide_eq_false (fun q => by have := q i (by omega); omega))) ⟨rfl, rfl⟩)
theorem c_isBelow {S : xS} {n b : Nat} {t : Nat → Nat} (hX : XC S) (hT : xTb S n t) (hb : b < 2 ^ 31) (d : Nat) : xcall false d j_X6_isBelow [.ref 1, .int (nI n), .int (nI b)] S (some (.int (xB (decide (∀ k, k < n → t k < b))))) S := by
  refine xcall_intro (ls := [.ref 1, .int (nI n), .int (nI b), .float 0]) q_X6_isBelow (by decide) rfl (Nat.le_of_ble_eq_true rfl) rfl ?_
  exact wp_iconst (v := nI 0) dX6_isBelow_0 rfl (wp_istore_n dX6_isBelow_1 ⟨Nat.le_of_ble_eq_true rfl, Or.inr rfl⟩ rfl (isBelow_loop hX hT hb d n 0 (by omega) (fun k hk => absurd hk (Nat.not_lt_zero k))))
