/-! TOKENS of the class, the rest -/
theorem XC.SR {S : xS} (h : XC S) {a k : Nat} {v : Option Nat} (hn : xRT a k = none) : XC (xSR S a k v) := ⟨h.1, fun b j c hb => by
  show xu2 S.2.2.1 a k v b j = some c
  unfold xu2 va_up
  by_cases hba : b = a
  · rw [if_pos hba]
    by_cases hjk : j = k
    · subst hba; subst hjk; rw [hn] at hb; cases hb
    · rw [if_neg (fun e => hjk e), ← hba]; exact h.2 b j c hb
  · rw [if_neg hba]; exact h.2 b j c hb⟩
theorem xR_same (S : xS) (a k : Nat) (v : Option Nat) : (xSR S a k v).2.2.1 a k = v := by
  show xu2 S.2.2.1 a k v a k = v
  unfold xu2 va_up; rw [if_pos rfl, if_pos rfl]
theorem xR_ne (S : xS) {a k b j : Nat} (v : Option Nat) (h : b ≠ a ∨ j ≠ k) : (xSR S a k v).2.2.1 b j = S.2.2.1 b j := by
  show xu2 S.2.2.1 a k v b j = _
  unfold xu2 va_up
  by_cases hb : b = a
  · rw [if_pos hb]
    rcases h with h | h
    · exact absurd hb h
    · rw [if_neg h, hb]
  · rw [if_neg hb]
theorem xamt : ∀ r, r < 32 → ((nI r &&& 31).toBitVec.smod 32).toNat = r := by decide
theorem xshr {s r : Nat} (hs : s < 2 ^ 31) (hr : r < 32) : nI s >>> (nI r &&& 31) = nI (s / 2 ^ r) := pk_shrN hs (nI r &&& 31) r (xamt r hr)
theorem xshl {s r : Nat} (hr : r < 32) (h : s * 2 ^ r < 2 ^ 32) : nI s <<< (nI r &&& 31) = nI (s * 2 ^ r) := pk_shlN (nI r &&& 31) r (xamt r hr) h
/-- a bit of a number -/
theorem xbit (s r : Nat) (hs : s < 2 ^ 31) (hr : r < 31) : (nI s >>> (nI r &&& 31)) &&& 1 = xB (s.testBit r) := by
  rw [pk_shrN hs (nI r &&& 31) r (xamt r (by omega))]
  have e3 := fa_mask (s / 2 ^ r) 1
  rw [show nI (2 ^ 1 - 1) = (1 : Int32) from rfl] at e3
  rw [e3, Nat.pow_one, Nat.testBit_eq_decide_div_mod_eq]
  unfold xB
  rcases Nat.mod_two_eq_zero_or_one (s / 2 ^ r) with h | h
  · rw [h]; rfl
  · rw [h]; rfl
theorem c_refuse (w : Nat) (d : Nat) {S : xS} (hX : XC S) : xcall false d j_X7_refuse [.ref 3, .int (nI w)] S (some (.int (xB false))) (xSI S 3 5 (nI w)) := by
  refine xcall_intro (ls := [.ref 3, .int (nI w)]) q_X7_refuse (by decide) rfl (Nat.le_of_ble_eq_true rfl) rfl ?_
  exact wp_aload_n dX7_refuse_0 rfl rfl (wp_iload_n dX7_refuse_1 rfl (p6_28 dX7_refuse_2 (xsh hX sh_3) (wp_iconst (v := nI 0) dX7_refuse_5 rfl (wb_ret dX7_refuse_6 rfl rfl ⟨rfl, rfl⟩))))
theorem c_refuseHere (d : Nat) {S : xS} {k : Nat} (hX : XC S) (hk : S.2.1 3 4 = nI k) (hk4 : k ≤ 4) : xcall false (d + 1) j_X7_refuseHere [.ref 3] S (some (.int (xB false))) (xSI S 3 5 (nI (if k = 4 then 1 else 2))) := by
  refine xcall_intro (ls := [.ref 3]) q_X7_refuseHere (by decide) rfl (Nat.le_of_ble_eq_true rfl) rfl ?_
  refine wp_aload_n dX7_refuseHere_0 rfl rfl (wp_aload_n dX7_refuseHere_1 rfl rfl (gv6_47 dX7_refuseHere_2 (xsh hX sh_3) hk (wp_iconst (v := nI 4) dX7_refuseHere_5 rfl ?_)))
  refine wn_icmp_ne dX7_refuseHere_6 rfl (by omega) (by omega) (fun c6 => ?_) (fun c6 => ?_)
  · exact wp_iconst (v := nI 2) dX7_refuseHere_13 rfl (wp_iv2 dX7_refuseHere_14 k6_66 q_X7_refuse (by decide) (xsh hX sh_3) (by decide) (Nat.le_of_ble_eq_true rfl) (c_refuse _ d hX) (wb_ret dX7_refuseHere_17 rfl rfl ⟨rfl, by rw [if_neg c6]⟩))
  · exact wp_iconst (v := nI 1) dX7_refuseHere_9 rfl (wp_goto dX7_refuseHere_10 rfl (wp_iv2 dX7_refuseHere_14 k6_66 q_X7_refuse (by decide) (xsh hX sh_3) (by decide) (Nat.le_of_ble_eq_true rfl) (c_refuse _ d hX) (wb_ret dX7_refuseHere_17 rfl rfl ⟨rfl, by rw [if_pos c6]⟩)))
theorem c_size (d : Nat) {S : xS} {a b : Nat} (hX : XC S) (ha : S.2.1 3 2 = nI a) (hb : S.2.1 3 3 = nI b) (hab : a ≤ b) : xcall false d j_X7_size [.ref 3] S (some (.int (nI (b - a)))) S := by
  refine xcall_intro (ls := [.ref 3]) q_X7_size (by decide) rfl (Nat.le_of_ble_eq_true rfl) rfl ?_
  exact wp_aload_n dX7_size_0 rfl rfl (gv6_25 dX7_size_1 (xsh hX sh_3) hb (wp_aload_n dX7_size_4 rfl rfl (gv6_34 dX7_size_5 (xsh hX sh_3) ha (wv_isub dX7_size_8 (pk_sub (by omega)) (wp_ireturn dX7_size_9 rfl rfl ⟨rfl, rfl⟩)))))
theorem c_digit (d : Nat) {S : xS} {n k a : Nat} {t : Nat → Nat} (hX : XC S) (hT : xTx S n t) (hk : S.2.1 3 4 = nI k) (hk4 : k ≤ 4) (ha : S.2.1 3 2 = nI a) (han : k = 2 → a < n ∧ 48 ≤ t a) : xcall false d j_X7_digit [.ref 3] S (some (.int (if k = 2 then nI (t a - 48) else -1))) S := by
  obtain ⟨hr, hn, hle, hb⟩ := hT
  refine xcall_intro (ls := [.ref 3]) q_X7_digit (by decide) rfl (Nat.le_of_ble_eq_true rfl) rfl ?_
  refine wp_aload_n dX7_digit_0 rfl rfl (gv6_47 dX7_digit_1 (xsh hX sh_3) hk (wp_iconst (v := nI 2) dX7_digit_4 rfl ?_))
  refine wn_icmp_ne dX7_digit_5 rfl (by omega) (by omega) (fun c5 => ?_) (fun c5 => ?_)
  · rw [if_neg c5]
    exact wp_iconst (v := -1) dX7_digit_35 rfl (wp_ireturn dX7_digit_36 rfl rfl ⟨rfl, rfl⟩)
  · rw [if_pos c5]
    obtain ⟨h1, h2⟩ := han c5
    obtain ⟨h3, h4⟩ := hb a h1
    refine wp_aload_n dX7_digit_8 rfl rfl (gv6_34 dX7_digit_9 (xsh hX sh_3) ha (wp_aload_n dX7_digit_12 rfl rfl (g6_9 dX7_digit_13 (xsh hX sh_3) hr (wp_alen (v := nI 260) dX7_digit_16 (xsh hX sh_2) ⟨by decide, by decide⟩ rfl ?_))))
    refine wn_icmp_ge dX7_digit_17 rfl (by omega) (by omega) (fun c17 => absurd c17 (by omega)) (fun c17 => ?_)
    exact wp_aload_n dX7_digit_20 rfl rfl (g6_9 dX7_digit_21 (xsh hX sh_3) hr (wp_aload_n dX7_digit_24 rfl rfl (gv6_34 dX7_digit_25 (xsh hX sh_3) ha (wn_caload dX7_digit_28 (xsh hX sh_2) rfl (by omega) (by decide) h4 (wp_bipush (v := nI 48) dX7_digit_29 rfl (wv_isub dX7_digit_31 (pk_sub (by omega)) (wp_goto dX7_digit_32 rfl (wp_ireturn dX7_digit_36 rfl rfl ⟨rfl, rfl⟩))))))))
theorem c_passStop (d : Nat) {S : xS} {n p : Nat} {t : Nat → Nat} (hX : XC S) (hT : xTx S n t) (hC : xTC S n t p) (hk : xtk t n p = 3) : ∃ S', xcall false (d + 2) j_X7_passStop [.ref 3] S (some (.int (xB true))) S' ∧ xFl (fun a k => a = 3 ∧ (k = 2 ∨ k = 3 ∨ k = 4)) S S' ∧ xTC S' n t (xta t n p) := by
  obtain ⟨hp, h2, h3, h4⟩ := hC
  rw [hk] at h4
  obtain ⟨S1, g1, f1, t1⟩ := c_step d hX hT h3 (xta_b t hp).2.1
  refine ⟨S1, ?_, f1, t1⟩
  refine xcall_intro (ls := [.ref 3]) q_X7_passStop (by decide) rfl (Nat.le_of_ble_eq_true rfl) rfl ?_
  refine wp_aload_n dX7_passStop_0 rfl rfl (gv6_47 dX7_passStop_1 (xsh hX sh_3) h4 (wp_iconst (v := nI 3) dX7_passStop_4 rfl ?_))
  refine wn_icmp_eq dX7_passStop_5 rfl (by omega) (by omega) (fun c5 => ?_) (fun c5 => absurd c5 (by omega))
  exact wp_aload_n dX7_passStop_13 rfl rfl (wp_iv1 dX7_passStop_14 k6_31 q_X7_step (by decide) (xsh hX sh_3) (by decide) (Nat.le_of_ble_eq_true rfl) g1 (wp_iconst (v := nI 1) dX7_passStop_17 rfl (wb_ret dX7_passStop_18 rfl rfl ⟨rfl, rfl⟩)))
theorem c_passStop_no (d : Nat) {S : xS} {n p : Nat} {t : Nat → Nat} (hX : XC S) (hC : xTC S n t p) (hk : xtk t n p ≠ 3) : xcall false (d + 2) j_X7_passStop [.ref 3] S (some (.int (xB false))) (xSI S 3 5 (nI (if xtk t n p = 4 then 1 else 2))) := by
  obtain ⟨hp, h2, h3, h4⟩ := hC
  have b4 := xtk_b t n p
  refine xcall_intro (ls := [.ref 3]) q_X7_passStop (by decide) rfl (Nat.le_of_ble_eq_true rfl) rfl ?_
  refine wp_aload_n dX7_passStop_0 rfl rfl (gv6_47 dX7_passStop_1 (xsh hX sh_3) h4 (wp_iconst (v := nI 3) dX7_passStop_4 rfl ?_))
  refine wn_icmp_eq dX7_passStop_5 rfl (by omega) (by omega) (fun c5 => absurd c5 (by omega)) (fun c5 => ?_)
  exact wp_aload_n dX7_passStop_8 rfl rfl (wp_iv1 dX7_passStop_9 k6_70 q_X7_refuseHere (by decide) (xsh hX sh_3) (by decide) (Nat.le_of_ble_eq_true rfl) (c_refuseHere d hX h4 b4) (wb_ret dX7_passStop_12 rfl rfl ⟨rfl, rfl⟩))
theorem c_open (d : Nat) {S : xS} {n : Nat} {t : Nat → Nat} (hX : XC S) (hn : n ≤ 260) (hb : ∀ k, k < n → t k < 256 ∧ S.2.1 2 k = nI (t k)) : ∃ S', xcall false (d + 2) j_X7_open [.ref 3, .ref 2, .int (nI n)] S none S' ∧ xFl (fun a _ => a = 3) (xSR S 3 0 (some 2)) S' ∧ xTx S' n t ∧ xTC S' n t 0 ∧ S'.2.1 3 5 = nI 0 := by
  have X1 : XC (xSI (xSI (xSI (xSR S 3 0 (some 2)) 3 1 (nI n)) 3 3 (nI 0)) 3 5 (nI 0)) := hX.SR rfl
  have F1 : xFl (fun a _ => a = 3) (xSR S 3 0 (some 2)) (xSI (xSI (xSI (xSR S 3 0 (some 2)) 3 1 (nI n)) 3 3 (nI 0)) 3 5 (nI 0)) := (((xFl.rf (P := fun a _ => a = 3) (xSR S 3 0 (some 2))).SI (a := 3) (k := 1) rfl).SI (a := 3) (k := 3) rfl).SI (a := 3) (k := 5) rfl
  have T1 : xTx (xSI (xSI (xSI (xSR S 3 0 (some 2)) 3 1 (nI n)) 3 3 (nI 0)) 3 5 (nI 0)) n t := ⟨xR_same _ _ _ _, xi (xi (xI_same _ _ _ _) (Or.inr (by decide))) (Or.inr (by decide)), hn, fun k hk => ⟨(hb k hk).1, F1.i (hb k hk).2 (by decide)⟩⟩
  obtain ⟨S1, g1, f1, t1⟩ := c_step d X1 T1 (xi (xI_same _ _ _ _) (Or.inr (by decide))) (Nat.zero_le n)
  refine ⟨S1, ?_, F1.tt (f1.mono (fun a k h => h.1)), T1.fr f1 (by decide) (fun k => by omega), t1, f1.i (xI_same _ _ _ _) (by decide)⟩
  refine xcall_intro (ls := [.ref 3, .ref 2, .int (nI n)]) q_X7_open (by decide) rfl (Nat.le_of_ble_eq_true rfl) rfl ?_
  exact wp_aload_n dX7_open_0 rfl rfl (wp_aload_n dX7_open_1 rfl rfl (p6_9 dX7_open_2 (xsh hX sh_3) (wp_aload_n dX7_open_5 rfl rfl (wp_iload_n dX7_open_6 rfl (wp_aload_n dX7_open_7 rfl rfl (wp_alen (v := nI 260) dX7_open_8 (xsh (hX.SR rfl) sh_2) ⟨by decide, by decide⟩ rfl (wn_min dX7_open_9 k6_15 (Nat.le_of_ble_eq_true rfl) (by omega) (by omega) (Nat.min_eq_left hn) (p6_21 dX7_open_12 (xsh (hX.SR rfl) sh_3) (wp_aload_n dX7_open_15 rfl rfl (wp_iconst (v := nI 0) dX7_open_16 rfl (p6_25 dX7_open_17 (xsh (hX.SR rfl) sh_3) (wp_aload_n dX7_open_20 rfl rfl (wp_iconst (v := nI 0) dX7_open_21 rfl (p6_28 dX7_open_22 (xsh (hX.SR rfl) sh_3) (wp_aload_n dX7_open_25 rfl rfl (wp_iv1 dX7_open_26 k6_31 q_X7_step (by decide) (xsh (hX.SR rfl) sh_3) (by decide) (Nat.le_of_ble_eq_true rfl) g1 (wp_return dX7_open_29 rfl ⟨rfl, rfl⟩)))))))))))))))))
theorem xStr_all : ∀ q, q < 9 → ((xStr q).length < 1000 ∧ ∀ x ∈ xStr q, x < 256) := by decide
theorem xStr_lt (q : Nat) (hq : q < 9) (i : Nat) : (xStr q).getD i 0 < 256 := by
  rw [List.getD_eq_getElem?_getD]
  rcases h : (xStr q)[i]? with _ | x
  · exact by decide
  · exact (xStr_all q hq).2 x (List.mem_of_getElem? h)
/-- does the TOKEN spell the row's places a to b -/
def xspf (L : List Nat) (t : Nat → Nat) (s z a b : Nat) : Bool := decide (b - a = z ∧ ∀ k, k < z → L.getD (a + k) 0 = t (s + k))
def xpkf (L : List Nat) (f : Nat → Nat → Bool) : Nat → Nat → Nat → Nat → Int32
  | 0, _, _, _ => -1
  | j + 1, i, x, m => if i = L.length ∨ L.getD i 0 = 32 then (if f m i = true then nI x else xpkf L f j (i + 1) (x + 1) (i + 1)) else xpkf L f j (i + 1) x m
theorem spells_loop {S : xS} {n s e a b q : Nat} {t : Nat → Nat} (hX : XC S) (hT : xTx S n t) (hs : S.2.1 3 2 = nI s) (he : S.2.1 3 3 = nI e) (hse : s ≤ e) (hen : e ≤ n) (hq : q < 9) (hL : (xStr q).length < 1000) (hab : a + (e - s) ≤ (xStr q).length) (d : Nat) : ∀ (j i : Nat), i + j = e - s → (∀ k, k < i → (xStr q).getD (a + k) 0 = t (s + k)) → Wp false (d + 1) 6 cX7_spells (some .boolean) false 15 [.ref 3, .retAddr q, .int (nI a), .int (nI b), .int (nI i)] [] S (fun r S' => r = some (.int (xB (decide (∀ k, k < e - s → (xStr q).getD (a + k) 0 = t (s + k))))) ∧ S' = S) := by
  obtain ⟨hr, hn, hle, hb⟩ := hT
  intro j
  induction j with
  | zero =>
    intro i hi hall
    refine wp_iload dX7_spells_15 rfl (wp_aload_n dX7_spells_17 rfl rfl (wp_iv1 dX7_spells_18 k6_63 q_X7_size (by decide) (xsh hX sh_3) (by decide) (Nat.le_of_ble_eq_true rfl) (c_size d hX hs he hse) ?_))
    refine wn_icmp_ge dX7_spells_21 rfl (by omega) (by omega) (fun c21 => ?_) (fun c21 => absurd c21 (by omega))
    exact wp_iconst (v := nI 1) dX7_spells_55 rfl (wb_ret dX7_spells_56 rfl (xB_of_t (decide_eq_true (fun k hk => hall k (by omega)))) ⟨rfl, rfl⟩)
  | succ j ih =>
    intro i hi hall
    obtain ⟨h1, h2⟩ := hb (s + i) (by omega)
    have hc := xStr_lt q hq (a + i)
    refine wp_iload dX7_spells_15 rfl (wp_aload_n dX7_spells_17 rfl rfl (wp_iv1 dX7_spells_18 k6_63 q_X7_size (by decide) (xsh hX sh_3) (by decide) (Nat.le_of_ble_eq_true rfl) (c_size d hX hs he hse) ?_))
    refine wn_icmp_ge dX7_spells_21 rfl (by omega) (by omega) (fun c21 => absurd c21 (by omega)) (fun c21 => ?_)
    refine wp_aload_n dX7_spells_24 rfl rfl (wp_iload_n dX7_spells_25 rfl (wp_iload dX7_spells_26 rfl (wv_iadd dX7_spells_28 (nI_add _ _) (wp_schar dX7_spells_29 k6_55 ⟨by omega, Nat.le_of_ble_eq_true rfl⟩ (vp_in_nI (show a + i < (xStr q).length by omega) (by omega)) (show Int32.ofNat _ = nI ((xStr q).getD (a + i) 0) by rw [nI_clamp (by omega)]; rfl) (wp_aload_n dX7_spells_32 rfl rfl (g6_9 dX7_spells_33 (xsh hX sh_3) hr (wp_aload_n dX7_spells_36 rfl rfl (gv6_34 dX7_spells_37 (xsh hX sh_3) hs (wp_iload dX7_spells_40 rfl (wv_iadd dX7_spells_42 (nI_add _ _) (wn_caload dX7_spells_43 (xsh hX sh_2) rfl (by omega) (by decide) h2 ?_)))))))))))
    refine wn_icmp_eq dX7_spells_44 rfl (by omega) (by omega) (fun c44 => ?_) (fun c44 => ?_)
    · exact wp_iinc dX7_spells_49 rfl (nI_1 _) ⟨Nat.le_of_ble_eq_true rfl, Or.inr rfl⟩ rfl (wp_goto dX7_spells_52 rfl (ih (i + 1) (by omega) (fun k hk => by
        rcases Nat.lt_or_ge k i with w | w
        · exact hall k w
        · rw [show k = i by omega]; exact c44)))
    · exact wp_iconst (v := nI 0) dX7_spells_47 rfl (wb_ret dX7_spells_48 rfl (xB_of_f (decide_eq_false (fun w => c44 (w i (by omega))))) ⟨rfl, rfl⟩)
theorem c_spells {S : xS} {n s e a b q : Nat} {t : Nat → Nat} (hX : XC S) (hT : xTx S n t) (hs : S.2.1 3 2 = nI s) (he : S.2.1 3 3 = nI e) (hse : s ≤ e) (hen : e ≤ n) (hq : q < 9) (hL : (xStr q).length < 1000) (hab : a ≤ b) (hbL : b ≤ (xStr q).length) (d : Nat) : xcall false (d + 1) j_X7_spells [.ref 3, .retAddr q, .int (nI a), .int (nI b)] S (some (.int (xB (xspf (xStr q) t s (e - s) a b)))) S := by
  have hle := hT.2.2.1
  refine xcall_intro (ls := [.ref 3, .retAddr q, .int (nI a), .int (nI b), .float 0]) q_X7_spells (by decide) rfl (Nat.le_of_ble_eq_true rfl) rfl ?_
  refine wp_iload_n dX7_spells_0 rfl (wp_iload_n dX7_spells_1 rfl (wv_isub dX7_spells_2 (pk_sub (by omega)) (wp_aload_n dX7_spells_3 rfl rfl (wp_iv1 dX7_spells_4 k6_63 q_X7_size (by decide) (xsh hX sh_3) (by decide) (Nat.le_of_ble_eq_true rfl) (c_size d hX hs he hse) ?_))))
  refine wn_icmp_eq dX7_spells_7 rfl (by omega) (by omega) (fun c7 => ?_) (fun c7 => ?_)
  · refine wp_iconst (v := nI 0) dX7_spells_12 rfl (wp_istore dX7_spells_13 ⟨Nat.le_of_ble_eq_true rfl, Or.inr rfl⟩ rfl ?_)
    refine (spells_loop hX hT hs he hse hen hq hL (by omega) d (e - s) 0 (by omega) (fun k hk => absurd hk (Nat.not_lt_zero k))).mono ?_
    rintro r S' ⟨rfl, rfl⟩
    refine ⟨?_, rfl⟩
    congr 3
    unfold xspf
    exact decide_eq_decide.mpr ⟨fun w => ⟨c7, w⟩, fun w => w.2⟩
  · exact wp_iconst (v := nI 0) dX7_spells_10 rfl (wb_ret dX7_spells_11 rfl (xB_of_f (decide_eq_false (fun w => c7 w.1))) ⟨rfl, rfl⟩)
theorem pick_loop {S : xS} {n s e q : Nat} {t : Nat → Nat} (hX : XC S) (hT : xTx S n t) (hs : S.2.1 3 2 = nI s) (he : S.2.1 3 3 = nI e) (hse : s ≤ e) (hen : e ≤ n) (hq : q < 9) (hL : (xStr q).length < 1000) (d : Nat) : ∀ (j i x m : Nat), i + j = (xStr q).length + 1 → x ≤ i → m ≤ i → Wp false (d + 2) 6 cX7_pick (some .int) false 17 [.ref 3, .retAddr q, .int (nI x), .int (nI m), .int (nI i)] [] S (fun r S' => r = some (.int (xpkf (xStr q) (xspf (xStr q) t s (e - s)) j i x m)) ∧ S' = S) := by
  intro j
  induction j with
  | zero =>
    intro i x m hi hx hm
    refine wp_iload dX7_pick_17 rfl (wp_aload_n dX7_pick_19 rfl rfl (wp_slen dX7_pick_20 k6_50 ⟨by omega, Nat.le_of_ble_eq_true rfl⟩ rfl ?_))
    refine wn_icmp_gt dX7_pick_23 rfl (by omega) (by omega) (fun c23 => ?_) (fun c23 => absurd c23 (by omega))
    exact wp_iconst (v := -1) dX7_pick_73 rfl (wp_ireturn dX7_pick_74 rfl rfl ⟨rfl, rfl⟩)
  | succ j ih =>
    intro i x m hi hx hm
    have t46 (hc : i = (xStr q).length ∨ (xStr q).getD i 0 = 32) : Wp false (d + 2) 6 cX7_pick (some .int) false 46 [.ref 3, .retAddr q, .int (nI x), .int (nI m), .int (nI i)] [] S (fun r S' => r = some (.int (xpkf (xStr q) (xspf (xStr q) t s (e - s)) (j + 1) i x m)) ∧ S' = S) := by
      unfold xpkf
      rw [if_pos hc]
      refine wp_aload_n dX7_pick_46 rfl rfl (wp_aload_n dX7_pick_47 rfl rfl (wp_iload_n dX7_pick_48 rfl (wp_iload dX7_pick_49 rfl (wp_iv4 dX7_pick_51 k6_59 q_X7_spells (by decide) (xsh hX sh_3) (by decide) (Nat.le_of_ble_eq_true rfl) (c_spells hX hT hs he hse hen hq hL hm (by omega) d) ?_))))
      refine wb_if_eq dX7_pick_54 rfl (fun c54 => ?_) (fun c54 => ?_)
      · refine wp_iinc dX7_pick_59 rfl (nI_1 _) ⟨Nat.le_of_ble_eq_true rfl, Or.inr rfl⟩ rfl (wp_iload dX7_pick_62 rfl (wp_iconst (v := nI 1) dX7_pick_64 rfl (wv_iadd dX7_pick_65 (nI_add _ _) (wp_istore_n dX7_pick_66 ⟨Nat.le_of_ble_eq_true rfl, Or.inr rfl⟩ rfl (wp_iinc dX7_pick_67 rfl (nI_1 _) ⟨Nat.le_of_ble_eq_true rfl, Or.inr rfl⟩ rfl (wp_goto dX7_pick_70 rfl ?_))))))
        rw [if_neg (by rw [c54]; decide)]
        exact ih (i + 1) (x + 1) (i + 1) (by omega) (by omega) (by omega)
      · exact wp_iload_n dX7_pick_57 rfl (wp_ireturn dX7_pick_58 rfl rfl ⟨by rw [if_pos c54], rfl⟩)
    have hc := xStr_lt q hq i
    refine wp_iload dX7_pick_17 rfl (wp_aload_n dX7_pick_19 rfl rfl (wp_slen dX7_pick_20 k6_50 ⟨by omega, Nat.le_of_ble_eq_true rfl⟩ rfl ?_))
    refine wn_icmp_gt dX7_pick_23 rfl (by omega) (by omega) (fun c23 => absurd c23 (by omega)) (fun c23 => ?_)
    refine wp_iload dX7_pick_26 rfl (wp_aload_n dX7_pick_28 rfl rfl (wp_slen dX7_pick_29 k6_50 ⟨by omega, Nat.le_of_ble_eq_true rfl⟩ rfl ?_))
    refine wn_icmp_eq dX7_pick_32 rfl (by omega) (by omega) (fun c32 => ?_) (fun c32 => ?_)
    · exact t46 (Or.inl c32)
    · refine wp_aload_n dX7_pick_35 rfl rfl (wp_iload dX7_pick_36 rfl (wp_schar dX7_pick_38 k6_55 ⟨by omega, Nat.le_of_ble_eq_true rfl⟩ (vp_in_nI (show i < (xStr q).length by omega) (by omega)) (show Int32.ofNat _ = nI ((xStr q).getD i 0) by rw [nI_clamp (by omega)]; rfl) (wp_bipush (v := nI 32) dX7_pick_41 rfl ?_)))
      refine wn_icmp_ne dX7_pick_43 rfl (by omega) (by omega) (fun c43 => ?_) (fun c43 => ?_)
      · refine wp_iinc dX7_pick_67 rfl (nI_1 _) ⟨Nat.le_of_ble_eq_true rfl, Or.inr rfl⟩ rfl (wp_goto dX7_pick_70 rfl ?_)
        unfold xpkf
        rw [if_neg (by omega)]
        exact ih (i + 1) x m (by omega) (by omega) (by omega)
      · exact t46 (Or.inr c43)
/-- which of the row's words the TOKEN behind p is, as the class tells it -/
def xpick (q : Nat) (n : Nat) (t : Nat → Nat) (p : Nat) : Int32 := if xtk t n p = 1 then xpkf (xStr q) (xspf (xStr q) t (xts t n p) (xta t n p - xts t n p)) ((xStr q).length + 1) 0 0 0 else -1
theorem c_pick {S : xS} {n p q : Nat} {t : Nat → Nat} (hX : XC S) (hT : xTx S n t) (hC : xTC S n t p) (hq : q < 9) (hL : (xStr q).length < 1000) (d : Nat) : xcall false (d + 2) j_X7_pick [.ref 3, .retAddr q] S (some (.int (xpick q n t p))) S := by
  obtain ⟨hp, h2, h3, h4⟩ := hC
  have b4 := xtk_b t n p
  have ba := xta_b t hp
  unfold xpick
  refine xcall_intro (ls := [.ref 3, .retAddr q, .float 0, .float 0, .float 0]) q_X7_pick (by decide) rfl (Nat.le_of_ble_eq_true rfl) rfl ?_
  refine wp_aload_n dX7_pick_0 rfl rfl (gv6_47 dX7_pick_1 (xsh hX sh_3) h4 (wp_iconst (v := nI 1) dX7_pick_4 rfl ?_))
  refine wn_icmp_eq dX7_pick_5 rfl (by omega) (by omega) (fun c5 => ?_) (fun c5 => ?_)
  · refine wp_iconst (v := nI 0) dX7_pick_10 rfl (wp_istore_n dX7_pick_11 ⟨Nat.le_of_ble_eq_true rfl, Or.inr rfl⟩ rfl (wp_iconst (v := nI 0) dX7_pick_12 rfl (wp_istore_n dX7_pick_13 ⟨Nat.le_of_ble_eq_true rfl, Or.inr rfl⟩ rfl (wp_iconst (v := nI 0) dX7_pick_14 rfl (wp_istore dX7_pick_15 ⟨Nat.le_of_ble_eq_true rfl, Or.inr rfl⟩ rfl ?_)))))
    rw [if_pos c5]
    exact pick_loop hX hT h2 h3 ba.1 ba.2.1 hq hL d ((xStr q).length + 1) 0 0 0 (by omega) (by omega) (by omega)
  · exact wp_iconst (v := -1) dX7_pick_8 rfl (wp_ireturn dX7_pick_9 rfl rfl ⟨by rw [if_neg c5], rfl⟩)
theorem c_passRule_no (d : Nat) {S : xS} {n p q seen : Nat} {t : Nat → Nat} (hX : XC S) (hT : xTx S n t) (hC : xTC S n t p) (hq : q < 9) (hs : seen < 2 ^ 31) (hk : xpick q n t p = -1) : xcall false (d + 3) j_X7_passRule [.ref 3, .retAddr q, .int (nI seen)] S (some (.int (-1))) (xSI S 3 5 (nI (if xtk t n p = 4 then 1 else 2))) := by
  have hC0 := hC
  obtain ⟨hp, h2, h3, h4⟩ := hC
  have b4 := xtk_b t n p
  have hL := (xStr_all q hq).1
  have g0 := c_pick hX hT hC0 hq hL d
  rw [hk] at g0
  refine xcall_intro (ls := [.ref 3, .retAddr q, .int (nI seen), .float 0]) q_X7_passRule (by decide) rfl (Nat.le_of_ble_eq_true rfl) rfl ?_
  refine wp_aload_n dX7_passRule_0 rfl rfl (wp_aload_n dX7_passRule_1 rfl rfl (wp_iv2 dX7_passRule_2 k6_74 q_X7_pick (by decide) (xsh hX sh_3) (by decide) (Nat.le_of_ble_eq_true rfl) g0 (wp_istore_n dX7_passRule_5 ⟨Nat.le_of_ble_eq_true rfl, Or.inr rfl⟩ rfl (wp_iload_n dX7_passRule_6 rfl (wp_iconst (v := -1) dX7_passRule_7 rfl ?_)))))
  refine wp_icmp_ne dX7_passRule_8 rfl (fun c8 => absurd c8 (not_not_intro rfl)) (fun c8 => ?_)
  exact wp_aload_n dX7_passRule_11 rfl rfl (wp_iv1 dX7_passRule_12 k6_70 q_X7_refuseHere (by decide) (xsh hX sh_3) (by decide) (Nat.le_of_ble_eq_true rfl) (c_refuseHere (d + 1) hX h4 b4) (wp_pop dX7_passRule_15 rfl (wp_iconst (v := -1) dX7_passRule_16 rfl (wp_ireturn dX7_passRule_17 rfl rfl ⟨rfl, rfl⟩))))
theorem c_passRule_two (d : Nat) {S : xS} {n p q seen : Nat} {t : Nat → Nat} (hX : XC S) (hT : xTx S n t) (hC : xTC S n t p) (hq : q < 9) (hs : seen < 2 ^ 31) {r : Nat} (hr : r < 9) (hk : xpick q n t p = nI r) (hb : seen.testBit r = true) : xcall false (d + 3) j_X7_passRule [.ref 3, .retAddr q, .int (nI seen)] S (some (.int (-1))) (xSI S 3 5 (nI 4)) := by
  have hC0 := hC
  obtain ⟨hp, h2, h3, h4⟩ := hC
  have b4 := xtk_b t n p
  have hL := (xStr_all q hq).1
  have g0 := c_pick hX hT hC0 hq hL d
  rw [hk] at g0
  refine xcall_intro (ls := [.ref 3, .retAddr q, .int (nI seen), .float 0]) q_X7_passRule (by decide) rfl (Nat.le_of_ble_eq_true rfl) rfl ?_
  refine wp_aload_n dX7_passRule_0 rfl rfl (wp_aload_n dX7_passRule_1 rfl rfl (wp_iv2 dX7_passRule_2 k6_74 q_X7_pick (by decide) (xsh hX sh_3) (by decide) (Nat.le_of_ble_eq_true rfl) g0 (wp_istore_n dX7_passRule_5 ⟨Nat.le_of_ble_eq_true rfl, Or.inr rfl⟩ rfl (wp_iload_n dX7_passRule_6 rfl (wp_iconst (v := -1) dX7_passRule_7 rfl ?_)))))
  refine wp_icmp_ne dX7_passRule_8 rfl (fun c8 => ?_) (fun c8 => absurd c8 (nI_m1 (by omega)))
  refine wp_iload_n dX7_passRule_18 rfl (wp_iload_n dX7_passRule_19 rfl (wp_ishr dX7_passRule_20 (wp_iconst (v := nI 1) dX7_passRule_21 rfl (wv_iand dX7_passRule_22 (xbit seen r hs (by omega)) ?_))))
  refine wb_if_eq dX7_passRule_23 rfl (fun c23 => absurd c23 (by rw [hb]; decide)) (fun c23 => ?_)
  exact wp_aload_n dX7_passRule_26 rfl rfl (wp_iconst (v := nI 4) dX7_passRule_27 rfl (wp_iv2 dX7_passRule_28 k6_66 q_X7_refuse (by decide) (xsh hX sh_3) (by decide) (Nat.le_of_ble_eq_true rfl) (c_refuse 4 (d + 2) hX) (wp_pop dX7_passRule_31 rfl (wp_iconst (v := -1) dX7_passRule_32 rfl (wp_ireturn dX7_passRule_33 rfl rfl ⟨rfl, rfl⟩)))))
theorem c_passRule_ok (d : Nat) {S : xS} {n p q seen : Nat} {t : Nat → Nat} (hX : XC S) (hT : xTx S n t) (hC : xTC S n t p) (hq : q < 9) (hs : seen < 2 ^ 31) {r : Nat} (hr : r < 9) (hk : xpick q n t p = nI r) (hb : seen.testBit r = false) : ∃ S', xcall false (d + 3) j_X7_passRule [.ref 3, .retAddr q, .int (nI seen)] S (some (.int (nI r))) S' ∧ xFl (fun a k => a = 3 ∧ (k = 2 ∨ k = 3 ∨ k = 4)) S S' ∧ xTC S' n t (xta t n p) := by
  have hC0 := hC
  obtain ⟨hp, h2, h3, h4⟩ := hC
  have b4 := xtk_b t n p
  have hL := (xStr_all q hq).1
  have g0 := c_pick hX hT hC0 hq hL d
  rw [hk] at g0
  obtain ⟨S1, g1, f1, t1⟩ := c_step (d + 1) hX hT h3 (xta_b t hp).2.1
  refine ⟨S1, ?_, f1, t1⟩
  refine xcall_intro (ls := [.ref 3, .retAddr q, .int (nI seen), .float 0]) q_X7_passRule (by decide) rfl (Nat.le_of_ble_eq_true rfl) rfl ?_
  refine wp_aload_n dX7_passRule_0 rfl rfl (wp_aload_n dX7_passRule_1 rfl rfl (wp_iv2 dX7_passRule_2 k6_74 q_X7_pick (by decide) (xsh hX sh_3) (by decide) (Nat.le_of_ble_eq_true rfl) g0 (wp_istore_n dX7_passRule_5 ⟨Nat.le_of_ble_eq_true rfl, Or.inr rfl⟩ rfl (wp_iload_n dX7_passRule_6 rfl (wp_iconst (v := -1) dX7_passRule_7 rfl ?_)))))
  refine wp_icmp_ne dX7_passRule_8 rfl (fun c8 => ?_) (fun c8 => absurd c8 (nI_m1 (by omega)))
  refine wp_iload_n dX7_passRule_18 rfl (wp_iload_n dX7_passRule_19 rfl (wp_ishr dX7_passRule_20 (wp_iconst (v := nI 1) dX7_passRule_21 rfl (wv_iand dX7_passRule_22 (xbit seen r hs (by omega)) ?_))))
  refine wb_if_eq dX7_passRule_23 rfl (fun c23 => ?_) (fun c23 => absurd c23 (by rw [hb]; decide))
  exact wp_aload_n dX7_passRule_34 rfl rfl (wp_iv1 dX7_passRule_35 k6_31 q_X7_step (by decide) (xsh hX sh_3) (by decide) (Nat.le_of_ble_eq_true rfl) g1 (wp_iload_n dX7_passRule_38 rfl (wp_ireturn dX7_passRule_39 rfl rfl ⟨rfl, rfl⟩)))
