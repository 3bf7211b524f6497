/-! feed and end, on both sides -/
def xQ_four (n m : Nat) : Nat → Nat → Prop := fun a k => (a = 187 ∧ k = 2) ∨ (a = 188 ∧ n ≤ k ∧ k < m)
theorem four_loop (x : Int32) (d : Nat) : ∀ (j : Nat) (S : xS) (n : Nat), XC S → S.2.1 187 2 = nI n → n + j ≤ 260 → j ≤ 4 →
    Wp false d 11 cX12_four none false 3 [.ref 187, .int x, .int (nI (8 * j) - 8)] [] S (fun r S' => r = none ∧ xFr (xQ_four n (n + j)) S S' ∧ S'.2.1 187 2 = nI (n + j) ∧ ∀ i, i < j → S'.2.1 188 (n + i) = xby (xb x (8 * (j - 1 - i)))) := by
  intro j
  induction j with
  | zero =>
    intro S n hX hn hj hj4
    refine wp_iload_n dX12_four_3 rfl ?_
    refine wp_if_lt dX12_four_4 rfl (fun c4 => ?_) (fun c4 => absurd (by decide) c4)
    exact wp_return dX12_four_36 rfl ⟨rfl, xFr.rf S, hn, fun i hi => absurd hi (Nat.not_lt_zero i)⟩
  | succ j ih =>
    intro S n hX hn hj hj4
    have e8 : nI (8 * (j + 1)) - 8 = nI (8 * j) := by
      rw [show (8 : Int32) = nI 8 from rfl, pk_sub (by omega)]
      congr 1
    rw [e8]
    refine wp_iload_n dX12_four_3 rfl ?_
    refine wp_if_lt dX12_four_4 rfl (fun c4 => absurd c4 (nI_pos (by omega))) (fun c4 => ?_)
    refine wp_aload_n dX12_four_7 rfl rfl (g11_14 dX12_four_8 (xsh hX sh_187) (xrr hX r187_1) (wp_aload_n dX12_four_11 rfl rfl (gv11_7 dX12_four_12 (xsh hX sh_187) hn (wp_iload_n dX12_four_15 rfl (wp_iload_n dX12_four_16 rfl (wp_ishr dX12_four_17 (wv_i2b dX12_four_18 (xb_i2b x (8 * j)) ?_)))))))
    refine wn_bastore dX12_four_19 (xsh hX sh_188) rfl (show n < 260 by omega) (by decide) (xnb _) ?_
    have hX1 : XC (xSI S 188 n (xby (xb x (8 * j)))) := hX
    have hn1 : (xSI S 188 n (xby (xb x (8 * j)))).2.1 187 2 = nI n := by rw [xI_ne _ _ (Or.inl (by decide))]; exact hn
    refine wp_aload_n dX12_four_20 rfl rfl (wp_dup dX12_four_21 rfl (gv11_7 dX12_four_22 (xsh hX1 sh_187) hn1 (wp_iconst (v := 1) dX12_four_25 rfl (wv_iadd dX12_four_26 (nI_1 n) (p11_7 dX12_four_27 (xsh hX1 sh_187) ?_)))))
    refine wp_iinc dX12_four_30 rfl rfl ⟨Nat.le_of_ble_eq_true rfl, Or.inr rfl⟩ rfl (wp_goto dX12_four_33 rfl ?_)
    have e9 : nI (8 * j) + Int32.ofInt (-8) = nI (8 * j) - 8 := by rw [Int32.sub_eq_add_neg]; rfl
    refine wp_locals (ls' := [.ref 187, .int x, .int (nI (8 * j) - 8)]) (by rw [e9]; rfl) ?_
    refine (ih (xSI (xSI S 188 n (xby (xb x (8 * j)))) 187 2 (nI (n + 1))) (n + 1) hX (xI_same _ _ _ _) (by omega) (by omega)).mono ?_
    intro r S' ⟨h1, h2, h3, h4⟩
    refine ⟨h1, (((xFr.rf S).SI (P := xQ_four n (n + (j + 1))) (a := 188) (k := n) (Or.inr ⟨rfl, Nat.le_refl n, by omega⟩)).SI (a := 187) (k := 2) (Or.inl ⟨rfl, rfl⟩)).tr h2 |>.mono ?_, by rw [h3]; congr 1; omega, ?_⟩
    · intro a k hk
      unfold xQ_four at hk ⊢
      omega
    · intro i hi
      rcases Nat.eq_zero_or_pos i with h0 | h0
      · subst h0
        rw [Nat.add_zero, h2.2.2 188 n (by unfold xQ_four; omega), xI_ne _ _ (Or.inl (by decide)), xI_same]
        rfl
      · have := h4 (i - 1) (by omega)
        rw [show n + i = n + 1 + (i - 1) by omega, this]
        congr 3
        omega
theorem m_four (x : Int32) (d : Nat) {S : xS} {n : Nat} (hX : XC S) (hn : S.2.1 187 2 = nI n) (h : n + 4 ≤ 260) : ∃ S', xcall false d j_X12_four [.ref 187, .int x] S none S' ∧ xFr (xQ_four n (n + 4)) S S' ∧ S'.2.1 187 2 = nI (n + 4) ∧ ∀ i, i < 4 → S'.2.1 188 (n + i) = xby (xb x (8 * (3 - i))) := by
  obtain ⟨r, S', h1, h2, h3⟩ := xcall_some (al := false) (d := d) (ls := [.ref 187, .int x, .float 0]) (S := S) (as := [.ref 187, .int x]) q_X12_four (by decide) rfl (Nat.le_of_ble_eq_true rfl) rfl
    (P := fun r S' => r = none ∧ xFr (xQ_four n (n + 4)) S S' ∧ S'.2.1 187 2 = nI (n + 4) ∧ ∀ i, i < 4 → S'.2.1 188 (n + i) = xby (xb x (8 * (4 - 1 - i))))
    (wp_bipush (v := nI (8 * 4) - 8) dX12_four_0 (by decide) (wp_istore_n dX12_four_2 ⟨Nat.le_of_ble_eq_true rfl, Or.inr rfl⟩ rfl (four_loop x d 4 S n hX hn h (Nat.le_refl 4))))
  subst h2
  exact ⟨S', h1, h3⟩
/-- byte i of the twenty that are fed -/
def xfb (a b c d e : Int32) (i : Nat) : Nat := xb (if i < 4 then a else if i < 8 then b else if i < 12 then c else if i < 16 then d else e) (8 * (3 - i % 4))
theorem xfb_lt (a b c d e : Int32) (i : Nat) : xfb a b c d e i < 256 := xb_lt _ _
theorem c_feed (a b c dd e : Int32) (d : Nat) {S : xS} {n : Nat} (hX : XC S) (hn : S.2.1 1 1 = nI n) (hn2 : n ≤ 260) :
    (n + 20 ≤ 260 → ∃ S', xcall false (d + 1) j_X11_feed [.ref 0, .int a, .int b, .int c, .int dd, .int e] S (some (.int (nI (n + 20)))) S' ∧ xFr (xP_put n (n + 20)) S S' ∧ S'.2.1 1 1 = nI (n + 20) ∧ ∀ i, i < 20 → S'.2.1 2 (n + i) = nI (xfb a b c dd e i)) ∧
    (260 < n + 20 → xcall false (d + 1) j_X11_feed [.ref 0, .int a, .int b, .int c, .int dd, .int e] S (some (.int (-1))) S) := by
  refine ⟨fun hle => ?_, fun hgt => ?_⟩
  · obtain ⟨S1, g1, f1, n1, b1⟩ := c_put a d hX hn (by omega)
    have X1 := f1.XC hX
    obtain ⟨S2, g2, f2, n2, b2⟩ := c_put b d X1 n1 (by omega)
    have X2 := f2.XC X1
    obtain ⟨S3, g3, f3, n3, b3⟩ := c_put c d X2 n2 (by omega)
    have X3 := f3.XC X2
    obtain ⟨S4, g4, f4, n4, b4⟩ := c_put dd d X3 n3 (by omega)
    have X4 := f4.XC X3
    obtain ⟨S5, g5, f5, n5, b5⟩ := c_put e d X4 n4 (by omega)
    have X5 := f5.XC X4
    refine ⟨S5, ?_, ((((f1.tr f2).tr f3).tr f4).tr f5).mono (fun a k h => by unfold xP_put at h ⊢; omega), by rw [n5], ?_⟩
    · refine xcall_intro (ls := [.ref 0, .int a, .int b, .int c, .int dd, .int e]) q_X11_feed (by decide) rfl (Nat.le_of_ble_eq_true rfl) rfl ?_
      refine wp_aload_n dX11_feed_0 rfl rfl (g10_10 dX11_feed_1 (xsh hX sh_0) (xrr hX r0_0) (gv10_96 dX11_feed_4 (xsh hX sh_1) hn (wp_bipush (v := nI 20) dX11_feed_7 rfl (wv_iadd dX11_feed_9 (nI_add _ _) (wp_sipush (v := nI 260) dX11_feed_10 rfl ?_)))))
      refine wn_icmp_le dX11_feed_13 rfl (by omega) (by omega) (fun c13 => ?_) (fun c13 => absurd c13 (by omega))
      refine wp_aload_n dX11_feed_18 rfl rfl (g10_10 dX11_feed_19 (xsh hX sh_0) (xrr hX r0_0) (wp_iload_n dX11_feed_22 rfl ?_))
      refine wp_iv2 dX11_feed_23 k10_100 q_X6_put (by decide) (xsh hX sh_1) (by decide) (Nat.le_of_ble_eq_true rfl) g1 ?_
      refine wp_aload_n dX11_feed_26 rfl rfl (g10_10 dX11_feed_27 (xsh X1 sh_0) (xrr X1 r0_0) (wp_iload_n dX11_feed_30 rfl ?_))
      refine wp_iv2 dX11_feed_31 k10_100 q_X6_put (by decide) (xsh X1 sh_1) (by decide) (Nat.le_of_ble_eq_true rfl) g2 ?_
      refine wp_aload_n dX11_feed_34 rfl rfl (g10_10 dX11_feed_35 (xsh X2 sh_0) (xrr X2 r0_0) (wp_iload_n dX11_feed_38 rfl ?_))
      refine wp_iv2 dX11_feed_39 k10_100 q_X6_put (by decide) (xsh X2 sh_1) (by decide) (Nat.le_of_ble_eq_true rfl) g3 ?_
      refine wp_aload_n dX11_feed_42 rfl rfl (g10_10 dX11_feed_43 (xsh X3 sh_0) (xrr X3 r0_0) (wp_iload dX11_feed_46 rfl ?_))
      refine wp_iv2 dX11_feed_48 k10_100 q_X6_put (by decide) (xsh X3 sh_1) (by decide) (Nat.le_of_ble_eq_true rfl) g4 ?_
      refine wp_aload_n dX11_feed_51 rfl rfl (g10_10 dX11_feed_52 (xsh X4 sh_0) (xrr X4 r0_0) (wp_iload dX11_feed_55 rfl ?_))
      refine wp_iv2 dX11_feed_57 k10_100 q_X6_put (by decide) (xsh X4 sh_1) (by decide) (Nat.le_of_ble_eq_true rfl) g5 ?_
      exact wp_aload_n dX11_feed_60 rfl rfl (g10_10 dX11_feed_61 (xsh X5 sh_0) (xrr X5 r0_0) (gv10_96 dX11_feed_64 (xsh X5 sh_1) n5 (wp_ireturn dX11_feed_67 rfl rfl ⟨rfl, rfl⟩)))
    · intro i hi
      unfold xfb
      rcases (show i < 4 ∨ (4 ≤ i ∧ i < 8) ∨ (8 ≤ i ∧ i < 12) ∨ (12 ≤ i ∧ i < 16) ∨ (16 ≤ i ∧ i < 20) by omega) with h | h | h | h | h
      · rw [f5.2.2 _ _ (by unfold xP_put; omega), f4.2.2 _ _ (by unfold xP_put; omega), f3.2.2 _ _ (by unfold xP_put; omega), f2.2.2 _ _ (by unfold xP_put; omega), b1 i h, if_pos h, Nat.mod_eq_of_lt h]
      · rw [f5.2.2 _ _ (by unfold xP_put; omega), f4.2.2 _ _ (by unfold xP_put; omega), f3.2.2 _ _ (by unfold xP_put; omega), show n + i = n + 4 + (i - 4) by omega, b2 (i - 4) (by omega), if_neg (by omega), if_pos (by omega), show i % 4 = i - 4 by omega]
      · rw [f5.2.2 _ _ (by unfold xP_put; omega), f4.2.2 _ _ (by unfold xP_put; omega), show n + i = n + 4 + 4 + (i - 8) by omega, b3 (i - 8) (by omega), if_neg (by omega), if_neg (by omega), if_pos (by omega), show i % 4 = i - 8 by omega]
      · rw [f5.2.2 _ _ (by unfold xP_put; omega), show n + i = n + 4 + 4 + 4 + (i - 12) by omega, b4 (i - 12) (by omega), if_neg (by omega), if_neg (by omega), if_neg (by omega), if_pos (by omega), show i % 4 = i - 12 by omega]
      · rw [show n + i = n + 4 + 4 + 4 + 4 + (i - 16) by omega, b5 (i - 16) (by omega), if_neg (by omega), if_neg (by omega), if_neg (by omega), if_neg (by omega), show i % 4 = i - 16 by omega]
  · refine xcall_intro (ls := [.ref 0, .int a, .int b, .int c, .int dd, .int e]) q_X11_feed (by decide) rfl (Nat.le_of_ble_eq_true rfl) rfl ?_
    refine wp_aload_n dX11_feed_0 rfl rfl (g10_10 dX11_feed_1 (xsh hX sh_0) (xrr hX r0_0) (gv10_96 dX11_feed_4 (xsh hX sh_1) hn (wp_bipush (v := nI 20) dX11_feed_7 rfl (wv_iadd dX11_feed_9 (nI_add _ _) (wp_sipush (v := nI 260) dX11_feed_10 rfl ?_)))))
    refine wn_icmp_le dX11_feed_13 rfl (by omega) (by omega) (fun c13 => absurd c13 (by omega)) (fun c13 => ?_)
    exact wp_iconst (v := -1) dX11_feed_16 rfl (wp_ireturn dX11_feed_17 rfl rfl ⟨rfl, rfl⟩)
def xQ_feed (n m : Nat) : Nat → Nat → Prop := fun a k => (a = 187 ∧ (k = 2 ∨ k = 0)) ∨ (a = 188 ∧ n ≤ k ∧ k < m)
theorem m_feed (a b c dd e : Int32) (d : Nat) {S : xS} {n : Nat} (hX : XC S) (hn : S.2.1 187 2 = nI n) (hn2 : n ≤ 260) :
    (n + 20 ≤ 260 → ∃ S', xcall false (d + 1) j_X12_feed [.ref 187, .int a, .int b, .int c, .int dd, .int e] S (some (.int (nI (n + 20)))) S' ∧ xFr (xQ_feed n (n + 20)) S S' ∧ S'.2.1 187 2 = nI (n + 20) ∧ ∀ i, i < 20 → S'.2.1 188 (n + i) = xby (xfb a b c dd e i)) ∧
    (260 < n + 20 → xcall false (d + 1) j_X12_feed [.ref 187, .int a, .int b, .int c, .int dd, .int e] S (some (.int (-1))) (xSI S 187 0 (nI 0))) := by
  have hX0 : XC (xSI S 187 0 (nI 0)) := hX
  have hn0 : (xSI S 187 0 (nI 0)).2.1 187 2 = nI n := by rw [xI_ne _ _ (Or.inr (by decide))]; exact hn
  have f0 : xFr (xQ_feed n n) S (xSI S 187 0 (nI 0)) := (xFr.rf S).SI (Or.inl ⟨rfl, Or.inr rfl⟩)
  refine ⟨fun hle => ?_, fun hgt => ?_⟩
  · obtain ⟨S1, g1, f1, n1, b1⟩ := m_four a d hX0 hn0 (by omega)
    have X1 := f1.XC hX0
    obtain ⟨S2, g2, f2, n2, b2⟩ := m_four b d X1 n1 (by omega)
    have X2 := f2.XC X1
    obtain ⟨S3, g3, f3, n3, b3⟩ := m_four c d X2 n2 (by omega)
    have X3 := f3.XC X2
    obtain ⟨S4, g4, f4, n4, b4⟩ := m_four dd d X3 n3 (by omega)
    have X4 := f4.XC X3
    obtain ⟨S5, g5, f5, n5, b5⟩ := m_four e d X4 n4 (by omega)
    have X5 := f5.XC X4
    refine ⟨S5, ?_, (((((f0.tr f1).tr f2).tr f3).tr f4).tr f5).mono (fun a k h => by unfold xQ_four xQ_feed at h; unfold xQ_feed; omega), by rw [n5], ?_⟩
    · refine xcall_intro (ls := [.ref 187, .int a, .int b, .int c, .int dd, .int e]) q_X12_feed (by decide) rfl (Nat.le_of_ble_eq_true rfl) rfl ?_
      refine wp_aload_n dX12_feed_0 rfl rfl (wp_iconst (v := nI 0) dX12_feed_1 rfl (p11_1 dX12_feed_2 (xsh hX sh_187) (wp_aload_n dX12_feed_5 rfl rfl (gv11_7 dX12_feed_6 (xsh hX sh_187) hn0 (wp_bipush (v := nI 20) dX12_feed_9 rfl (wv_iadd dX12_feed_11 (nI_add _ _) (wp_sipush (v := nI 260) dX12_feed_12 rfl ?_)))))))
      refine wn_icmp_le dX12_feed_15 rfl (by omega) (by omega) (fun c15 => ?_) (fun c15 => absurd c15 (by omega))
      refine wp_aload_n dX12_feed_20 rfl rfl (wp_iload_n dX12_feed_21 rfl (wp_iv2 dX12_feed_22 k11_10 q_X12_four (by decide) (xsh hX0 sh_187) (by decide) (Nat.le_of_ble_eq_true rfl) g1 ?_))
      refine wp_aload_n dX12_feed_25 rfl rfl (wp_iload_n dX12_feed_26 rfl (wp_iv2 dX12_feed_27 k11_10 q_X12_four (by decide) (xsh X1 sh_187) (by decide) (Nat.le_of_ble_eq_true rfl) g2 ?_))
      refine wp_aload_n dX12_feed_30 rfl rfl (wp_iload_n dX12_feed_31 rfl (wp_iv2 dX12_feed_32 k11_10 q_X12_four (by decide) (xsh X2 sh_187) (by decide) (Nat.le_of_ble_eq_true rfl) g3 ?_))
      refine wp_aload_n dX12_feed_35 rfl rfl (wp_iload dX12_feed_36 rfl (wp_iv2 dX12_feed_38 k11_10 q_X12_four (by decide) (xsh X3 sh_187) (by decide) (Nat.le_of_ble_eq_true rfl) g4 ?_))
      refine wp_aload_n dX12_feed_41 rfl rfl (wp_iload dX12_feed_42 rfl (wp_iv2 dX12_feed_44 k11_10 q_X12_four (by decide) (xsh X4 sh_187) (by decide) (Nat.le_of_ble_eq_true rfl) g5 ?_))
      exact wp_aload_n dX12_feed_47 rfl rfl (gv11_7 dX12_feed_48 (xsh X5 sh_187) n5 (wp_ireturn dX12_feed_51 rfl rfl ⟨rfl, rfl⟩))
    · intro i hi
      unfold xfb
      rcases (show i < 4 ∨ (4 ≤ i ∧ i < 8) ∨ (8 ≤ i ∧ i < 12) ∨ (12 ≤ i ∧ i < 16) ∨ (16 ≤ i ∧ i < 20) by omega) with h | h | h | h | h
      · rw [f5.2.2 _ _ (by unfold xQ_four; omega), f4.2.2 _ _ (by unfold xQ_four; omega), f3.2.2 _ _ (by unfold xQ_four; omega), f2.2.2 _ _ (by unfold xQ_four; omega), b1 i h, if_pos h, Nat.mod_eq_of_lt h]
      · rw [f5.2.2 _ _ (by unfold xQ_four; omega), f4.2.2 _ _ (by unfold xQ_four; omega), f3.2.2 _ _ (by unfold xQ_four; omega), show n + i = n + 4 + (i - 4) by omega, b2 (i - 4) (by omega), if_neg (by omega), if_pos (by omega), show i % 4 = i - 4 by omega]
      · rw [f5.2.2 _ _ (by unfold xQ_four; omega), f4.2.2 _ _ (by unfold xQ_four; omega), show n + i = n + 4 + 4 + (i - 8) by omega, b3 (i - 8) (by omega), if_neg (by omega), if_neg (by omega), if_pos (by omega), show i % 4 = i - 8 by omega]
      · rw [f5.2.2 _ _ (by unfold xQ_four; omega), show n + i = n + 4 + 4 + 4 + (i - 12) by omega, b4 (i - 12) (by omega), if_neg (by omega), if_neg (by omega), if_neg (by omega), if_pos (by omega), show i % 4 = i - 12 by omega]
      · rw [show n + i = n + 4 + 4 + 4 + 4 + (i - 16) by omega, b5 (i - 16) (by omega), if_neg (by omega), if_neg (by omega), if_neg (by omega), if_neg (by omega), show i % 4 = i - 16 by omega]
  · refine xcall_intro (ls := [.ref 187, .int a, .int b, .int c, .int dd, .int e]) q_X12_feed (by decide) rfl (Nat.le_of_ble_eq_true rfl) rfl ?_
    refine wp_aload_n dX12_feed_0 rfl rfl (wp_iconst (v := nI 0) dX12_feed_1 rfl (p11_1 dX12_feed_2 (xsh hX sh_187) (wp_aload_n dX12_feed_5 rfl rfl (gv11_7 dX12_feed_6 (xsh hX sh_187) hn0 (wp_bipush (v := nI 20) dX12_feed_9 rfl (wv_iadd dX12_feed_11 (nI_add _ _) (wp_sipush (v := nI 260) dX12_feed_12 rfl ?_)))))))
    refine wn_icmp_le dX12_feed_15 rfl (by omega) (by omega) (fun c15 => absurd c15 (by omega)) (fun c15 => ?_)
    exact wp_iconst (v := -1) dX12_feed_18 rfl (wp_ireturn dX12_feed_19 rfl rfl ⟨rfl, rfl⟩)
/-- a length that the tape can be cut to -/
def xcut (k : Int32) (n : Nat) : Bool := decide (¬ k < 0 ∧ k ≤ nI n)
theorem c_end (k : Int32) (d : Nat) {S : xS} {n : Nat} (hX : XC S) (hn : S.2.1 1 1 = nI n) : xcall false d j_X11_end [.ref 0, .int k] S (some (.int (xB (xcut k n)))) (if xcut k n = true then xSI S 1 1 k else S) := by
  refine xcall_intro (ls := [.ref 0, .int k]) q_X11_end (by decide) rfl (Nat.le_of_ble_eq_true rfl) rfl ?_
  refine wp_iload_n dX11_end_0 rfl ?_
  refine wp_if_lt dX11_end_1 rfl (fun c1 => ?_) (fun c1 => ?_)
  · have e : xcut k n = false := decide_eq_false (fun q => q.1 c1)
    exact wp_iconst (v := nI 0) dX11_end_15 rfl (wb_ret dX11_end_16 rfl (xB_of_f e) ⟨rfl, by rw [e]; rfl⟩)
  · refine wp_iload_n dX11_end_4 rfl (wp_aload_n dX11_end_5 rfl rfl (g10_10 dX11_end_6 (xsh hX sh_0) (xrr hX r0_0) (gv10_96 dX11_end_9 (xsh hX sh_1) hn ?_)))
    refine wp_icmp_le dX11_end_12 rfl (fun c12 => ?_) (fun c12 => ?_)
    · have e : xcut k n = true := decide_eq_true ⟨c1, c12⟩
      exact wp_aload_n dX11_end_17 rfl rfl (g10_10 dX11_end_18 (xsh hX sh_0) (xrr hX r0_0) (wp_iload_n dX11_end_21 rfl (p10_96 dX11_end_22 (xsh hX sh_1) (wp_iconst (v := nI 1) dX11_end_25 rfl (wb_ret dX11_end_26 rfl (xB_of_t e) ⟨rfl, by rw [if_pos e]⟩)))))
    · have e : xcut k n = false := decide_eq_false (fun q => c12 q.2)
      exact wp_iconst (v := nI 0) dX11_end_15 rfl (wb_ret dX11_end_16 rfl (xB_of_f e) ⟨rfl, by rw [e]; rfl⟩)
theorem m_end (k : Int32) (d : Nat) {S : xS} {n : Nat} (hX : XC S) (hn : S.2.1 187 2 = nI n) : xcall false d j_X12_end [.ref 187, .int k] S (some (.int (xB (xcut k n)))) (if xcut k n = true then xSI (xSI S 187 0 (nI 0)) 187 2 k else xSI S 187 0 (nI 0)) := by
  have hn0 : (xSI S 187 0 (nI 0)).2.1 187 2 = nI n := by rw [xI_ne _ _ (Or.inr (by decide))]; exact hn
  refine xcall_intro (ls := [.ref 187, .int k]) q_X12_end (by decide) rfl (Nat.le_of_ble_eq_true rfl) rfl ?_
  refine wp_aload_n dX12_end_0 rfl rfl (wp_iconst (v := nI 0) dX12_end_1 rfl (p11_1 dX12_end_2 (xsh hX sh_187) (wp_iload_n dX12_end_5 rfl ?_)))
  refine wp_if_lt dX12_end_6 rfl (fun c6 => ?_) (fun c6 => ?_)
  · have e : xcut k n = false := decide_eq_false (fun q => q.1 c6)
    exact wp_iconst (v := nI 0) dX12_end_17 rfl (wb_ret dX12_end_18 rfl (xB_of_f e) ⟨rfl, by rw [e]; rfl⟩)
  · refine wp_iload_n dX12_end_9 rfl (wp_aload_n dX12_end_10 rfl rfl (gv11_7 dX12_end_11 (xsh hX sh_187) hn0 ?_))
    refine wp_icmp_le dX12_end_14 rfl (fun c14 => ?_) (fun c14 => ?_)
    · have e : xcut k n = true := decide_eq_true ⟨c6, c14⟩
      exact wp_aload_n dX12_end_19 rfl rfl (wp_iload_n dX12_end_20 rfl (p11_7 dX12_end_21 (xsh hX sh_187) (wp_iconst (v := nI 1) dX12_end_24 rfl (wb_ret dX12_end_25 rfl (xB_of_t e) ⟨rfl, by rw [if_pos e]⟩))))
    · have e : xcut k n = false := decide_eq_false (fun q => c14 q.2)
      exact wp_iconst (v := nI 0) dX12_end_17 rfl (wb_ret dX12_end_18 rfl (xB_of_f e) ⟨rfl, by rw [e]; rfl⟩)
theorem c_fault (d : Nat) {S : xS} (hX : XC S) : xcall false d j_X11_fault [.ref 0] S (some (.int (S.2.1 0 11))) S := by
  refine xcall_intro (ls := [.ref 0]) q_X11_fault (by decide) rfl (Nat.le_of_ble_eq_true rfl) rfl ?_
  exact wp_aload_n dX11_fault_0 rfl rfl (g10_124 dX11_fault_1 (xsh hX sh_0) (wp_ireturn dX11_fault_4 rfl rfl ⟨rfl, rfl⟩))
theorem m_fault (d : Nat) {S : xS} (hX : XC S) : xcall false d j_X12_fault [.ref 187] S (some (.int (S.2.1 187 9))) (xSI S 187 0 (nI 0)) := by
  refine xcall_intro (ls := [.ref 187]) q_X12_fault (by decide) rfl (Nat.le_of_ble_eq_true rfl) rfl ?_
  exact wp_aload_n dX12_fault_0 rfl rfl (wp_iconst (v := nI 0) dX12_fault_1 rfl (p11_1 dX12_fault_2 (xsh hX sh_187) (wp_aload_n dX12_fault_5 rfl rfl (gv11_51 dX12_fault_6 (xsh hX sh_187) (xI_ne _ _ (Or.inr (by decide))) (wp_ireturn dX12_fault_9 rfl rfl ⟨rfl, rfl⟩)))))
theorem m_thrown (d : Nat) {S : xS} (hX : XC S) : xcall false d j_X12_thrown [.ref 187] S (some (.int (S.2.1 187 0))) S := by
  refine xcall_intro (ls := [.ref 187]) q_X12_thrown (by decide) rfl (Nat.le_of_ble_eq_true rfl) rfl ?_
  exact wp_aload_n dX12_thrown_0 rfl rfl (g11_1 dX12_thrown_1 (xsh hX sh_187) (wp_ireturn dX12_thrown_4 rfl rfl ⟨rfl, rfl⟩))
theorem c_hit (i : Int32) (d : Nat) {S : xS} {q : Nat} (hX : XC S) (hq : S.2.1 0 18 = nI q) (hq2 : q ≤ 24) : xcall false d j_X11_hit [.ref 0, .int i] S (some (.int (if i < 0 ∨ nI q ≤ i then -1 else S.2.1 186 i.toNatClampNeg))) S := by
  refine xcall_intro (ls := [.ref 0, .int i]) q_X11_hit (by decide) rfl (Nat.le_of_ble_eq_true rfl) rfl ?_
  refine wp_iload_n dX11_hit_0 rfl ?_
  refine wp_if_lt dX11_hit_1 rfl (fun c1 => ?_) (fun c1 => ?_)
  · rw [if_pos (Or.inl c1)]
    exact wp_iconst (v := -1) dX11_hit_30 rfl (wp_ireturn dX11_hit_31 rfl rfl ⟨rfl, rfl⟩)
  · obtain ⟨j, hj, rfl⟩ := nI_of c1
    refine wp_iload_n dX11_hit_4 rfl (wp_aload_n dX11_hit_5 rfl rfl (gv10_216 dX11_hit_6 (xsh hX sh_0) hq ?_))
    refine wn_icmp_ge dX11_hit_9 rfl hj (by omega) (fun c9 => ?_) (fun c9 => ?_)
    · rw [if_pos (Or.inr (nI_le c9 hj))]
      exact wp_iconst (v := -1) dX11_hit_30 rfl (wp_ireturn dX11_hit_31 rfl rfl ⟨rfl, rfl⟩)
    · rw [if_neg (fun h => h.elim c1 (nI_ge c9 (by omega))), nI_clamp hj]
      refine wp_iload_n dX11_hit_12 rfl (wp_aload_n dX11_hit_13 rfl rfl (g10_92 dX11_hit_14 (xsh hX sh_0) (xrr hX r0_17) (wp_alen (v := nI 24) dX11_hit_17 (xsh hX sh_186) ⟨by decide, by decide⟩ rfl ?_)))
      refine wn_icmp_ge dX11_hit_18 rfl (by omega) (by omega) (fun c18 => absurd c18 (by omega)) (fun c18 => ?_)
      exact wp_aload_n dX11_hit_21 rfl rfl (g10_92 dX11_hit_22 (xsh hX sh_0) (xrr hX r0_17) (wp_iload_n dX11_hit_25 rfl (wn_iaload dX11_hit_26 (xsh hX sh_186) rfl (by omega) (by decide) rfl (wp_goto dX11_hit_27 rfl (wp_ireturn dX11_hit_31 rfl rfl ⟨rfl, rfl⟩)))))
theorem m_hit (i : Int32) (d : Nat) {S : xS} {q : Nat} (hX : XC S) (hq : S.2.1 187 72 = nI q) (hq2 : q ≤ 24) : xcall false d j_X12_hit [.ref 187, .int i] S (some (.int (if i < 0 ∨ nI q ≤ i then -1 else S.2.1 219 i.toNatClampNeg))) (xSI S 187 0 (nI 0)) := by
  have hq0 : (xSI S 187 0 (nI 0)).2.1 187 72 = nI q := by rw [xI_ne _ _ (Or.inr (by decide))]; exact hq
  refine xcall_intro (ls := [.ref 187, .int i]) q_X12_hit (by decide) rfl (Nat.le_of_ble_eq_true rfl) rfl ?_
  refine wp_aload_n dX12_hit_0 rfl rfl (wp_iconst (v := nI 0) dX12_hit_1 rfl (p11_1 dX12_hit_2 (xsh hX sh_187) (wp_iload_n dX12_hit_5 rfl ?_)))
  refine wp_if_lt dX12_hit_6 rfl (fun c6 => ?_) (fun c6 => ?_)
  · rw [if_pos (Or.inl c6)]
    exact wp_iconst (v := -1) dX12_hit_17 rfl (wp_goto dX12_hit_18 rfl (wp_ireturn dX12_hit_27 rfl rfl ⟨rfl, rfl⟩))
  · obtain ⟨j, hj, rfl⟩ := nI_of c6
    refine wp_iload_n dX12_hit_9 rfl (wp_aload_n dX12_hit_10 rfl rfl (gv11_455 dX12_hit_11 (xsh hX sh_187) hq0 ?_))
    refine wn_icmp_lt dX12_hit_14 rfl hj (by omega) (fun c14 => ?_) (fun c14 => ?_)
    · rw [if_neg (fun h => h.elim c6 (nI_ge c14 (by omega))), nI_clamp hj]
      exact wp_aload_n dX12_hit_21 rfl rfl (g11_352 dX12_hit_22 (xsh hX sh_187) (xrr hX r187_71) (wp_iload_n dX12_hit_25 rfl (wn_iaload dX12_hit_26 (xsh hX sh_219) rfl (by omega) (by decide) (xI_ne _ _ (Or.inl (by decide))) (wp_ireturn dX12_hit_27 rfl rfl ⟨rfl, rfl⟩))))
    · rw [if_pos (Or.inr (nI_le c14 hj))]
      exact wp_iconst (v := -1) dX12_hit_17 rfl (wp_goto dX12_hit_18 rfl (wp_ireturn dX12_hit_27 rfl rfl ⟨rfl, rfl⟩))
