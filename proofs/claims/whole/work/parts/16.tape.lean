/-! THE TAPE: feed, end -/
def xP_put (n m : Nat) : Nat → Nat → Prop := fun a k => (a = 1 ∧ k = 1) ∨ (a = 2 ∧ n ≤ k ∧ k < m)
theorem put_loop (x : Int32) (d : Nat) : ∀ (j : Nat) (S : xS) (n : Nat), XC S → S.2.1 1 1 = nI n → n + j ≤ 260 → j ≤ 4 →
    Wp false d 5 cX6_put none false 3 [.ref 1, .int x, .int (nI (8 * j) - 8)] [] S (fun r S' => r = none ∧ xFr (xP_put n (n + j)) S S' ∧ S'.2.1 1 1 = nI (n + j) ∧ ∀ i, i < j → S'.2.1 2 (n + i) = nI (xb x (8 * (j - 1 - i)))) := by
  intro j
  induction j with
  | zero =>
    intro S n hX hn hj hj4
    refine wp_iload_n dX6_put_3 rfl ?_
    refine wp_if_lt dX6_put_4 rfl (fun c4 => ?_) (fun c4 => absurd (by decide) c4)
    exact wp_return dX6_put_59 rfl ⟨rfl, xFr.rf S, hn, fun i hi => absurd hi (Nat.not_lt_zero i)⟩
  | succ j ih =>
    intro S n hX hn hj hj4
    have e8 : nI (8 * (j + 1)) - 8 = nI (8 * j) := by
      rw [show (8 : Int32) = nI 8 from rfl, pk_sub (by omega)]
      congr 1
    rw [e8]
    refine wp_iload_n dX6_put_3 rfl ?_
    refine wp_if_lt dX6_put_4 rfl (fun c4 => absurd c4 (nI_pos (by omega))) (fun c4 => ?_)
    refine wp_aload_n dX6_put_7 rfl rfl (gv5_15 dX6_put_8 (xsh hX sh_1) hn ?_)
    refine wp_if_lt dX6_put_11 rfl (fun c11 => absurd c11 (nI_pos (by omega))) (fun c11 => ?_)
    refine wp_aload_n dX6_put_14 rfl rfl (gv5_15 dX6_put_15 (xsh hX sh_1) hn (wp_aload_n dX6_put_18 rfl rfl (g5_9 dX6_put_19 (xsh hX sh_1) (xrr hX r1_0) (wp_alen (v := nI 260) dX6_put_22 (xsh hX sh_2) ⟨by decide, by decide⟩ rfl ?_))))
    refine wp_icmp_ge dX6_put_23 rfl (fun c23 => absurd c23 (nI_ge (by omega) (by decide))) (fun c23 => ?_)
    refine wp_aload_n dX6_put_26 rfl rfl (g5_9 dX6_put_27 (xsh hX sh_1) (xrr hX r1_0) (wp_aload_n dX6_put_30 rfl rfl (gv5_15 dX6_put_31 (xsh hX sh_1) hn (wp_iload_n dX6_put_34 rfl (wp_iload_n dX6_put_35 rfl (wp_ishr dX6_put_36 (wp_sipush (v := 255) dX6_put_37 rfl (wv_iand dX6_put_40 (xb_and x (8 * j)) (wv_i2c dX6_put_41 (xi2c (by have := xb_lt x (8 * j); omega)) ?_)))))))))
    refine wn_castore dX6_put_42 (xsh hX sh_2) rfl (show n < 260 by omega) (by decide) (xnc (by have := xb_lt x (8 * j); omega)) ?_
    have hX1 : XC (xSI S 2 n (nI (xb x (8 * j)))) := hX
    have hn1 : (xSI S 2 n (nI (xb x (8 * j)))).2.1 1 1 = nI n := by rw [xI_ne _ _ (Or.inl (by decide))]; exact hn
    refine wp_aload_n dX6_put_43 rfl rfl (wp_dup dX6_put_44 rfl (gv5_15 dX6_put_45 (xsh hX1 sh_1) hn1 (wp_iconst (v := 1) dX6_put_48 rfl (wv_iadd dX6_put_49 (nI_1 n) (p5_15 dX6_put_50 (xsh hX1 sh_1) ?_)))))
    refine wp_iinc dX6_put_53 rfl rfl ⟨Nat.le_of_ble_eq_true rfl, Or.inr rfl⟩ rfl (wp_goto dX6_put_56 rfl ?_)
    have e9 : nI (8 * j) + Int32.ofInt (-8) = nI (8 * j) - 8 := by rw [Int32.sub_eq_add_neg]; rfl
    refine wp_locals (ls' := [.ref 1, .int x, .int (nI (8 * j) - 8)]) (by rw [e9]; rfl) ?_
    refine (ih (xSI (xSI S 2 n (nI (xb x (8 * j)))) 1 1 (nI (n + 1))) (n + 1) hX (xI_same _ _ _ _) (by omega) (by omega)).mono ?_
    intro r S' ⟨h1, h2, h3, h4⟩
    refine ⟨h1, (((xFr.rf S).SI (P := xP_put n (n + (j + 1))) (a := 2) (k := n) (Or.inr ⟨rfl, Nat.le_refl n, by omega⟩)).SI (a := 1) (k := 1) (Or.inl ⟨rfl, rfl⟩)).tr h2 |>.mono ?_, by rw [h3]; congr 1; omega, ?_⟩
    · intro a k hk
      unfold xP_put at hk ⊢
      omega
    · intro i hi
      rcases Nat.eq_zero_or_pos i with h0 | h0
      · subst h0
        rw [Nat.add_zero, h2.2.2 2 n (by unfold xP_put; omega), xI_ne _ _ (Or.inl (by decide)), xI_same]
        rfl
      · have := h4 (i - 1) (by omega)
        rw [show n + i = n + 1 + (i - 1) by omega, this]
        congr 3
        omega
theorem c_put (x : Int32) (d : Nat) {S : xS} {n : Nat} (hX : XC S) (hn : S.2.1 1 1 = nI n) (h : n + 4 ≤ 260) : ∃ S', xcall false d j_X6_put [.ref 1, .int x] S none S' ∧ xFr (xP_put n (n + 4)) S S' ∧ S'.2.1 1 1 = nI (n + 4) ∧ ∀ i, i < 4 → S'.2.1 2 (n + i) = nI (xb x (8 * (3 - i))) := by
  obtain ⟨r, S', h1, h2, h3⟩ := xcall_some (al := false) (d := d) (ls := [.ref 1, .int x, .float 0]) (S := S) (as := [.ref 1, .int x]) q_X6_put (by decide) rfl (Nat.le_of_ble_eq_true rfl) rfl
    (P := fun r S' => r = none ∧ xFr (xP_put n (n + 4)) S S' ∧ S'.2.1 1 1 = nI (n + 4) ∧ ∀ i, i < 4 → S'.2.1 2 (n + i) = nI (xb x (8 * (4 - 1 - i))))
    (wp_bipush (v := nI (8 * 4) - 8) dX6_put_0 (by decide) (wp_istore_n dX6_put_2 ⟨Nat.le_of_ble_eq_true rfl, Or.inr rfl⟩ rfl (put_loop x d 4 S n hX hn h (Nat.le_refl 4))))
  subst h2
  exact ⟨S', h1, h3⟩
