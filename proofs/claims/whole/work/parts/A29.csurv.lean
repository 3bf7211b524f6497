/-! great rings: rows of longs; THE ring as numbers; survivor of the class -/
theorem wv_ladd {al : Bool} {d o : Nat} {cc : ByteArray} {ret : Option FieldType} {ini : Bool} {pc : Nat} {ls st : List Value} {S : xS} {Q : Option Value → xS → Prop} {x y v : Int64} (hd : decode cc pc = .ok (.ladd, 1)) (hv : x + y = v) (k : Wp al d o cc ret ini (pc + 1) ls (.long v :: st) S Q) : Wp al d o cc ret ini pc ls (.long y :: .long x :: st) S Q := by subst hv; exact wp_ladd hd k
theorem wv_lsub {al : Bool} {d o : Nat} {cc : ByteArray} {ret : Option FieldType} {ini : Bool} {pc : Nat} {ls st : List Value} {S : xS} {Q : Option Value → xS → Prop} {x y v : Int64} (hd : decode cc pc = .ok (.lsub, 1)) (hv : x - y = v) (k : Wp al d o cc ret ini (pc + 1) ls (.long v :: st) S Q) : Wp al d o cc ret ini pc ls (.long y :: .long x :: st) S Q := by subst hv; exact wp_lsub hd k
theorem wv_lmul {al : Bool} {d o : Nat} {cc : ByteArray} {ret : Option FieldType} {ini : Bool} {pc : Nat} {ls st : List Value} {S : xS} {Q : Option Value → xS → Prop} {x y v : Int64} (hd : decode cc pc = .ok (.lmul, 1)) (hv : x * y = v) (k : Wp al d o cc ret ini (pc + 1) ls (.long v :: st) S Q) : Wp al d o cc ret ini pc ls (.long y :: .long x :: st) S Q := by subst hv; exact wp_lmul hd k
theorem wv_ldiv {al : Bool} {d o : Nat} {cc : ByteArray} {ret : Option FieldType} {ini : Bool} {pc : Nat} {ls st : List Value} {S : xS} {Q : Option Value → xS → Prop} {x y v : Int64} (hd : decode cc pc = .ok (.ldiv, 1)) (hy : ¬ y = 0) (hv : x / y = v) (k : Wp al d o cc ret ini (pc + 1) ls (.long v :: st) S Q) : Wp al d o cc ret ini pc ls (.long y :: .long x :: st) S Q := by subst hv; exact wp_ldiv hd hy k
theorem wv_lrem {al : Bool} {d o : Nat} {cc : ByteArray} {ret : Option FieldType} {ini : Bool} {pc : Nat} {ls st : List Value} {S : xS} {Q : Option Value → xS → Prop} {x y v : Int64} (hd : decode cc pc = .ok (.lrem, 1)) (hy : ¬ y = 0) (hv : x - x / y * y = v) (k : Wp al d o cc ret ini (pc + 1) ls (.long v :: st) S Q) : Wp al d o cc ret ini pc ls (.long y :: .long x :: st) S Q := by subst hv; exact wp_lrem hd hy k
theorem wv_i2l {al : Bool} {d o : Nat} {cc : ByteArray} {ret : Option FieldType} {ini : Bool} {pc : Nat} {ls st : List Value} {S : xS} {Q : Option Value → xS → Prop} {x : Int32} {v : Int64} (hd : decode cc pc = .ok (.i2l, 1)) (hv : x.toInt64 = v) (k : Wp al d o cc ret ini (pc + 1) ls (.long v :: st) S Q) : Wp al d o cc ret ini pc ls (.int x :: st) S Q := by subst hv; exact wp_i2l hd k
theorem wlr_lt {al : Bool} {d o : Nat} {cc : ByteArray} {ret : Option FieldType} {ini : Bool} {pc : Nat} {ls st : List Value} {S : xS} {Q : Option Value → xS → Prop} {off : Int} {t : Nat} {x y : Int64} (hd : decode cc pc = .ok (.lcmp, 1)) (hd2 : decode cc (pc + 1) = .ok (.ifCond .lt off, 3)) (ht : xtgt (pc + 1) off = some t) (kt : x < y → Wp al d o cc ret ini t ls st S Q) (kf : ¬ x < y → Wp al d o cc ret ini (pc + 1 + 3) ls st S Q) : Wp al d o cc ret ini pc ls (.long y :: .long x :: st) S Q := wp_lcmp hd (wp_if_lt hd2 ht (fun q => kt ((lg_cmp_lt x y).mp q)) (fun q => kf (fun e => q ((lg_cmp_lt x y).mpr e))))
theorem wlr_gt {al : Bool} {d o : Nat} {cc : ByteArray} {ret : Option FieldType} {ini : Bool} {pc : Nat} {ls st : List Value} {S : xS} {Q : Option Value → xS → Prop} {off : Int} {t : Nat} {x y : Int64} (hd : decode cc pc = .ok (.lcmp, 1)) (hd2 : decode cc (pc + 1) = .ok (.ifCond .gt off, 3)) (ht : xtgt (pc + 1) off = some t) (kt : y < x → Wp al d o cc ret ini t ls st S Q) (kf : ¬ y < x → Wp al d o cc ret ini (pc + 1 + 3) ls st S Q) : Wp al d o cc ret ini pc ls (.long y :: .long x :: st) S Q := wp_lcmp hd (wp_if_gt hd2 ht (fun q => kt ((lg_cmp_gt x y).mp q)) (fun q => kf (fun e => q ((lg_cmp_gt x y).mpr e))))
theorem wlr_ge {al : Bool} {d o : Nat} {cc : ByteArray} {ret : Option FieldType} {ini : Bool} {pc : Nat} {ls st : List Value} {S : xS} {Q : Option Value → xS → Prop} {off : Int} {t : Nat} {x y : Int64} (hd : decode cc pc = .ok (.lcmp, 1)) (hd2 : decode cc (pc + 1) = .ok (.ifCond .ge off, 3)) (ht : xtgt (pc + 1) off = some t) (kt : y ≤ x → Wp al d o cc ret ini t ls st S Q) (kf : ¬ y ≤ x → Wp al d o cc ret ini (pc + 1 + 3) ls st S Q) : Wp al d o cc ret ini pc ls (.long y :: .long x :: st) S Q := wp_lcmp hd (wp_if_ge hd2 ht (fun q => kt ((lg_cmp_ge x y).mp q)) (fun q => kf (fun e => q ((lg_cmp_ge x y).mpr e))))
theorem wlr_le {al : Bool} {d o : Nat} {cc : ByteArray} {ret : Option FieldType} {ini : Bool} {pc : Nat} {ls st : List Value} {S : xS} {Q : Option Value → xS → Prop} {off : Int} {t : Nat} {x y : Int64} (hd : decode cc pc = .ok (.lcmp, 1)) (hd2 : decode cc (pc + 1) = .ok (.ifCond .le off, 3)) (ht : xtgt (pc + 1) off = some t) (kt : x ≤ y → Wp al d o cc ret ini t ls st S Q) (kf : ¬ x ≤ y → Wp al d o cc ret ini (pc + 1 + 3) ls st S Q) : Wp al d o cc ret ini pc ls (.long y :: .long x :: st) S Q := wp_lcmp hd (wp_if_le hd2 ht (fun q => kt ((lg_cmp_le x y).mp q)) (fun q => kf (fun e => q ((lg_cmp_le x y).mpr e))))
theorem wlr_ne {al : Bool} {d o : Nat} {cc : ByteArray} {ret : Option FieldType} {ini : Bool} {pc : Nat} {ls st : List Value} {S : xS} {Q : Option Value → xS → Prop} {off : Int} {t : Nat} {x y : Int64} (hd : decode cc pc = .ok (.lcmp, 1)) (hd2 : decode cc (pc + 1) = .ok (.ifCond .ne off, 3)) (ht : xtgt (pc + 1) off = some t) (kt : ¬ x = y → Wp al d o cc ret ini t ls st S Q) (kf : x = y → Wp al d o cc ret ini (pc + 1 + 3) ls st S Q) : Wp al d o cc ret ini pc ls (.long y :: .long x :: st) S Q := wp_lcmp hd (wp_if_ne hd2 ht (fun q => kt (fun e => q ((lg_cmp_eq x y).mpr e))) (fun q => kf ((lg_cmp_eq x y).mp q)))
theorem wl_lt {al : Bool} {d o : Nat} {cc : ByteArray} {ret : Option FieldType} {ini : Bool} {pc : Nat} {ls st : List Value} {S : xS} {Q : Option Value → xS → Prop} {off : Int} {t a b : Nat} (hd : decode cc pc = .ok (.lcmp, 1)) (hd2 : decode cc (pc + 1) = .ok (.ifCond .lt off, 3)) (ht : xtgt (pc + 1) off = some t) (ha : a < 2 ^ 63) (hb : b < 2 ^ 63) (kt : a < b → Wp al d o cc ret ini t ls st S Q) (kf : b ≤ a → Wp al d o cc ret ini (pc + 1 + 3) ls st S Q) : Wp al d o cc ret ini pc ls (.long (lN b) :: .long (lN a) :: st) S Q := wlr_lt hd hd2 ht (fun q => kt ((pk_lLT ha hb).mp q)) (fun q => kf (Nat.le_of_not_lt (fun e => q ((pk_lLT ha hb).mpr e))))
theorem wl_gt {al : Bool} {d o : Nat} {cc : ByteArray} {ret : Option FieldType} {ini : Bool} {pc : Nat} {ls st : List Value} {S : xS} {Q : Option Value → xS → Prop} {off : Int} {t a b : Nat} (hd : decode cc pc = .ok (.lcmp, 1)) (hd2 : decode cc (pc + 1) = .ok (.ifCond .gt off, 3)) (ht : xtgt (pc + 1) off = some t) (ha : a < 2 ^ 63) (hb : b < 2 ^ 63) (kt : b < a → Wp al d o cc ret ini t ls st S Q) (kf : a ≤ b → Wp al d o cc ret ini (pc + 1 + 3) ls st S Q) : Wp al d o cc ret ini pc ls (.long (lN b) :: .long (lN a) :: st) S Q := wlr_gt hd hd2 ht (fun q => kt ((pk_lLT hb ha).mp q)) (fun q => kf (Nat.le_of_not_lt (fun e => q ((pk_lLT hb ha).mpr e))))
theorem wl_ge {al : Bool} {d o : Nat} {cc : ByteArray} {ret : Option FieldType} {ini : Bool} {pc : Nat} {ls st : List Value} {S : xS} {Q : Option Value → xS → Prop} {off : Int} {t a b : Nat} (hd : decode cc pc = .ok (.lcmp, 1)) (hd2 : decode cc (pc + 1) = .ok (.ifCond .ge off, 3)) (ht : xtgt (pc + 1) off = some t) (ha : a < 2 ^ 63) (hb : b < 2 ^ 63) (kt : b ≤ a → Wp al d o cc ret ini t ls st S Q) (kf : a < b → Wp al d o cc ret ini (pc + 1 + 3) ls st S Q) : Wp al d o cc ret ini pc ls (.long (lN b) :: .long (lN a) :: st) S Q := wlr_ge hd hd2 ht (fun q => kt ((pk_lLE hb ha).mp q)) (fun q => kf (Nat.lt_of_not_le (fun e => q ((pk_lLE hb ha).mpr e))))
theorem wl_le {al : Bool} {d o : Nat} {cc : ByteArray} {ret : Option FieldType} {ini : Bool} {pc : Nat} {ls st : List Value} {S : xS} {Q : Option Value → xS → Prop} {off : Int} {t a b : Nat} (hd : decode cc pc = .ok (.lcmp, 1)) (hd2 : decode cc (pc + 1) = .ok (.ifCond .le off, 3)) (ht : xtgt (pc + 1) off = some t) (ha : a < 2 ^ 63) (hb : b < 2 ^ 63) (kt : a ≤ b → Wp al d o cc ret ini t ls st S Q) (kf : b < a → Wp al d o cc ret ini (pc + 1 + 3) ls st S Q) : Wp al d o cc ret ini pc ls (.long (lN b) :: .long (lN a) :: st) S Q := wlr_le hd hd2 ht (fun q => kt ((pk_lLE ha hb).mp q)) (fun q => kf (Nat.lt_of_not_le (fun e => q ((pk_lLE ha hb).mpr e))))
theorem wl_ne {al : Bool} {d o : Nat} {cc : ByteArray} {ret : Option FieldType} {ini : Bool} {pc : Nat} {ls st : List Value} {S : xS} {Q : Option Value → xS → Prop} {off : Int} {t a b : Nat} (hd : decode cc pc = .ok (.lcmp, 1)) (hd2 : decode cc (pc + 1) = .ok (.ifCond .ne off, 3)) (ht : xtgt (pc + 1) off = some t) (ha : a < 2 ^ 63) (hb : b < 2 ^ 63) (kt : a ≠ b → Wp al d o cc ret ini t ls st S Q) (kf : a = b → Wp al d o cc ret ini (pc + 1 + 3) ls st S Q) : Wp al d o cc ret ini pc ls (.long (lN b) :: .long (lN a) :: st) S Q := wlr_ne hd hd2 ht (fun q => kt (fun e => q (by rw [e]))) (fun q => kf ((pk_lEQ ha hb).mp q))
theorem wl_min {al : Bool} {d o : Nat} {cc : ByteArray} {ret : Option FieldType} {ini : Bool} {pc : Nat} {ls st : List Value} {S : xS} {Q : Option Value → xS → Prop} {k0 a b : Nat} (hd : decode cc pc = .ok (.invokestatic k0, 3)) (hk : xlk o k0 = some [14]) (hw : (st.map fun v => v.category).sum ≤ 8) (ha : a < 2 ^ 63) (hb : b < 2 ^ 63) (k : Wp al d o cc ret ini (pc + 3) ls (.long (lN (min a b)) :: st) S Q) : Wp al d o cc ret ini pc ls (.long (lN b) :: .long (lN a) :: st) S Q := by
  refine wp_minL hd hk hw ?_
  have e : (if lN b < lN a then lN b else lN a) = lN (min a b) := by
    rcases Nat.lt_or_ge b a with w | w
    · rw [if_pos ((pk_lLT hb ha).mpr w), Nat.min_eq_right (by omega)]
    · rw [if_neg (fun q => absurd ((pk_lLT hb ha).mp q) (by omega)), Nat.min_eq_left w]
  rw [e]; exact k
theorem lN_n0 {n : Nat} (h : 0 < n) (h2 : n < 2 ^ 63) : ¬ lN n = 0 := by
  intro e
  have : lN n = lN 0 := e
  have := (pk_lEQ h2 (by decide)).mp this
  omega
/-- who is LEFT of a ring of r, each step q + 1 -/
def xjo (q : Nat) : Nat → Nat
  | 0 => 0
  | r + 1 => (xjo q r + (q + 1)) % (r + 1)
theorem xjo_lt (q : Nat) : ∀ r, 0 < r → xjo q r < r
  | 0, h => absurd h (Nat.lt_irrefl 0)
  | r + 1, _ => Nat.mod_lt _ (Nat.succ_pos r)
theorem xjo_jump (q r : Nat) : ∀ j, j * q + xjo q r + 1 ≤ r → xjo q (r + j) = xjo q r + j * (q + 1)
  | 0, _ => by rw [Nat.add_zero, Nat.zero_mul, Nat.add_zero]
  | j + 1, h => by
    have e1 : (j + 1) * q = j * q + q := Nat.succ_mul j q
    have ih := xjo_jump q r j (by omega)
    have e2 : (j + 1) * (q + 1) = j * (q + 1) + (q + 1) := Nat.succ_mul j (q + 1)
    have e3 : j * (q + 1) = j * q + j := Nat.mul_succ j q
    rw [← Nat.add_assoc, xjo, ih, Nat.mod_eq_of_lt (by omega)]
    omega
/-- one sum more -/
theorem xjo_step {q s n : Nat} (hq : 1 ≤ q) (hs : 0 < s) : min ((s - xjo q s - 1) / q) (n - s) * q + xjo q s + 1 ≤ s := by
  have hl := xjo_lt q s hs
  have h1 : min ((s - xjo q s - 1) / q) (n - s) ≤ (s - xjo q s - 1) / q := Nat.min_le_left _ _
  have h2 := Nat.mul_le_mul_right q h1
  have h3 := Nat.div_mul_le_self (s - xjo q s - 1) q
  omega
theorem xjo_grow {q s : Nat} (hq : 1 ≤ q) (hs : 0 < s) : q * ((s - xjo q s - 1) / q + 1) ≥ s - xjo q s ∧ (q ≤ s + (s - xjo q s - 1) / q + 1 → xjo q (s + (s - xjo q s - 1) / q + 1) + 1 ≤ q) := by
  have hl := xjo_lt q s hs
  have hd := Nat.div_add_mod (s - xjo q s - 1) q
  have hm := Nat.mod_lt (s - xjo q s - 1) hq
  have hmin : (s - xjo q s - 1) / q * q + xjo q s + 1 ≤ s := by
    have h3 := Nat.div_mul_le_self (s - xjo q s - 1) q
    omega
  have hj := xjo_jump q s ((s - xjo q s - 1) / q) hmin
  generalize (s - xjo q s - 1) / q = a at *
  have e1 : q * (a + 1) = q * a + q := Nat.mul_succ q a
  have e2 : a * (q + 1) = q * a + a := by rw [Nat.mul_succ, Nat.mul_comm]
  refine ⟨by omega, fun h => ?_⟩
  rw [xjo, hj, e2]
  have e3 : xjo q s + (q * a + a) + (q + 1) = (s + a + 1) * 1 + (xjo q s + q * a + q - s) := by omega
  rw [e3, Nat.mul_add_mod, Nat.mod_eq_of_lt (by omega)]
  omega
theorem sv_exit {q n i d : Nat} {y8 y9 : Value} (hn : n < 2 ^ 62) (hi : i < 2 ^ 30) {S : xS} : Wp false d 10 cX11_survivor (some .long) false 17 [.long (lN n), .float 0, .int (nI (q + 1)), .long (lN (xjo q n)), .float 0, .long (lN n), .float 0, .int (nI i), y8, y9] [] S (fun r S' => r = some (.long (lN (xjo q n))) ∧ S' = S) := by
  rcases Nat.lt_or_ge i 1000000 with w | w
  · skip
    refine wp_iload dX11_survivor_17 rfl (wp_ldcW dX11_survivor_19 k10_348 (show xKI 10 348 = nI 1000000 from rfl) ?_)
    refine wn_icmp_ge dX11_survivor_22 rfl (by omega) (by omega) (fun c22 => absurd c22 (by omega)) (fun c22 => ?_)
    refine wp_lload dX11_survivor_25 rfl (wp_lload_n dX11_survivor_27 rfl ?_)
    refine wl_ge dX11_survivor_28 dX11_survivor_29 rfl (by omega) (by omega) (fun c28 => ?_) (fun c28 => absurd c28 (by omega))
    exact wp_lload_n dX11_survivor_94 rfl (wp_lreturn dX11_survivor_95 rfl ⟨rfl, rfl⟩)
  · skip
    refine wp_iload dX11_survivor_17 rfl (wp_ldcW dX11_survivor_19 k10_348 (show xKI 10 348 = nI 1000000 from rfl) ?_)
    refine wn_icmp_ge dX11_survivor_22 rfl (by omega) (by omega) (fun c22 => ?_) (fun c22 => absurd c22 (by omega))
    exact wp_lload_n dX11_survivor_94 rfl (wp_lreturn dX11_survivor_95 rfl ⟨rfl, rfl⟩)
theorem sv_step {q n s i d : Nat} {y8 y9 : Value} (hq : 1 ≤ q) (hq2 : q < 2 ^ 20) (hn : n < 2 ^ 40) (hs : 0 < s) (hsn : s < n) (hi : i < 1000000) {S : xS} (K : ∀ s' y8 y9, s' ≤ n → (s' = n ∨ ∃ a, s' = s + a ∧ 1 ≤ a ∧ q * a ≥ s - xjo q s ∧ (q ≤ s' → xjo q s' + 1 ≤ q)) → Wp false d 10 cX11_survivor (some .long) false 17 [.long (lN n), .float 0, .int (nI (q + 1)), .long (lN (xjo q s')), .float 0, .long (lN s'), .float 0, .int (nI (i + 1)), y8, y9] [] S (fun r S' => r = some (.long (lN (xjo q n))) ∧ S' = S)) : Wp false d 10 cX11_survivor (some .long) false 17 [.long (lN n), .float 0, .int (nI (q + 1)), .long (lN (xjo q s)), .float 0, .long (lN s), .float 0, .int (nI i), y8, y9] [] S (fun r S' => r = some (.long (lN (xjo q n))) ∧ S' = S) := by
  have hl := xjo_lt q s hs
  have hmin := xjo_step (n := n) hq hs
  have hj := xjo_jump q s (min ((s - xjo q s - 1) / q) (n - s)) hmin
  have hg := xjo_grow hq hs
  have hle := Nat.min_le_left ((s - xjo q s - 1) / q) (n - s)
  have hle2 := Nat.min_le_right ((s - xjo q s - 1) / q) (n - s)
  have hdl := Nat.div_le_self (s - xjo q s - 1) q
  have esub : nI (q + 1) - nI 1 = nI q := pk_sub (by omega)
  have ei2 : (nI (q + 1)).toInt64 = lN (q + 1) := nI_l (by omega)
  have ei1 : (nI q).toInt64 = lN q := nI_l (by omega)
  have ediv : lN (s - xjo q s - 1) / lN q = lN ((s - xjo q s - 1) / q) := pk_lDiv (by omega) (by omega) (by omega)
  have emul : lN (min ((s - xjo q s - 1) / q) (n - s)) * lN (q + 1) = lN (min ((s - xjo q s - 1) / q) (n - s) * (q + 1)) := lN_mul _ _
  have eadd : lN (xjo q s) + lN (min ((s - xjo q s - 1) / q) (n - s) * (q + 1)) = lN (xjo q (s + min ((s - xjo q s - 1) / q) (n - s))) := by rw [lN_add, ← hj]
  rcases Nat.lt_or_ge (s + min ((s - xjo q s - 1) / q) (n - s)) n with w | w
  · have emin : min ((s - xjo q s - 1) / q) (n - s) = (s - xjo q s - 1) / q := by omega
    have hl2 := xjo_lt q (s + min ((s - xjo q s - 1) / q) (n - s)) (Nat.lt_of_lt_of_le hs (Nat.le_add_right _ _))
    have erem : lN (xjo q (s + min ((s - xjo q s - 1) / q) (n - s)) + (q + 1)) - lN (xjo q (s + min ((s - xjo q s - 1) / q) (n - s)) + (q + 1)) / lN (s + min ((s - xjo q s - 1) / q) (n - s) + 1) * lN (s + min ((s - xjo q s - 1) / q) (n - s) + 1) = lN (xjo q (s + min ((s - xjo q s - 1) / q) (n - s) + 1)) := by
      rw [pk_lRem (by omega) (by omega) (by omega)]; rfl
    have nx := K (s + min ((s - xjo q s - 1) / q) (n - s) + 1) (.long (lN (min ((s - xjo q s - 1) / q) (n - s)))) (.float 0) w (Or.inr ⟨min ((s - xjo q s - 1) / q) (n - s) + 1, rfl, Nat.le_add_left 1 _, by rw [emin]; exact hg.1, fun h => by rw [emin] at h ⊢; exact hg.2 h⟩)
    refine wp_iload dX11_survivor_17 rfl (wp_ldcW dX11_survivor_19 k10_348 (show xKI 10 348 = nI 1000000 from rfl) ?_)
    refine wn_icmp_ge dX11_survivor_22 rfl (by omega) (by omega) (fun c22 => absurd c22 (by omega)) (fun c22 => ?_)
    refine wp_lload dX11_survivor_25 rfl (wp_lload_n dX11_survivor_27 rfl ?_)
    refine wl_ge dX11_survivor_28 dX11_survivor_29 rfl (by omega) (by omega) (fun c28 => absurd c28 (by omega)) (fun c28 => ?_)
    refine wp_lload dX11_survivor_32 rfl (wp_lload_n dX11_survivor_34 rfl (wv_lsub dX11_survivor_35 (lN_sub (by omega)) (wp_lconst (v := lN 1) dX11_survivor_36 rfl (wv_lsub dX11_survivor_37 (lN_sub (by omega)) (wp_iload_n dX11_survivor_38 rfl (wp_iconst (v := nI 1) dX11_survivor_39 rfl (wv_isub dX11_survivor_40 esub (wv_i2l dX11_survivor_41 ei1 (wv_ldiv dX11_survivor_42 (lN_n0 (by omega) (by omega)) ediv (wp_lload_n dX11_survivor_43 rfl (wp_lload dX11_survivor_44 rfl (wv_lsub dX11_survivor_46 (lN_sub (by omega)) (wl_min dX11_survivor_47 k10_349 (Nat.le_of_ble_eq_true rfl) (by omega) (by omega) (wp_lstore dX11_survivor_50 ⟨Nat.le_of_ble_eq_true rfl, Or.inr rfl⟩ rfl (wp_lload dX11_survivor_52 rfl (wp_lload dX11_survivor_54 rfl (wv_ladd dX11_survivor_56 (lN_add _ _) (wp_lstore dX11_survivor_57 ⟨Nat.le_of_ble_eq_true rfl, Or.inr rfl⟩ rfl (wp_lload_n dX11_survivor_59 rfl (wp_lload dX11_survivor_60 rfl (wp_iload_n dX11_survivor_62 rfl (wv_i2l dX11_survivor_63 ei2 (wv_lmul dX11_survivor_64 emul (wv_ladd dX11_survivor_65 eadd (wp_lstore_n dX11_survivor_66 ⟨Nat.le_of_ble_eq_true rfl, Or.inr rfl⟩ rfl (wp_lload dX11_survivor_67 rfl (wp_lload_n dX11_survivor_69 rfl ?_)))))))))))))))))))))))))))
    refine wl_ge dX11_survivor_70 dX11_survivor_71 rfl (by omega) (by omega) (fun c70 => absurd c70 (by omega)) (fun c70 => ?_)
    exact wp_lload dX11_survivor_74 rfl (wp_lconst (v := lN 1) dX11_survivor_76 rfl (wv_ladd dX11_survivor_77 (lN_add _ _) (wp_lstore dX11_survivor_78 ⟨Nat.le_of_ble_eq_true rfl, Or.inr rfl⟩ rfl (wp_lload_n dX11_survivor_80 rfl (wp_iload_n dX11_survivor_81 rfl (wv_i2l dX11_survivor_82 ei2 (wv_ladd dX11_survivor_83 (lN_add _ _) (wp_lload dX11_survivor_84 rfl (wv_lrem dX11_survivor_86 (lN_n0 (by omega) (by omega)) erem (wp_lstore_n dX11_survivor_87 ⟨Nat.le_of_ble_eq_true rfl, Or.inr rfl⟩ rfl (wp_iinc dX11_survivor_88 rfl (nI_1 _) ⟨Nat.le_of_ble_eq_true rfl, Or.inr rfl⟩ rfl (wp_goto dX11_survivor_91 rfl nx))))))))))))
  · have emin : s + min ((s - xjo q s - 1) / q) (n - s) = n := by omega
    have nx := K n (.long (lN (min ((s - xjo q s - 1) / q) (n - s)))) (.float 0) (Nat.le_refl n) (Or.inl rfl)
    rw [← emin] at nx
    have nx2 : Wp false d 10 cX11_survivor (some .long) false 88 [.long (lN n), .float 0, .int (nI (q + 1)), .long (lN (xjo q (s + min ((s - xjo q s - 1) / q) (n - s)))), .float 0, .long (lN (s + min ((s - xjo q s - 1) / q) (n - s))), .float 0, .int (nI i), (.long (lN (min ((s - xjo q s - 1) / q) (n - s)))), .float 0] [] S (fun r S' => r = some (.long (lN (xjo q n))) ∧ S' = S) := by
      rw [emin] at nx ⊢
      exact wp_iinc dX11_survivor_88 rfl (nI_1 _) ⟨Nat.le_of_ble_eq_true rfl, Or.inr rfl⟩ rfl (wp_goto dX11_survivor_91 rfl nx)
    refine wp_iload dX11_survivor_17 rfl (wp_ldcW dX11_survivor_19 k10_348 (show xKI 10 348 = nI 1000000 from rfl) ?_)
    refine wn_icmp_ge dX11_survivor_22 rfl (by omega) (by omega) (fun c22 => absurd c22 (by omega)) (fun c22 => ?_)
    refine wp_lload dX11_survivor_25 rfl (wp_lload_n dX11_survivor_27 rfl ?_)
    refine wl_ge dX11_survivor_28 dX11_survivor_29 rfl (by omega) (by omega) (fun c28 => absurd c28 (by omega)) (fun c28 => ?_)
    refine wp_lload dX11_survivor_32 rfl (wp_lload_n dX11_survivor_34 rfl (wv_lsub dX11_survivor_35 (lN_sub (by omega)) (wp_lconst (v := lN 1) dX11_survivor_36 rfl (wv_lsub dX11_survivor_37 (lN_sub (by omega)) (wp_iload_n dX11_survivor_38 rfl (wp_iconst (v := nI 1) dX11_survivor_39 rfl (wv_isub dX11_survivor_40 esub (wv_i2l dX11_survivor_41 ei1 (wv_ldiv dX11_survivor_42 (lN_n0 (by omega) (by omega)) ediv (wp_lload_n dX11_survivor_43 rfl (wp_lload dX11_survivor_44 rfl (wv_lsub dX11_survivor_46 (lN_sub (by omega)) (wl_min dX11_survivor_47 k10_349 (Nat.le_of_ble_eq_true rfl) (by omega) (by omega) (wp_lstore dX11_survivor_50 ⟨Nat.le_of_ble_eq_true rfl, Or.inr rfl⟩ rfl (wp_lload dX11_survivor_52 rfl (wp_lload dX11_survivor_54 rfl (wv_ladd dX11_survivor_56 (lN_add _ _) (wp_lstore dX11_survivor_57 ⟨Nat.le_of_ble_eq_true rfl, Or.inr rfl⟩ rfl (wp_lload_n dX11_survivor_59 rfl (wp_lload dX11_survivor_60 rfl (wp_iload_n dX11_survivor_62 rfl (wv_i2l dX11_survivor_63 ei2 (wv_lmul dX11_survivor_64 emul (wv_ladd dX11_survivor_65 eadd (wp_lstore_n dX11_survivor_66 ⟨Nat.le_of_ble_eq_true rfl, Or.inr rfl⟩ rfl (wp_lload dX11_survivor_67 rfl (wp_lload_n dX11_survivor_69 rfl ?_)))))))))))))))))))))))))))
    refine wl_ge dX11_survivor_70 dX11_survivor_71 rfl (by omega) (by omega) (fun c70 => ?_) (fun c70 => absurd c70 (by omega))
    exact nx2
theorem sv_two {q n T0 d : Nat} (hq : 1 ≤ q) (hq2 : q < 2 ^ 20) (hn : n < 2 ^ 40) (hT : 16 * q ≤ 15 * T0) {S : xS} : ∀ (D : Nat) (j s0 s i : Nat) (y8 y9 : Value), 16 * q ≤ s0 → s0 ≤ s → s ≤ n → xjo q s + 1 ≤ q → n ≤ 2 ^ D * s0 → 2 * q * s0 ≤ q * s + j * (s0 - q + 1) → i + D * T0 + j ≤ 999999 → Wp false d 10 cX11_survivor (some .long) false 17 [.long (lN n), .float 0, .int (nI (q + 1)), .long (lN (xjo q s)), .float 0, .long (lN s), .float 0, .int (nI i), y8, y9] [] S (fun r S' => r = some (.long (lN (xjo q n))) ∧ S' = S) := by
  intro D
  induction D with
  | zero =>
    intro j s0 s i y8 y9 h1 h2 h3 h4 h5 h6 h7
    have hs : s = n := by omega
    subst hs
    exact sv_exit (by omega) (by omega)
  | succ D ihD =>
    intro j
    induction j with
    | zero =>
      intro s0 s i y8 y9 h1 h2 h3 h4 h5 h6 h7
      have e : (D + 1) * T0 = D * T0 + T0 := Nat.succ_mul D T0
      have h8 : 2 * s0 ≤ s := by
        have : q * (2 * s0) ≤ q * s := by
          have e2 : q * (2 * s0) = 2 * q * s0 := by rw [← Nat.mul_assoc, Nat.mul_comm q 2]
          omega
        exact Nat.le_of_mul_le_mul_left this hq
      refine ihD T0 s s i y8 y9 (by omega) (Nat.le_refl s) h3 h4 ?_ ?_ (by omega)
      · have e3 : 2 ^ (D + 1) * s0 = 2 ^ D * (2 * s0) := by rw [Nat.pow_succ, Nat.mul_assoc]
        have := Nat.mul_le_mul_left (2 ^ D) h8
        omega
      · have g : 15 * s ≤ 16 * (s - q + 1) := by omega
        have a1 : 16 * q * s ≤ 15 * T0 * s := Nat.mul_le_mul_right s hT
        have a2 : T0 * (15 * s) ≤ T0 * (16 * (s - q + 1)) := Nat.mul_le_mul_left T0 g
        have a3 : 15 * T0 * s = T0 * (15 * s) := by rw [Nat.mul_comm 15 T0, Nat.mul_assoc]
        have a4 : T0 * (16 * (s - q + 1)) = 16 * (T0 * (s - q + 1)) := by rw [← Nat.mul_assoc, Nat.mul_comm T0 16, Nat.mul_assoc]
        have a5 : 16 * q * s = 16 * (q * s) := Nat.mul_assoc 16 q s
        have a6 : 2 * q * s = 2 * (q * s) := Nat.mul_assoc 2 q s
        omega
    | succ j ihj =>
      intro s0 s i y8 y9 h1 h2 h3 h4 h5 h6 h7
      rcases Nat.lt_or_ge s n with w | w
      · refine sv_step hq hq2 hn (by omega) w (by omega) (fun s' y8 y9 hs' h => ?_)
        rcases h with h | ⟨a, ha, ha1, hqa, hl⟩
        · subst h; exact sv_exit (by omega) (by omega)
        · have hl' := hl (by omega)
          refine ihj s0 s' (i + 1) y8 y9 h1 (by omega) hs' hl' h5 ?_ (by omega)
          have e1 : (j + 1) * (s0 - q + 1) = j * (s0 - q + 1) + (s0 - q + 1) := Nat.succ_mul j _
          have e2 : q * s' = q * s + q * a := by rw [ha, Nat.mul_add]
          omega
      · have hs : s = n := by omega
        subst hs
        exact sv_exit (by omega) (by omega)
theorem sv_one {q n T0 d : Nat} (hq : 1 ≤ q) (hq2 : q < 2 ^ 20) (hn : n < 2 ^ 40) (hT : 16 * q ≤ 15 * T0) {S : xS} : ∀ (j s i : Nat) (y8 y9 : Value), 16 * q ≤ s + j → 0 < s → s ≤ n → (q ≤ s → xjo q s + 1 ≤ q) → i + j + 40 * T0 + T0 ≤ 999999 → Wp false d 10 cX11_survivor (some .long) false 17 [.long (lN n), .float 0, .int (nI (q + 1)), .long (lN (xjo q s)), .float 0, .long (lN s), .float 0, .int (nI i), y8, y9] [] S (fun r S' => r = some (.long (lN (xjo q n))) ∧ S' = S) := by
  intro j
  induction j with
  | zero =>
    intro s i y8 y9 h1 h2 h3 h4 h5
    refine sv_two hq hq2 hn hT 40 T0 s s i y8 y9 (by omega) (Nat.le_refl s) h3 (h4 (by omega)) ?_ ?_ (by omega)
    · have : 2 ^ 40 * 1 ≤ 2 ^ 40 * s := Nat.mul_le_mul_left _ h2
      omega
    · have g : 15 * s ≤ 16 * (s - q + 1) := by omega
      have a1 : 16 * q * s ≤ 15 * T0 * s := Nat.mul_le_mul_right s hT
      have a2 : T0 * (15 * s) ≤ T0 * (16 * (s - q + 1)) := Nat.mul_le_mul_left T0 g
      have a3 : 15 * T0 * s = T0 * (15 * s) := by rw [Nat.mul_comm 15 T0, Nat.mul_assoc]
      have a4 : T0 * (16 * (s - q + 1)) = 16 * (T0 * (s - q + 1)) := by rw [← Nat.mul_assoc, Nat.mul_comm T0 16, Nat.mul_assoc]
      have a5 : 16 * q * s = 16 * (q * s) := Nat.mul_assoc 16 q s
      have a6 : 2 * q * s = 2 * (q * s) := Nat.mul_assoc 2 q s
      omega
  | succ j ih =>
    intro s i y8 y9 h1 h2 h3 h4 h5
    rcases Nat.lt_or_ge s n with w | w
    · refine sv_step hq hq2 hn h2 w (by omega) (fun s' y8 y9 hs' h => ?_)
      rcases h with h | ⟨a, ha, ha1, hqa, hl⟩
      · subst h; exact sv_exit (by omega) (by omega)
      · exact ih s' (i + 1) y8 y9 (by omega) (by omega) hs' hl (by omega)
    · have hs : s = n := by omega
      subst hs
      exact sv_exit (by omega) (by omega)
theorem c_survivor {n k : Nat} (d : Nat) (hk : 1 ≤ k) (hk2 : k ≤ 14040) (h1 : 1 ≤ n) (hn : n ≤ 1000000000000) {S : xS} : xcall false d j_X11_survivor [.long (lN n), .int (nI k)] S (some (.long (lN (if k = 1 then n - 1 else xjo (k - 1) n)))) S := by
  rcases Decidable.em (k = 1) with w | w
  · rw [if_pos w]
    subst w
    refine xcall_intro (ls := [.long (lN n), .float 0, .int (nI 1), .float 0, .float 0, .float 0, .float 0, .float 0, .float 0, .float 0]) q_X11_survivor (by decide) rfl (Nat.le_of_ble_eq_true rfl) rfl ?_
    refine wp_iload_n dX11_survivor_0 rfl (wp_iconst (v := nI 1) dX11_survivor_1 rfl ?_)
    refine wn_icmp_gt dX11_survivor_2 rfl (by omega) (by omega) (fun c2 => absurd c2 (by omega)) (fun c2 => ?_)
    exact wp_lload_n dX11_survivor_5 rfl (wp_lconst (v := lN 1) dX11_survivor_6 rfl (wv_lsub dX11_survivor_7 (lN_sub (by omega)) (wp_lreturn dX11_survivor_8 rfl ⟨rfl, rfl⟩)))
  · rw [if_neg w]
    obtain ⟨q, rfl⟩ : ∃ q, k = q + 1 := ⟨k - 1, by omega⟩
    rw [show q + 1 - 1 = q by omega]
    have hd := Nat.div_add_mod (16 * q) 15
    have hm := Nat.mod_lt (16 * q) (show 15 > 0 by decide)
    have lp := sv_one (n := n) (T0 := 16 * q / 15 + 1) (d := d) (S := S) (show 1 ≤ q by omega) (by omega) (by omega) (by omega) (16 * q) 1 0 (.float 0) (.float 0) (by omega) (by decide) h1 (fun _ => by rw [xjo, xjo, Nat.mod_one]; omega) (by omega)
    have e1 : xjo q 1 = 0 := by rw [xjo, Nat.mod_one]
    rw [e1] at lp
    refine xcall_intro (ls := [.long (lN n), .float 0, .int (nI (q + 1)), .float 0, .float 0, .float 0, .float 0, .float 0, .float 0, .float 0]) q_X11_survivor (by decide) rfl (Nat.le_of_ble_eq_true rfl) rfl ?_
    refine wp_iload_n dX11_survivor_0 rfl (wp_iconst (v := nI 1) dX11_survivor_1 rfl ?_)
    refine wn_icmp_gt dX11_survivor_2 rfl (by omega) (by omega) (fun c2 => ?_) (fun c2 => absurd c2 (by omega))
    exact wp_lconst (v := lN 0) dX11_survivor_9 rfl (wp_lstore_n dX11_survivor_10 ⟨Nat.le_of_ble_eq_true rfl, Or.inr rfl⟩ rfl (wp_lconst (v := lN 1) dX11_survivor_11 rfl (wp_lstore dX11_survivor_12 ⟨Nat.le_of_ble_eq_true rfl, Or.inr rfl⟩ rfl (wp_iconst (v := nI 0) dX11_survivor_14 rfl (wp_istore dX11_survivor_15 ⟨Nat.le_of_ble_eq_true rfl, Or.inr rfl⟩ rfl lp)))))
