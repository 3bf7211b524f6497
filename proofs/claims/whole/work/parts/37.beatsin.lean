/-! BEATS of a word, of the class: the count of bits, and the whole -/
def xbc1 (x : Int32) : Int32 := x - ((x.toUInt32 >>> ((1 : Int32).toUInt32 &&& Int32.toUInt32 31)).toInt32 &&& 1431655765)
def xbc2 (x : Int32) : Int32 := (x &&& 858993459) + ((x.toUInt32 >>> ((2 : Int32).toUInt32 &&& Int32.toUInt32 31)).toInt32 &&& 858993459)
def xbc3 (x : Int32) : Int32 := (x + (x.toUInt32 >>> ((4 : Int32).toUInt32 &&& Int32.toUInt32 31)).toInt32) &&& 252645135
def xbc4 (x : Int32) : Int32 := x + (x.toUInt32 >>> ((8 : Int32).toUInt32 &&& Int32.toUInt32 31)).toInt32
def xbc5 (x : Int32) : Int32 := x + (x.toUInt32 >>> ((16 : Int32).toUInt32 &&& Int32.toUInt32 31)).toInt32
def xbc (x : Int32) : Int32 := xbc5 (xbc4 (xbc3 (xbc2 (xbc1 x)))) &&& 63
theorem xbc_all2 : ∀ q, q < 64 → ∀ r, r < 64 → xbc (nI (64 * q + r)) = nI (xcb (64 * q + r) 12) := by decide +kernel
theorem xbc_all (k : Nat) (hk : k < 4096) : xbc (nI k) = nI (xcb k 12) := by
  have h := xbc_all2 (k / 64) (by omega) (k % 64) (by omega)
  rw [show 64 * (k / 64) + k % 64 = k by omega] at h
  exact h
theorem c_bitCount (k d : Nat) {S : xS} (hk : k < 4096) : xcall false d j_J6_bitCount_0f7a4 [.int (nI k)] S (some (.int (nI (xcb k 12)))) S := by
  have e := xbc_all k hk
  refine xcall_intro (ls := [.int (nI k)]) q_J6_bitCount_0f7a4 (by decide) rfl (Nat.le_of_ble_eq_true rfl) rfl ?_
  exact wp_iload_n dJ6_bitCount_0f7a4_0 rfl (wp_iload_n dJ6_bitCount_0f7a4_1 rfl (wp_iconst (v := nI 1) dJ6_bitCount_0f7a4_2 rfl (wp_iushr dJ6_bitCount_0f7a4_3 (wp_ldcW dJ6_bitCount_0f7a4_4 k13_265 rfl (wp_iand dJ6_bitCount_0f7a4_7 (wp_isub dJ6_bitCount_0f7a4_8 (wp_istore_n dJ6_bitCount_0f7a4_9 ⟨Nat.le_of_ble_eq_true rfl, Or.inl rfl⟩ rfl (wp_iload_n dJ6_bitCount_0f7a4_10 rfl (wp_ldcW dJ6_bitCount_0f7a4_11 k13_266 rfl (wp_iand dJ6_bitCount_0f7a4_14 (wp_iload_n dJ6_bitCount_0f7a4_15 rfl (wp_iconst (v := nI 2) dJ6_bitCount_0f7a4_16 rfl (wp_iushr dJ6_bitCount_0f7a4_17 (wp_ldcW dJ6_bitCount_0f7a4_18 k13_266 rfl (wp_iand dJ6_bitCount_0f7a4_21 (wp_iadd dJ6_bitCount_0f7a4_22 (wp_istore_n dJ6_bitCount_0f7a4_23 ⟨Nat.le_of_ble_eq_true rfl, Or.inl rfl⟩ rfl (wp_iload_n dJ6_bitCount_0f7a4_24 rfl (wp_iload_n dJ6_bitCount_0f7a4_25 rfl (wp_iconst (v := nI 4) dJ6_bitCount_0f7a4_26 rfl (wp_iushr dJ6_bitCount_0f7a4_27 (wp_iadd dJ6_bitCount_0f7a4_28 (wp_ldcW dJ6_bitCount_0f7a4_29 k13_267 rfl (wp_iand dJ6_bitCount_0f7a4_32 (wp_istore_n dJ6_bitCount_0f7a4_33 ⟨Nat.le_of_ble_eq_true rfl, Or.inl rfl⟩ rfl (wp_iload_n dJ6_bitCount_0f7a4_34 rfl (wp_iload_n dJ6_bitCount_0f7a4_35 rfl (wp_bipush (v := nI 8) dJ6_bitCount_0f7a4_36 rfl (wp_iushr dJ6_bitCount_0f7a4_38 (wp_iadd dJ6_bitCount_0f7a4_39 (wp_istore_n dJ6_bitCount_0f7a4_40 ⟨Nat.le_of_ble_eq_true rfl, Or.inl rfl⟩ rfl (wp_iload_n dJ6_bitCount_0f7a4_41 rfl (wp_iload_n dJ6_bitCount_0f7a4_42 rfl (wp_bipush (v := nI 16) dJ6_bitCount_0f7a4_43 rfl (wp_iushr dJ6_bitCount_0f7a4_45 (wp_iadd dJ6_bitCount_0f7a4_46 (wp_istore_n dJ6_bitCount_0f7a4_47 ⟨Nat.le_of_ble_eq_true rfl, Or.inl rfl⟩ rfl (wp_iload_n dJ6_bitCount_0f7a4_48 rfl (wp_bipush (v := nI 63) dJ6_bitCount_0f7a4_49 rfl (wp_iand dJ6_bitCount_0f7a4_51 (wp_ireturn dJ6_bitCount_0f7a4_52 rfl rfl ⟨congrArg (fun z => some (Value.int z)) e, rfl⟩)))))))))))))))))))))))))))))))))))))))))
theorem xcb_up {b n : Nat} (h : b < 2 ^ n) : ∀ m, n ≤ m → xcb b m = xcb b n := by
  intro m
  induction m with
  | zero => intro q; rw [show n = 0 by omega]
  | succ m ih =>
    intro q
    rcases Nat.lt_or_ge m n with w | w
    · rw [show n = m + 1 by omega]
    · rw [xcb, ih w, Nat.testBit_lt_two_pow (Nat.lt_of_lt_of_le h (Nat.pow_le_pow_right (by decide) w))]
      rfl
theorem c_beatsIn {a b c x nx s n : Nat} {w : Nat → Nat} {v : xTg} {S : xS} (d : Nat) (htg : xTgC a b c) (hX : XC S) (hV : xTgV a b c S v) (hx : S.1[x]? = some (21, nx)) (hnx : nx < 1000) (hsn : s + n ≤ nx) (hn12 : n ≤ 12) (hL : xLet S x s n w) : xcall false (d + 2) j_X8_beatsIn [.ref a, .ref x, .int (nI s), .int (nI n)] S (some (.int (nI (xbeats v w n)))) S := by
  obtain ⟨ha, hb, hc, ra, rc⟩ := htg.sh hX
  have gv := c_vowelBeats d htg hX hV hx hnx hsn (by omega) hL
  have gm := c_mutedLetters d htg hX hV hx hnx hsn hL (by omega)
  have hz := xmutF_le v.2.2.1 w n (min n 3)
  have hvb := xvb_lt v.1 v.2.1 w n
  have h12 : 2 ^ n ≤ 2 ^ 12 := Nat.pow_le_pow_right (by decide) hn12
  have hbb := xbb_lt v w n
  have hmod : (xvb v.1 v.2.1 w n).1 % 2 ^ (n - xmutF v.2.2.1 w n (min n 3)) ≤ (xvb v.1 v.2.1 w n).1 := Nat.mod_le _ _
  have hpos := Nat.two_pow_pos (n - xmutF v.2.2.1 w n (min n 3))
  have hle : 2 ^ (n - xmutF v.2.2.1 w n (min n 3)) ≤ 2 ^ 12 := Nat.pow_le_pow_right (by decide) (by omega)
  have em := fa_mask (xvb v.1 v.2.1 w n).1 (n - xmutF v.2.2.1 w n (min n 3))
  have es : nI (2 ^ (n - xmutF v.2.2.1 w n (min n 3))) - nI 1 = nI (2 ^ (n - xmutF v.2.2.1 w n (min n 3)) - 1) := pk_sub (by omega)
  have gb := c_bitCount (S := S) (xbb v w n) (d + 1) (by omega)
  have eu := xcb_up hbb 12 hn12
  have hc12 := xcb_le (xbb v w n) 12
  have ex : max 1 (xcb (xbb v w n) 12) = xbeats v w n := by unfold xbeats; rw [eu]; split <;> omega
  have t40 (y4 y5 : Int32) : Wp false (d + 2) 7 cX8_beatsIn (some .int) false 40 [.ref a, .ref x, .int (nI s), .int (nI n), .int y4, .int y5] [.int (nI (xbb v w n)), .int (nI 1)] S (fun r S' => r = some (.int (nI (xbeats v w n))) ∧ S' = S) := by
    exact wp_is1 dX8_beatsIn_40 k7_89 q_J6_bitCount_0f7a4 (by decide) (Nat.le_of_ble_eq_true rfl) gb (wn_max dX8_beatsIn_43 k7_95 (Nat.le_of_ble_eq_true rfl) (by omega) (by omega) ex (wp_ireturn dX8_beatsIn_46 rfl rfl ⟨rfl, rfl⟩))
  refine xcall_intro (ls := [.ref a, .ref x, .int (nI s), .int (nI n), .float 0, .float 0]) q_X8_beatsIn (by decide) rfl (Nat.le_of_ble_eq_true rfl) rfl ?_
  refine wp_aload_n dX8_beatsIn_0 rfl rfl (wp_aload_n dX8_beatsIn_1 rfl rfl (wp_iload_n dX8_beatsIn_2 rfl (wp_iload_n dX8_beatsIn_3 rfl (wp_iv4 dX8_beatsIn_4 k7_83 q_X8_vowelBeats (by decide) ha (by decide) (Nat.le_of_ble_eq_true rfl) gv (wp_istore dX8_beatsIn_7 ⟨Nat.le_of_ble_eq_true rfl, Or.inr rfl⟩ rfl (wp_iload dX8_beatsIn_9 rfl (wp_iconst (v := nI 1) dX8_beatsIn_11 rfl (wp_iload_n dX8_beatsIn_12 rfl (wp_aload_n dX8_beatsIn_13 rfl rfl (wp_aload_n dX8_beatsIn_14 rfl rfl (wp_iload_n dX8_beatsIn_15 rfl (wp_iload_n dX8_beatsIn_16 rfl (wp_iv4 dX8_beatsIn_17 k7_86 q_X8_mutedLetters (by decide) ha (by decide) (Nat.le_of_ble_eq_true rfl) gm (wv_isub dX8_beatsIn_20 (pk_sub (by omega)) (wv_ishl dX8_beatsIn_21 (xsh1 (by omega)) (wp_iconst (v := nI 1) dX8_beatsIn_22 rfl (wv_isub dX8_beatsIn_23 es (wv_iand dX8_beatsIn_24 em (wp_istore dX8_beatsIn_25 ⟨Nat.le_of_ble_eq_true rfl, Or.inr rfl⟩ rfl (wp_iconst (v := nI 1) dX8_beatsIn_27 rfl (wp_iload dX8_beatsIn_28 rfl ?_)))))))))))))))))))))
  refine wn_if_eq dX8_beatsIn_30 rfl (by omega) (fun c30 => ?_) (fun c30 => ?_)
  · refine wp_iload dX8_beatsIn_38 rfl ?_
    rw [show nI (xvb v.1 v.2.1 w n).1 = nI (xbb v w n) by unfold xbb; rw [if_pos c30]]
    exact t40 _ _
  · refine wp_iload dX8_beatsIn_33 rfl (wp_goto dX8_beatsIn_35 rfl ?_)
    rw [show nI ((xvb v.1 v.2.1 w n).1 % 2 ^ (n - xmutF v.2.2.1 w n (min n 3))) = nI (xbb v w n) by unfold xbb; rw [if_neg (by omega)]]
    exact t40 _ _
