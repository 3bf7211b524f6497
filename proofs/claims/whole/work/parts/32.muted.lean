/-! BEATS: the mute letters -/
def xmutF (ml : List Nat) (w : Nat → Nat) (n : Nat) : Nat → Nat
  | 0 => 0
  | z + 1 => if xmemb ml (xwd w (n - (z + 1)) (z + 1)) = true then z + 1 else xmutF ml w n z
theorem xmutF_le (ml : List Nat) (w : Nat → Nat) (n : Nat) : ∀ z, xmutF ml w n z ≤ z
  | 0 => Nat.le_refl _
  | z + 1 => by
    have := xmutF_le ml w n z
    unfold xmutF
    split <;> omega
theorem xwd_shift (w : Nat → Nat) (s i : Nat) : ∀ z, xwd (fun q => w (q - s)) (s + i) z = xwd w i z
  | 0 => rfl
  | z + 1 => by
    unfold xwd
    rw [xwd_shift w s i z]
    show _ + w (s + i + z - s) = _
    rw [show s + i + z - s = i + z by omega]
/-- a word's letters in a row of chars -/
def xLet (S : xS) (x s n : Nat) (w : Nat → Nat) : Prop := ∀ k, k < n → xsm (w k) = true ∧ S.2.1 x (s + k) = nI (w k)
theorem xprd (z : Nat) : nI (z + 1) + Int32.ofInt (-1) = nI z := by
  have h : nI (z + 1) - nI 1 = nI (z + 1 - 1) := pk_sub (by omega)
  rw [Int32.sub_eq_add_neg] at h
  exact h
theorem muted_loop {a b c x nx s n : Nat} {w : Nat → Nat} {v : xTg} {S : xS} (d : Nat) (htg : xTgC a b c) (hX : XC S) (hV : xTgV a b c S v) (hx : S.1[x]? = some (21, nx)) (hnx : nx < 1000) (hsn : s + n ≤ nx) (hL : xLet S x s n w) : ∀ (z : Nat), z ≤ 3 → z ≤ n → Wp false (d + 1) 7 cX8_mutedLetters (some .int) false 7 [.ref a, .ref x, .int (nI s), .int (nI n), .int (nI z)] [] S (fun r S' => r = some (.int (nI (xmutF v.2.2.1 w n z))) ∧ S' = S) := by
  obtain ⟨ha, hb, hc, ra, rc⟩ := htg.sh hX
  obtain ⟨v1, v2, v3, v4, v5⟩ := hV
  intro z
  induction z with
  | zero =>
    intro _ _
    refine wp_iload dX8_mutedLetters_7 rfl ?_
    refine wn_if_le dX8_mutedLetters_9 rfl (by omega) (fun c9 => ?_) (fun c9 => absurd c9 (by omega))
    exact wp_iconst (v := nI 0) dX8_mutedLetters_47 rfl (wp_ireturn dX8_mutedLetters_48 rfl rfl ⟨rfl, rfl⟩)
  | succ z ih =>
    intro h3 hn
    have gp := c_packed (S := S) (x := x) (nx := nx) (s := s + (n - (z + 1))) (z := z + 1) (t := fun q => w (q - s)) d hx hnx h3 (by omega) (fun k hk => by
      have h := hL (n - (z + 1) + k) (by omega)
      have hb := xsm_b h.1
      show w (s + (n - (z + 1)) + k - s) < 256 ∧ _ = nI (w (s + (n - (z + 1)) + k - s))
      rw [show s + (n - (z + 1)) + k - s = n - (z + 1) + k by omega, show s + (n - (z + 1)) + k = s + (n - (z + 1) + k) by omega]
      exact ⟨by omega, h.2⟩)
    rw [xwd_shift] at gp
    have hc24 : xwd w (n - (z + 1)) (z + 1) < 2 ^ 31 := by
      have := (xwd_24 (t := w) (s := n - (z + 1)) (z := z + 1) (by omega) (fun i hi => (hL _ (by omega)).1)).2
      omega
    have ga := c_isAmong (S := S) d hc (by decide) v3.2.1 hc24 v3.2.2.1 v3.2.2.2
    have e26 : nI (s + n) - nI (z + 1) = nI (s + (n - (z + 1))) := by rw [pk_sub (by omega)]; congr 1; omega
    refine wp_iload dX8_mutedLetters_7 rfl ?_
    refine wn_if_le dX8_mutedLetters_9 rfl (by omega) (fun c9 => absurd c9 (by omega)) (fun c9 => ?_)
    refine wp_aload_n dX8_mutedLetters_12 rfl rfl (g7_20 dX8_mutedLetters_13 ha rc (wp_aload_n dX8_mutedLetters_16 rfl rfl (gv7_26 dX8_mutedLetters_17 ha v3.1 (wp_aload_n dX8_mutedLetters_20 rfl rfl (wp_iload_n dX8_mutedLetters_21 rfl (wp_iload_n dX8_mutedLetters_22 rfl (wv_iadd dX8_mutedLetters_23 (nI_add _ _) (wp_iload dX8_mutedLetters_24 rfl (wv_isub dX8_mutedLetters_26 e26 (wp_iload dX8_mutedLetters_27 rfl (wp_is3 dX8_mutedLetters_29 k7_79 q_X8_packed (by decide) (Nat.le_of_ble_eq_true rfl) gp (wp_is3 dX8_mutedLetters_32 k7_105 q_X8_isAmong (by decide) (Nat.le_of_ble_eq_true rfl) ga ?_))))))))))))
    refine wb_if_eq dX8_mutedLetters_35 rfl (fun c35 => ?_) (fun c35 => ?_)
    · have e1 : xmutF v.2.2.1 w n (z + 1) = xmutF v.2.2.1 w n z := by rw [xmutF, if_neg (by rw [c35]; decide)]
      rw [e1]
      exact wp_iinc dX8_mutedLetters_41 rfl (xprd _) ⟨Nat.le_of_ble_eq_true rfl, Or.inr rfl⟩ rfl (wp_goto dX8_mutedLetters_44 rfl (ih (by omega) (by omega)))
    · have e1 : xmutF v.2.2.1 w n (z + 1) = z + 1 := by rw [xmutF, if_pos c35]
      rw [e1]
      exact wp_iload dX8_mutedLetters_38 rfl (wp_ireturn dX8_mutedLetters_40 rfl rfl ⟨rfl, rfl⟩)
theorem c_mutedLetters {a b c x nx s n : Nat} {w : Nat → Nat} {v : xTg} {S : xS} (d : Nat) (htg : xTgC a b c) (hX : XC S) (hV : xTgV a b c S v) (hx : S.1[x]? = some (21, nx)) (hnx : nx < 1000) (hsn : s + n ≤ nx) (hL : xLet S x s n w) (hn1 : n < 2 ^ 31) : xcall false (d + 1) j_X8_mutedLetters [.ref a, .ref x, .int (nI s), .int (nI n)] S (some (.int (nI (xmutF v.2.2.1 w n (min n 3))))) S := by
  refine xcall_intro (ls := [.ref a, .ref x, .int (nI s), .int (nI n), .float 0]) q_X8_mutedLetters (by decide) rfl (Nat.le_of_ble_eq_true rfl) rfl ?_
  exact wp_iload_n dX8_mutedLetters_0 rfl (wp_iconst (v := nI 3) dX8_mutedLetters_1 rfl (wn_min dX8_mutedLetters_2 k7_109 (Nat.le_of_ble_eq_true rfl) (by omega) (by omega) rfl (wp_istore dX8_mutedLetters_5 ⟨Nat.le_of_ble_eq_true rfl, Or.inr rfl⟩ rfl (muted_loop d htg hX hV hx hnx hsn hL (min n 3) (by omega) (by omega)))))
