/-! BEATS: the letters that are BEATS, as the class finds them -/
def xvb (vow : Nat) (ps : List Nat) (w : Nat → Nat) : Nat → Nat × Bool
  | 0 => (0, false)
  | i + 1 => if vow.testBit (w i - 97) = true then (if (xvb vow ps w i).2 = true ∧ xmemb ps (xwd w (i - 1) 2) = true then ((xvb vow ps w i).1, false) else ((xvb vow ps w i).1 ||| 2 ^ i, true)) else ((xvb vow ps w i).1, false)
theorem xvb_can0 (vow : Nat) (ps : List Nat) (w : Nat → Nat) {i : Nat} (h : (xvb vow ps w i).2 = true) : 0 < i := by
  rcases i with _ | i
  · cases h
  · omega
theorem xvb_lt (vow : Nat) (ps : List Nat) (w : Nat → Nat) : ∀ i, (xvb vow ps w i).1 < 2 ^ i
  | 0 => Nat.one_pos
  | i + 1 => by
    have h := xvb_lt vow ps w i
    have h2 : 2 ^ i < 2 ^ (i + 1) := Nat.pow_lt_pow_right (by decide) (by omega)
    unfold xvb
    split
    · split
      · exact Nat.lt_trans h h2
      · exact Nat.or_lt_two_pow (Nat.lt_trans h h2) h2
    · exact Nat.lt_trans h h2
theorem vb_loop {a b c x nx s n : Nat} {w : Nat → Nat} {v : xTg} {S : xS} (d : Nat) (htg : xTgC a b c) (hX : XC S) (hV : xTgV a b c S v) (hx : S.1[x]? = some (21, nx)) (hnx : nx < 1000) (hsn : s + n ≤ nx) (hn30 : n ≤ 30) (hL : xLet S x s n w) : ∀ (j i : Nat) (y7 y8 y9 : Value), i + j = n → Wp false (d + 1) 7 cX8_vowelBeats (some .int) false 9 [.ref a, .ref x, .int (nI s), .int (nI n), .int (nI (xvb v.1 v.2.1 w i).1), .int (xB (xvb v.1 v.2.1 w i).2), .int (nI i), y7, y8, y9] [] S (fun r S' => r = some (.int (nI (xvb v.1 v.2.1 w n).1)) ∧ S' = S) := by
  have htg' := htg
  unfold xTgC at htg'
  obtain ⟨ha, hb, hc, ra, rc⟩ := htg.sh hX
  obtain ⟨v1, v2, v3, v4, v5⟩ := hV
  intro j
  induction j with
  | zero =>
    intro i y7 y8 y9 hi
    have : i = n := by omega
    subst this
    refine wp_iload dX8_vowelBeats_9 rfl (wp_iload_n dX8_vowelBeats_11 rfl ?_)
    refine wn_icmp_ge dX8_vowelBeats_12 rfl (by omega) (by omega) (fun c12 => ?_) (fun c12 => absurd c12 (by omega))
    exact wp_iload dX8_vowelBeats_146 rfl (wp_ireturn dX8_vowelBeats_148 rfl rfl ⟨rfl, rfl⟩)
  | succ j ih =>
    intro i y7 y8 y9 hi
    have h := hL i (by omega)
    have hbb := xsm_b h.1
    cases hv : v.1.testBit (w i - 97) with
    | false =>
      have eN : xvb v.1 v.2.1 w (i + 1) = ((xvb v.1 v.2.1 w i).1, false) := by rw [xvb, if_neg (by rw [hv]; decide)]
      refine wp_iload dX8_vowelBeats_9 rfl (wp_iload_n dX8_vowelBeats_11 rfl ?_)
      refine wn_icmp_ge dX8_vowelBeats_12 rfl (by omega) (by omega) (fun c12 => absurd c12 (by omega)) (fun c12 => ?_)
      refine wp_iload_n dX8_vowelBeats_15 rfl (wp_iload dX8_vowelBeats_16 rfl (wv_iadd dX8_vowelBeats_18 (nI_add _ _) (wp_aload_n dX8_vowelBeats_19 rfl rfl (wv_alen dX8_vowelBeats_20 hx ⟨by decide, by decide⟩ rfl ?_))))
      refine wn_icmp_ge dX8_vowelBeats_21 rfl (by omega) (by omega) (fun c21 => absurd c21 (by omega)) (fun c21 => ?_)
      refine wp_aload_n dX8_vowelBeats_24 rfl rfl (wp_iload_n dX8_vowelBeats_25 rfl (wp_iload dX8_vowelBeats_26 rfl (wv_iadd dX8_vowelBeats_28 (nI_add _ _) (wn_caload dX8_vowelBeats_29 hx rfl (by omega) (by omega) h.2 (wp_istore dX8_vowelBeats_30 ⟨Nat.le_of_ble_eq_true rfl, Or.inr rfl⟩ rfl (wp_iload dX8_vowelBeats_32 rfl (wp_is1 dX8_vowelBeats_34 k7_101 q_X11_isSmall (by decide) (Nat.le_of_ble_eq_true rfl) (c_isSmall (by omega) d S) ?_)))))))
      refine wb_if_eq dX8_vowelBeats_37 rfl (fun c37 => absurd c37 (by rw [h.1]; decide)) (fun c37 => ?_)
      refine wp_aload_n dX8_vowelBeats_40 rfl rfl (gv7_12 dX8_vowelBeats_41 ha v1.1 (wp_iload dX8_vowelBeats_44 rfl (wp_bipush (v := nI 97) dX8_vowelBeats_46 rfl (wv_isub dX8_vowelBeats_48 (pk_sub (by omega)) (wp_ishr dX8_vowelBeats_49 (wp_iconst (v := nI 1) dX8_vowelBeats_50 rfl (wv_iand dX8_vowelBeats_51 (xbit v.1 (w i - 97) (by omega) (by omega)) ?_)))))))
      refine wb_if_eq dX8_vowelBeats_52 rfl (fun c52 => ?_) (fun c52 => absurd c52 (by rw [hv]; decide))
      refine wp_iconst (v := nI 0) dX8_vowelBeats_59 rfl (wp_istore dX8_vowelBeats_60 ⟨Nat.le_of_ble_eq_true rfl, Or.inr rfl⟩ rfl (wp_iload dX8_vowelBeats_62 rfl ?_))
      refine wn_if_eq dX8_vowelBeats_64 rfl (by omega) (fun c64 => ?_) (fun c64 => absurd c64 (by omega))
      refine wp_iconst (v := nI 0) dX8_vowelBeats_101 rfl (wp_istore dX8_vowelBeats_102 ⟨Nat.le_of_ble_eq_true rfl, Or.inr rfl⟩ rfl (wp_iload dX8_vowelBeats_104 rfl ?_))
      refine wn_if_eq dX8_vowelBeats_106 rfl (by omega) (fun c106 => ?_) (fun c106 => absurd c106 (by omega))
      refine wp_iload dX8_vowelBeats_123 rfl ?_
      refine wn_if_eq dX8_vowelBeats_125 rfl (by omega) (fun c125 => ?_) (fun c125 => absurd c125 (by omega))
      refine wp_iconst (v := nI 0) dX8_vowelBeats_137 rfl (wp_istore dX8_vowelBeats_138 ⟨Nat.le_of_ble_eq_true rfl, Or.inr rfl⟩ rfl (wp_iinc dX8_vowelBeats_140 rfl (nI_1 _) ⟨Nat.le_of_ble_eq_true rfl, Or.inr rfl⟩ rfl (wp_goto dX8_vowelBeats_143 rfl ?_)))
      refine wp_locals (ls' := [.ref a, .ref x, .int (nI s), .int (nI n), .int (nI (xvb v.1 v.2.1 w (i + 1)).1), .int (xB (xvb v.1 v.2.1 w (i + 1)).2), .int (nI (i + 1)), _, _, _]) (by rw [eN]; rfl) ?_
      exact ih (i + 1) _ _ _ (by omega)
    | true =>
      cases hcj : (xvb v.1 v.2.1 w i).2 with
      | false =>
        have eN : xvb v.1 v.2.1 w (i + 1) = ((xvb v.1 v.2.1 w i).1 ||| 2 ^ i, true) := by rw [xvb, if_pos hv, if_neg (by rw [hcj]; simp)]
        refine wp_iload dX8_vowelBeats_9 rfl (wp_iload_n dX8_vowelBeats_11 rfl ?_)
        refine wn_icmp_ge dX8_vowelBeats_12 rfl (by omega) (by omega) (fun c12 => absurd c12 (by omega)) (fun c12 => ?_)
        refine wp_iload_n dX8_vowelBeats_15 rfl (wp_iload dX8_vowelBeats_16 rfl (wv_iadd dX8_vowelBeats_18 (nI_add _ _) (wp_aload_n dX8_vowelBeats_19 rfl rfl (wv_alen dX8_vowelBeats_20 hx ⟨by decide, by decide⟩ rfl ?_))))
        refine wn_icmp_ge dX8_vowelBeats_21 rfl (by omega) (by omega) (fun c21 => absurd c21 (by omega)) (fun c21 => ?_)
        refine wp_aload_n dX8_vowelBeats_24 rfl rfl (wp_iload_n dX8_vowelBeats_25 rfl (wp_iload dX8_vowelBeats_26 rfl (wv_iadd dX8_vowelBeats_28 (nI_add _ _) (wn_caload dX8_vowelBeats_29 hx rfl (by omega) (by omega) h.2 (wp_istore dX8_vowelBeats_30 ⟨Nat.le_of_ble_eq_true rfl, Or.inr rfl⟩ rfl (wp_iload dX8_vowelBeats_32 rfl (wp_is1 dX8_vowelBeats_34 k7_101 q_X11_isSmall (by decide) (Nat.le_of_ble_eq_true rfl) (c_isSmall (by omega) d S) ?_)))))))
        refine wb_if_eq dX8_vowelBeats_37 rfl (fun c37 => absurd c37 (by rw [h.1]; decide)) (fun c37 => ?_)
        refine wp_aload_n dX8_vowelBeats_40 rfl rfl (gv7_12 dX8_vowelBeats_41 ha v1.1 (wp_iload dX8_vowelBeats_44 rfl (wp_bipush (v := nI 97) dX8_vowelBeats_46 rfl (wv_isub dX8_vowelBeats_48 (pk_sub (by omega)) (wp_ishr dX8_vowelBeats_49 (wp_iconst (v := nI 1) dX8_vowelBeats_50 rfl (wv_iand dX8_vowelBeats_51 (xbit v.1 (w i - 97) (by omega) (by omega)) ?_)))))))
        refine wb_if_eq dX8_vowelBeats_52 rfl (fun c52 => absurd c52 (by rw [hv]; decide)) (fun c52 => ?_)
        refine wp_iconst (v := nI 1) dX8_vowelBeats_55 rfl (wp_goto dX8_vowelBeats_56 rfl (wp_istore dX8_vowelBeats_60 ⟨Nat.le_of_ble_eq_true rfl, Or.inr rfl⟩ rfl (wp_iload dX8_vowelBeats_62 rfl ?_)))
        refine wn_if_eq dX8_vowelBeats_64 rfl (by omega) (fun c64 => absurd c64 (by omega)) (fun c64 => ?_)
        refine wp_iload dX8_vowelBeats_67 rfl ?_
        refine wb_if_eq dX8_vowelBeats_69 rfl (fun c69 => ?_) (fun c69 => absurd c69 (by decide))
        refine wp_iconst (v := nI 0) dX8_vowelBeats_101 rfl (wp_istore dX8_vowelBeats_102 ⟨Nat.le_of_ble_eq_true rfl, Or.inr rfl⟩ rfl (wp_iload dX8_vowelBeats_104 rfl ?_))
        refine wn_if_eq dX8_vowelBeats_106 rfl (by omega) (fun c106 => absurd c106 (by omega)) (fun c106 => ?_)
        refine wp_iload dX8_vowelBeats_109 rfl ?_
        refine wn_if_ne dX8_vowelBeats_111 rfl (by omega) (fun c111 => absurd c111 (by omega)) (fun c111 => ?_)
        refine wp_iload dX8_vowelBeats_114 rfl (wp_iconst (v := nI 1) dX8_vowelBeats_116 rfl (wp_iload dX8_vowelBeats_117 rfl (wv_ishl dX8_vowelBeats_119 (xsh1 (by omega)) (wv_ior dX8_vowelBeats_120 (fa_or _ _) (wp_istore dX8_vowelBeats_121 ⟨Nat.le_of_ble_eq_true rfl, Or.inr rfl⟩ rfl (wp_iload dX8_vowelBeats_123 rfl ?_))))))
        refine wn_if_eq dX8_vowelBeats_125 rfl (by omega) (fun c125 => absurd c125 (by omega)) (fun c125 => ?_)
        refine wp_iload dX8_vowelBeats_128 rfl ?_
        refine wn_if_ne dX8_vowelBeats_130 rfl (by omega) (fun c130 => absurd c130 (by omega)) (fun c130 => ?_)
        refine wp_iconst (v := nI 1) dX8_vowelBeats_133 rfl (wp_goto dX8_vowelBeats_134 rfl (wp_istore dX8_vowelBeats_138 ⟨Nat.le_of_ble_eq_true rfl, Or.inr rfl⟩ rfl (wp_iinc dX8_vowelBeats_140 rfl (nI_1 _) ⟨Nat.le_of_ble_eq_true rfl, Or.inr rfl⟩ rfl (wp_goto dX8_vowelBeats_143 rfl ?_))))
        refine wp_locals (ls' := [.ref a, .ref x, .int (nI s), .int (nI n), .int (nI (xvb v.1 v.2.1 w (i + 1)).1), .int (xB (xvb v.1 v.2.1 w (i + 1)).2), .int (nI (i + 1)), _, _, _]) (by rw [eN]; rfl) ?_
        exact ih (i + 1) _ _ _ (by omega)
      | true =>
        have hi0 := xvb_can0 _ _ _ hcj
        have gp := c_packed (S := S) (x := x) (nx := nx) (s := s + (i - 1)) (z := 2) (t := fun q => w (q - s)) d hx hnx (by decide) (by omega) (fun k hk => by
          have h := hL (i - 1 + k) (by omega)
          have hb := xsm_b h.1
          show w (s + (i - 1) + k - s) < 256 ∧ _ = nI (w (s + (i - 1) + k - s))
          rw [show s + (i - 1) + k - s = i - 1 + k by omega, show s + (i - 1) + k = s + (i - 1 + k) by omega]
          exact ⟨by omega, h.2⟩)
        rw [xwd_shift] at gp
        have hc24 : xwd w (i - 1) 2 < 2 ^ 31 := by
          have := (xwd_24 (t := w) (s := i - 1) (z := 2) (by omega) (fun q hq => (hL _ (by omega)).1)).2
          omega
        have ga := c_isAmong (S := S) d hb (by decide) v2.2.1 hc24 v2.2.2.1 v2.2.2.2
        have e86 : nI (s + i) - nI 1 = nI (s + (i - 1)) := by rw [pk_sub (by omega)]; congr 1; omega
        cases hm : xmemb v.2.1 (xwd w (i - 1) 2) with
        | false =>
          have eN : xvb v.1 v.2.1 w (i + 1) = ((xvb v.1 v.2.1 w i).1 ||| 2 ^ i, true) := by rw [xvb, if_pos hv, if_neg (by rw [hm]; simp)]
          refine wp_iload dX8_vowelBeats_9 rfl (wp_iload_n dX8_vowelBeats_11 rfl ?_)
          refine wn_icmp_ge dX8_vowelBeats_12 rfl (by omega) (by omega) (fun c12 => absurd c12 (by omega)) (fun c12 => ?_)
          refine wp_iload_n dX8_vowelBeats_15 rfl (wp_iload dX8_vowelBeats_16 rfl (wv_iadd dX8_vowelBeats_18 (nI_add _ _) (wp_aload_n dX8_vowelBeats_19 rfl rfl (wv_alen dX8_vowelBeats_20 hx ⟨by decide, by decide⟩ rfl ?_))))
          refine wn_icmp_ge dX8_vowelBeats_21 rfl (by omega) (by omega) (fun c21 => absurd c21 (by omega)) (fun c21 => ?_)
          refine wp_aload_n dX8_vowelBeats_24 rfl rfl (wp_iload_n dX8_vowelBeats_25 rfl (wp_iload dX8_vowelBeats_26 rfl (wv_iadd dX8_vowelBeats_28 (nI_add _ _) (wn_caload dX8_vowelBeats_29 hx rfl (by omega) (by omega) h.2 (wp_istore dX8_vowelBeats_30 ⟨Nat.le_of_ble_eq_true rfl, Or.inr rfl⟩ rfl (wp_iload dX8_vowelBeats_32 rfl (wp_is1 dX8_vowelBeats_34 k7_101 q_X11_isSmall (by decide) (Nat.le_of_ble_eq_true rfl) (c_isSmall (by omega) d S) ?_)))))))
          refine wb_if_eq dX8_vowelBeats_37 rfl (fun c37 => absurd c37 (by rw [h.1]; decide)) (fun c37 => ?_)
          refine wp_aload_n dX8_vowelBeats_40 rfl rfl (gv7_12 dX8_vowelBeats_41 ha v1.1 (wp_iload dX8_vowelBeats_44 rfl (wp_bipush (v := nI 97) dX8_vowelBeats_46 rfl (wv_isub dX8_vowelBeats_48 (pk_sub (by omega)) (wp_ishr dX8_vowelBeats_49 (wp_iconst (v := nI 1) dX8_vowelBeats_50 rfl (wv_iand dX8_vowelBeats_51 (xbit v.1 (w i - 97) (by omega) (by omega)) ?_)))))))
          refine wb_if_eq dX8_vowelBeats_52 rfl (fun c52 => absurd c52 (by rw [hv]; decide)) (fun c52 => ?_)
          refine wp_iconst (v := nI 1) dX8_vowelBeats_55 rfl (wp_goto dX8_vowelBeats_56 rfl (wp_istore dX8_vowelBeats_60 ⟨Nat.le_of_ble_eq_true rfl, Or.inr rfl⟩ rfl (wp_iload dX8_vowelBeats_62 rfl ?_)))
          refine wn_if_eq dX8_vowelBeats_64 rfl (by omega) (fun c64 => absurd c64 (by omega)) (fun c64 => ?_)
          refine wp_iload dX8_vowelBeats_67 rfl ?_
          refine wb_if_eq dX8_vowelBeats_69 rfl (fun c69 => absurd c69 (by decide)) (fun c69 => ?_)
          refine wp_aload_n dX8_vowelBeats_72 rfl rfl (g7_16 dX8_vowelBeats_73 ha ra (wp_aload_n dX8_vowelBeats_76 rfl rfl (gv7_23 dX8_vowelBeats_77 ha v2.1 (wp_aload_n dX8_vowelBeats_80 rfl rfl (wp_iload_n dX8_vowelBeats_81 rfl (wp_iload dX8_vowelBeats_82 rfl (wv_iadd dX8_vowelBeats_84 (nI_add _ _) (wp_iconst (v := nI 1) dX8_vowelBeats_85 rfl (wv_isub dX8_vowelBeats_86 e86 (wp_iconst (v := nI 2) dX8_vowelBeats_87 rfl (wp_is3 dX8_vowelBeats_88 k7_79 q_X8_packed (by decide) (Nat.le_of_ble_eq_true rfl) gp (wp_is3 dX8_vowelBeats_91 k7_105 q_X8_isAmong (by decide) (Nat.le_of_ble_eq_true rfl) ga ?_))))))))))))
          refine wb_if_eq dX8_vowelBeats_94 rfl (fun c94 => ?_) (fun c94 => absurd c94 (by rw [hm]; decide))
          refine wp_iconst (v := nI 0) dX8_vowelBeats_101 rfl (wp_istore dX8_vowelBeats_102 ⟨Nat.le_of_ble_eq_true rfl, Or.inr rfl⟩ rfl (wp_iload dX8_vowelBeats_104 rfl ?_))
          refine wn_if_eq dX8_vowelBeats_106 rfl (by omega) (fun c106 => absurd c106 (by omega)) (fun c106 => ?_)
          refine wp_iload dX8_vowelBeats_109 rfl ?_
          refine wn_if_ne dX8_vowelBeats_111 rfl (by omega) (fun c111 => absurd c111 (by omega)) (fun c111 => ?_)
          refine wp_iload dX8_vowelBeats_114 rfl (wp_iconst (v := nI 1) dX8_vowelBeats_116 rfl (wp_iload dX8_vowelBeats_117 rfl (wv_ishl dX8_vowelBeats_119 (xsh1 (by omega)) (wv_ior dX8_vowelBeats_120 (fa_or _ _) (wp_istore dX8_vowelBeats_121 ⟨Nat.le_of_ble_eq_true rfl, Or.inr rfl⟩ rfl (wp_iload dX8_vowelBeats_123 rfl ?_))))))
          refine wn_if_eq dX8_vowelBeats_125 rfl (by omega) (fun c125 => absurd c125 (by omega)) (fun c125 => ?_)
          refine wp_iload dX8_vowelBeats_128 rfl ?_
          refine wn_if_ne dX8_vowelBeats_130 rfl (by omega) (fun c130 => absurd c130 (by omega)) (fun c130 => ?_)
          refine wp_iconst (v := nI 1) dX8_vowelBeats_133 rfl (wp_goto dX8_vowelBeats_134 rfl (wp_istore dX8_vowelBeats_138 ⟨Nat.le_of_ble_eq_true rfl, Or.inr rfl⟩ rfl (wp_iinc dX8_vowelBeats_140 rfl (nI_1 _) ⟨Nat.le_of_ble_eq_true rfl, Or.inr rfl⟩ rfl (wp_goto dX8_vowelBeats_143 rfl ?_))))
          refine wp_locals (ls' := [.ref a, .ref x, .int (nI s), .int (nI n), .int (nI (xvb v.1 v.2.1 w (i + 1)).1), .int (xB (xvb v.1 v.2.1 w (i + 1)).2), .int (nI (i + 1)), _, _, _]) (by rw [eN]; rfl) ?_
          exact ih (i + 1) _ _ _ (by omega)
        | true =>
          have eN : xvb v.1 v.2.1 w (i + 1) = ((xvb v.1 v.2.1 w i).1, false) := by rw [xvb, if_pos hv, if_pos ⟨hcj, hm⟩]
          refine wp_iload dX8_vowelBeats_9 rfl (wp_iload_n dX8_vowelBeats_11 rfl ?_)
          refine wn_icmp_ge dX8_vowelBeats_12 rfl (by omega) (by omega) (fun c12 => absurd c12 (by omega)) (fun c12 => ?_)
          refine wp_iload_n dX8_vowelBeats_15 rfl (wp_iload dX8_vowelBeats_16 rfl (wv_iadd dX8_vowelBeats_18 (nI_add _ _) (wp_aload_n dX8_vowelBeats_19 rfl rfl (wv_alen dX8_vowelBeats_20 hx ⟨by decide, by decide⟩ rfl ?_))))
          refine wn_icmp_ge dX8_vowelBeats_21 rfl (by omega) (by omega) (fun c21 => absurd c21 (by omega)) (fun c21 => ?_)
          refine wp_aload_n dX8_vowelBeats_24 rfl rfl (wp_iload_n dX8_vowelBeats_25 rfl (wp_iload dX8_vowelBeats_26 rfl (wv_iadd dX8_vowelBeats_28 (nI_add _ _) (wn_caload dX8_vowelBeats_29 hx rfl (by omega) (by omega) h.2 (wp_istore dX8_vowelBeats_30 ⟨Nat.le_of_ble_eq_true rfl, Or.inr rfl⟩ rfl (wp_iload dX8_vowelBeats_32 rfl (wp_is1 dX8_vowelBeats_34 k7_101 q_X11_isSmall (by decide) (Nat.le_of_ble_eq_true rfl) (c_isSmall (by omega) d S) ?_)))))))
          refine wb_if_eq dX8_vowelBeats_37 rfl (fun c37 => absurd c37 (by rw [h.1]; decide)) (fun c37 => ?_)
          refine wp_aload_n dX8_vowelBeats_40 rfl rfl (gv7_12 dX8_vowelBeats_41 ha v1.1 (wp_iload dX8_vowelBeats_44 rfl (wp_bipush (v := nI 97) dX8_vowelBeats_46 rfl (wv_isub dX8_vowelBeats_48 (pk_sub (by omega)) (wp_ishr dX8_vowelBeats_49 (wp_iconst (v := nI 1) dX8_vowelBeats_50 rfl (wv_iand dX8_vowelBeats_51 (xbit v.1 (w i - 97) (by omega) (by omega)) ?_)))))))
          refine wb_if_eq dX8_vowelBeats_52 rfl (fun c52 => absurd c52 (by rw [hv]; decide)) (fun c52 => ?_)
          refine wp_iconst (v := nI 1) dX8_vowelBeats_55 rfl (wp_goto dX8_vowelBeats_56 rfl (wp_istore dX8_vowelBeats_60 ⟨Nat.le_of_ble_eq_true rfl, Or.inr rfl⟩ rfl (wp_iload dX8_vowelBeats_62 rfl ?_)))
          refine wn_if_eq dX8_vowelBeats_64 rfl (by omega) (fun c64 => absurd c64 (by omega)) (fun c64 => ?_)
          refine wp_iload dX8_vowelBeats_67 rfl ?_
          refine wb_if_eq dX8_vowelBeats_69 rfl (fun c69 => absurd c69 (by decide)) (fun c69 => ?_)
          refine wp_aload_n dX8_vowelBeats_72 rfl rfl (g7_16 dX8_vowelBeats_73 ha ra (wp_aload_n dX8_vowelBeats_76 rfl rfl (gv7_23 dX8_vowelBeats_77 ha v2.1 (wp_aload_n dX8_vowelBeats_80 rfl rfl (wp_iload_n dX8_vowelBeats_81 rfl (wp_iload dX8_vowelBeats_82 rfl (wv_iadd dX8_vowelBeats_84 (nI_add _ _) (wp_iconst (v := nI 1) dX8_vowelBeats_85 rfl (wv_isub dX8_vowelBeats_86 e86 (wp_iconst (v := nI 2) dX8_vowelBeats_87 rfl (wp_is3 dX8_vowelBeats_88 k7_79 q_X8_packed (by decide) (Nat.le_of_ble_eq_true rfl) gp (wp_is3 dX8_vowelBeats_91 k7_105 q_X8_isAmong (by decide) (Nat.le_of_ble_eq_true rfl) ga ?_))))))))))))
          refine wb_if_eq dX8_vowelBeats_94 rfl (fun c94 => absurd c94 (by rw [hm]; decide)) (fun c94 => ?_)
          refine wp_iconst (v := nI 1) dX8_vowelBeats_97 rfl (wp_goto dX8_vowelBeats_98 rfl (wp_istore dX8_vowelBeats_102 ⟨Nat.le_of_ble_eq_true rfl, Or.inr rfl⟩ rfl (wp_iload dX8_vowelBeats_104 rfl ?_)))
          refine wn_if_eq dX8_vowelBeats_106 rfl (by omega) (fun c106 => absurd c106 (by omega)) (fun c106 => ?_)
          refine wp_iload dX8_vowelBeats_109 rfl ?_
          refine wn_if_ne dX8_vowelBeats_111 rfl (by omega) (fun c111 => ?_) (fun c111 => absurd c111 (by omega))
          refine wp_iload dX8_vowelBeats_123 rfl ?_
          refine wn_if_eq dX8_vowelBeats_125 rfl (by omega) (fun c125 => absurd c125 (by omega)) (fun c125 => ?_)
          refine wp_iload dX8_vowelBeats_128 rfl ?_
          refine wn_if_ne dX8_vowelBeats_130 rfl (by omega) (fun c130 => ?_) (fun c130 => absurd c130 (by omega))
          refine wp_iconst (v := nI 0) dX8_vowelBeats_137 rfl (wp_istore dX8_vowelBeats_138 ⟨Nat.le_of_ble_eq_true rfl, Or.inr rfl⟩ rfl (wp_iinc dX8_vowelBeats_140 rfl (nI_1 _) ⟨Nat.le_of_ble_eq_true rfl, Or.inr rfl⟩ rfl (wp_goto dX8_vowelBeats_143 rfl ?_)))
          refine wp_locals (ls' := [.ref a, .ref x, .int (nI s), .int (nI n), .int (nI (xvb v.1 v.2.1 w (i + 1)).1), .int (xB (xvb v.1 v.2.1 w (i + 1)).2), .int (nI (i + 1)), _, _, _]) (by rw [eN]; rfl) ?_
          exact ih (i + 1) _ _ _ (by omega)
theorem c_vowelBeats {a b c x nx s n : Nat} {w : Nat → Nat} {v : xTg} {S : xS} (d : Nat) (htg : xTgC a b c) (hX : XC S) (hV : xTgV a b c S v) (hx : S.1[x]? = some (21, nx)) (hnx : nx < 1000) (hsn : s + n ≤ nx) (hn30 : n ≤ 30) (hL : xLet S x s n w) : xcall false (d + 1) j_X8_vowelBeats [.ref a, .ref x, .int (nI s), .int (nI n)] S (some (.int (nI (xvb v.1 v.2.1 w n).1))) S := by
  refine xcall_intro (ls := [.ref a, .ref x, .int (nI s), .int (nI n), .float 0, .float 0, .float 0, .float 0, .float 0, .float 0]) q_X8_vowelBeats (by decide) rfl (Nat.le_of_ble_eq_true rfl) rfl ?_
  exact wp_iconst (v := nI 0) dX8_vowelBeats_0 rfl (wp_istore dX8_vowelBeats_1 ⟨Nat.le_of_ble_eq_true rfl, Or.inr rfl⟩ rfl (wp_iconst (v := nI 0) dX8_vowelBeats_3 rfl (wp_istore dX8_vowelBeats_4 ⟨Nat.le_of_ble_eq_true rfl, Or.inr rfl⟩ rfl (wp_iconst (v := nI 0) dX8_vowelBeats_6 rfl (wp_istore dX8_vowelBeats_7 ⟨Nat.le_of_ble_eq_true rfl, Or.inr rfl⟩ rfl (vb_loop d htg hX hV hx hnx hsn hn30 hL n 0 _ _ _ (by omega)))))))
