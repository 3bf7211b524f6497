/-! BEATS: the letters that are BEATS, as the reference finds them -/
theorem xwd_2 (w : Nat → Nat) (k : Nat) : xwd w k 2 = w k * 2 ^ 8 + w (k + 1) := by
  show (0 * 2 ^ 8 + w (k + 0)) * 2 ^ 8 + w (k + 1) = _
  rw [Nat.add_zero, Nat.zero_mul, Nat.zero_add]
theorem mb_loop {s n d : Nat} {w : Nat → Nat} {v : xTg} {S : xS} {Q : Option Value → xS → Prop} (hX : XC S) (hsn : s + n ≤ 1903) (hn30 : n ≤ 30) (hL : xLetM S s n w) (hV : xTgM S v) (q : Wp false (d + 1) 11 cX12_beatsOf (some .int) false 73 [.ref 187, .int (nI s), .int (nI n), .int (nI (xvb v.1 v.2.1 w n).1), .int (nI n), .float 0, .float 0] [] S Q) : ∀ (j k : Nat), k ≤ n → n ≤ k + j → (k < n → (xvb v.1 v.2.1 w k).2 = true → v.1.testBit (w k - 97) = true → xmemb v.2.1 (xwd w (k - 1) 2) = false) → Wp false (d + 1) 11 cX12_beatsOf (some .int) false 5 [.ref 187, .int (nI s), .int (nI n), .int (nI (xvb v.1 v.2.1 w k).1), .int (nI k), .float 0, .float 0] [] S Q := by
  intro j
  induction j with
  | zero =>
    intro k hk hj hc
    have : k = n := by omega
    subst this
    refine wp_iload dX12_beatsOf_5 rfl (wp_iload_n dX12_beatsOf_7 rfl ?_)
    refine wn_icmp_ge dX12_beatsOf_8 rfl (by omega) (by omega) (fun c8 => ?_) (fun c8 => absurd c8 (by omega))
    exact q
  | succ j ih =>
    intro k hk hj hc
    rcases Nat.lt_or_ge k n with hkn | hkn
    · have h := hL k hkn
      have hb := xsm_b h.1
      have gv := m_isVowel (x := s + k) (c := w k) d hX hV (by omega) h.2 h.1
      cases hv : v.1.testBit (w k - 97) with
      | false =>
        rw [hv] at gv
        have eN : xvb v.1 v.2.1 w (k + 1) = ((xvb v.1 v.2.1 w k).1, false) := by rw [xvb, if_neg (by rw [hv]; decide)]
        refine wp_iload dX12_beatsOf_5 rfl (wp_iload_n dX12_beatsOf_7 rfl ?_)
        refine wn_icmp_ge dX12_beatsOf_8 rfl (by omega) (by omega) (fun c8 => absurd c8 (by omega)) (fun c8 => ?_)
        refine wp_aload_n dX12_beatsOf_11 rfl rfl (wp_iload_n dX12_beatsOf_12 rfl (wp_iload dX12_beatsOf_13 rfl (wv_iadd dX12_beatsOf_15 (nI_add _ _) (wp_iv2 dX12_beatsOf_16 k11_153 q_X12_isVowel (by decide) (xsh hX sh_187) (by decide) (Nat.le_of_ble_eq_true rfl) gv ?_))))
        refine wb_if_ne dX12_beatsOf_19 rfl (fun c19 => absurd c19 (by decide)) (fun c19 => ?_)
        refine wp_goto dX12_beatsOf_22 rfl (wp_iinc dX12_beatsOf_67 rfl (nI_1 _) ⟨Nat.le_of_ble_eq_true rfl, Or.inr rfl⟩ rfl (wp_goto dX12_beatsOf_70 rfl ?_))
        refine wp_locals (ls' := [.ref 187, .int (nI s), .int (nI n), .int (nI (xvb v.1 v.2.1 w (k + 1)).1), .int (nI (k + 1)), .float 0, .float 0]) (by rw [eN]; rfl) ?_
        exact ih (k + 1) (by omega) (by omega) (fun _ h2 => by rw [eN] at h2; cases h2)
      | true =>
        rw [hv] at gv
        have eN : xvb v.1 v.2.1 w (k + 1) = ((xvb v.1 v.2.1 w k).1 ||| 2 ^ k, true) := by
          rw [xvb, if_pos hv, if_neg]
          rintro ⟨h1, h2⟩
          rw [hc hkn h1 hv] at h2
          cases h2
        have t67 (hc2 : k + 1 < n → v.1.testBit (w (k + 1) - 97) = true → xmemb v.2.1 (xwd w k 2) = false) : Wp false (d + 1) 11 cX12_beatsOf (some .int) false 67 [.ref 187, .int (nI s), .int (nI n), .int (nI ((xvb v.1 v.2.1 w k).1 ||| 2 ^ k)), .int (nI k), .float 0, .float 0] [] S Q := by
          refine wp_iinc dX12_beatsOf_67 rfl (nI_1 _) ⟨Nat.le_of_ble_eq_true rfl, Or.inr rfl⟩ rfl (wp_goto dX12_beatsOf_70 rfl ?_)
          refine wp_locals (ls' := [.ref 187, .int (nI s), .int (nI n), .int (nI (xvb v.1 v.2.1 w (k + 1)).1), .int (nI (k + 1)), .float 0, .float 0]) (by rw [eN]; rfl) ?_
          exact ih (k + 1) (by omega) (by omega) (fun a _ b => hc2 a b)
        rcases Nat.lt_or_ge (k + 1) n with hk1 | hk1
        · have h1 := hL (k + 1) hk1
          have hb1 := xsm_b h1.1
          have gv1 := m_isVowel (x := s + k + 1) (c := w (k + 1)) d hX hV (by omega) h1.2 h1.1
          have gp := m_isPair (x := s + k) (c0 := w k) (c1 := w (k + 1)) d hX hV (by omega) h.2 h1.2 (by omega) (by omega)
          rw [← xwd_2] at gp
          cases hv1 : v.1.testBit (w (k + 1) - 97) with
          | false =>
            rw [hv1] at gv1
            refine wp_iload dX12_beatsOf_5 rfl (wp_iload_n dX12_beatsOf_7 rfl ?_)
            refine wn_icmp_ge dX12_beatsOf_8 rfl (by omega) (by omega) (fun c8 => absurd c8 (by omega)) (fun c8 => ?_)
            refine wp_aload_n dX12_beatsOf_11 rfl rfl (wp_iload_n dX12_beatsOf_12 rfl (wp_iload dX12_beatsOf_13 rfl (wv_iadd dX12_beatsOf_15 (nI_add _ _) (wp_iv2 dX12_beatsOf_16 k11_153 q_X12_isVowel (by decide) (xsh hX sh_187) (by decide) (Nat.le_of_ble_eq_true rfl) gv ?_))))
            refine wb_if_ne dX12_beatsOf_19 rfl (fun c19 => ?_) (fun c19 => absurd c19 (by decide))
            refine wp_iload_n dX12_beatsOf_25 rfl (wp_iconst (v := nI 1) dX12_beatsOf_26 rfl (wp_iload dX12_beatsOf_27 rfl (wv_ishl dX12_beatsOf_29 (xsh1 (by omega)) (wv_ior dX12_beatsOf_30 (fa_or _ _) (wp_istore_n dX12_beatsOf_31 ⟨Nat.le_of_ble_eq_true rfl, Or.inr rfl⟩ rfl (wp_iload dX12_beatsOf_32 rfl (wp_iconst (v := nI 1) dX12_beatsOf_34 rfl (wv_iadd dX12_beatsOf_35 (nI_add _ _) (wp_iload_n dX12_beatsOf_36 rfl ?_)))))))))
            refine wn_icmp_ge dX12_beatsOf_37 rfl (by omega) (by omega) (fun c37 => absurd c37 (by omega)) (fun c37 => ?_)
            refine wp_aload_n dX12_beatsOf_40 rfl rfl (wp_iload_n dX12_beatsOf_41 rfl (wp_iload dX12_beatsOf_42 rfl (wv_iadd dX12_beatsOf_44 (nI_add _ _) (wp_iconst (v := nI 1) dX12_beatsOf_45 rfl (wv_iadd dX12_beatsOf_46 (nI_add _ _) (wp_iv2 dX12_beatsOf_47 k11_153 q_X12_isVowel (by decide) (xsh hX sh_187) (by decide) (Nat.le_of_ble_eq_true rfl) gv1 ?_))))))
            refine wb_if_eq dX12_beatsOf_50 rfl (fun c50 => ?_) (fun c50 => absurd c50 (by decide))
            exact t67 (fun _ a => by rw [hv1] at a; cases a)
          | true =>
            rw [hv1] at gv1
            cases hm : xmemb v.2.1 (xwd w k 2) with
            | false =>
              rw [hm] at gp
              refine wp_iload dX12_beatsOf_5 rfl (wp_iload_n dX12_beatsOf_7 rfl ?_)
              refine wn_icmp_ge dX12_beatsOf_8 rfl (by omega) (by omega) (fun c8 => absurd c8 (by omega)) (fun c8 => ?_)
              refine wp_aload_n dX12_beatsOf_11 rfl rfl (wp_iload_n dX12_beatsOf_12 rfl (wp_iload dX12_beatsOf_13 rfl (wv_iadd dX12_beatsOf_15 (nI_add _ _) (wp_iv2 dX12_beatsOf_16 k11_153 q_X12_isVowel (by decide) (xsh hX sh_187) (by decide) (Nat.le_of_ble_eq_true rfl) gv ?_))))
              refine wb_if_ne dX12_beatsOf_19 rfl (fun c19 => ?_) (fun c19 => absurd c19 (by decide))
              refine wp_iload_n dX12_beatsOf_25 rfl (wp_iconst (v := nI 1) dX12_beatsOf_26 rfl (wp_iload dX12_beatsOf_27 rfl (wv_ishl dX12_beatsOf_29 (xsh1 (by omega)) (wv_ior dX12_beatsOf_30 (fa_or _ _) (wp_istore_n dX12_beatsOf_31 ⟨Nat.le_of_ble_eq_true rfl, Or.inr rfl⟩ rfl (wp_iload dX12_beatsOf_32 rfl (wp_iconst (v := nI 1) dX12_beatsOf_34 rfl (wv_iadd dX12_beatsOf_35 (nI_add _ _) (wp_iload_n dX12_beatsOf_36 rfl ?_)))))))))
              refine wn_icmp_ge dX12_beatsOf_37 rfl (by omega) (by omega) (fun c37 => absurd c37 (by omega)) (fun c37 => ?_)
              refine wp_aload_n dX12_beatsOf_40 rfl rfl (wp_iload_n dX12_beatsOf_41 rfl (wp_iload dX12_beatsOf_42 rfl (wv_iadd dX12_beatsOf_44 (nI_add _ _) (wp_iconst (v := nI 1) dX12_beatsOf_45 rfl (wv_iadd dX12_beatsOf_46 (nI_add _ _) (wp_iv2 dX12_beatsOf_47 k11_153 q_X12_isVowel (by decide) (xsh hX sh_187) (by decide) (Nat.le_of_ble_eq_true rfl) gv1 ?_))))))
              refine wb_if_eq dX12_beatsOf_50 rfl (fun c50 => absurd c50 (by decide)) (fun c50 => ?_)
              refine wp_aload_n dX12_beatsOf_53 rfl rfl (wp_iload_n dX12_beatsOf_54 rfl (wp_iload dX12_beatsOf_55 rfl (wv_iadd dX12_beatsOf_57 (nI_add _ _) (wp_iv2 dX12_beatsOf_58 k11_156 q_X12_isPair (by decide) (xsh hX sh_187) (by decide) (Nat.le_of_ble_eq_true rfl) gp ?_))))
              refine wb_if_eq dX12_beatsOf_61 rfl (fun c61 => ?_) (fun c61 => absurd c61 (by decide))
              exact t67 (fun _ _ => hm)
            | true =>
              rw [hm] at gp
              have eM : xvb v.1 v.2.1 w (k + 1 + 1) = ((xvb v.1 v.2.1 w k).1 ||| 2 ^ k, false) := by
                rw [xvb, if_pos hv1, if_pos ⟨by rw [eN], hm⟩, eN]
              refine wp_iload dX12_beatsOf_5 rfl (wp_iload_n dX12_beatsOf_7 rfl ?_)
              refine wn_icmp_ge dX12_beatsOf_8 rfl (by omega) (by omega) (fun c8 => absurd c8 (by omega)) (fun c8 => ?_)
              refine wp_aload_n dX12_beatsOf_11 rfl rfl (wp_iload_n dX12_beatsOf_12 rfl (wp_iload dX12_beatsOf_13 rfl (wv_iadd dX12_beatsOf_15 (nI_add _ _) (wp_iv2 dX12_beatsOf_16 k11_153 q_X12_isVowel (by decide) (xsh hX sh_187) (by decide) (Nat.le_of_ble_eq_true rfl) gv ?_))))
              refine wb_if_ne dX12_beatsOf_19 rfl (fun c19 => ?_) (fun c19 => absurd c19 (by decide))
              refine wp_iload_n dX12_beatsOf_25 rfl (wp_iconst (v := nI 1) dX12_beatsOf_26 rfl (wp_iload dX12_beatsOf_27 rfl (wv_ishl dX12_beatsOf_29 (xsh1 (by omega)) (wv_ior dX12_beatsOf_30 (fa_or _ _) (wp_istore_n dX12_beatsOf_31 ⟨Nat.le_of_ble_eq_true rfl, Or.inr rfl⟩ rfl (wp_iload dX12_beatsOf_32 rfl (wp_iconst (v := nI 1) dX12_beatsOf_34 rfl (wv_iadd dX12_beatsOf_35 (nI_add _ _) (wp_iload_n dX12_beatsOf_36 rfl ?_)))))))))
              refine wn_icmp_ge dX12_beatsOf_37 rfl (by omega) (by omega) (fun c37 => absurd c37 (by omega)) (fun c37 => ?_)
              refine wp_aload_n dX12_beatsOf_40 rfl rfl (wp_iload_n dX12_beatsOf_41 rfl (wp_iload dX12_beatsOf_42 rfl (wv_iadd dX12_beatsOf_44 (nI_add _ _) (wp_iconst (v := nI 1) dX12_beatsOf_45 rfl (wv_iadd dX12_beatsOf_46 (nI_add _ _) (wp_iv2 dX12_beatsOf_47 k11_153 q_X12_isVowel (by decide) (xsh hX sh_187) (by decide) (Nat.le_of_ble_eq_true rfl) gv1 ?_))))))
              refine wb_if_eq dX12_beatsOf_50 rfl (fun c50 => absurd c50 (by decide)) (fun c50 => ?_)
              refine wp_aload_n dX12_beatsOf_53 rfl rfl (wp_iload_n dX12_beatsOf_54 rfl (wp_iload dX12_beatsOf_55 rfl (wv_iadd dX12_beatsOf_57 (nI_add _ _) (wp_iv2 dX12_beatsOf_58 k11_156 q_X12_isPair (by decide) (xsh hX sh_187) (by decide) (Nat.le_of_ble_eq_true rfl) gp ?_))))
              refine wb_if_eq dX12_beatsOf_61 rfl (fun c61 => absurd c61 (by decide)) (fun c61 => ?_)
              refine wp_iinc dX12_beatsOf_64 rfl (nI_1 _) ⟨Nat.le_of_ble_eq_true rfl, Or.inr rfl⟩ rfl (wp_iinc dX12_beatsOf_67 rfl (nI_1 _) ⟨Nat.le_of_ble_eq_true rfl, Or.inr rfl⟩ rfl (wp_goto dX12_beatsOf_70 rfl ?_))
              refine wp_locals (ls' := [.ref 187, .int (nI s), .int (nI n), .int (nI (xvb v.1 v.2.1 w (k + 1 + 1)).1), .int (nI (k + 1 + 1)), .float 0, .float 0]) (by rw [eM]; rfl) ?_
              exact ih (k + 1 + 1) (by omega) (by omega) (fun _ h2 => by rw [eM] at h2; cases h2)
        · 
          refine wp_iload dX12_beatsOf_5 rfl (wp_iload_n dX12_beatsOf_7 rfl ?_)
          refine wn_icmp_ge dX12_beatsOf_8 rfl (by omega) (by omega) (fun c8 => absurd c8 (by omega)) (fun c8 => ?_)
          refine wp_aload_n dX12_beatsOf_11 rfl rfl (wp_iload_n dX12_beatsOf_12 rfl (wp_iload dX12_beatsOf_13 rfl (wv_iadd dX12_beatsOf_15 (nI_add _ _) (wp_iv2 dX12_beatsOf_16 k11_153 q_X12_isVowel (by decide) (xsh hX sh_187) (by decide) (Nat.le_of_ble_eq_true rfl) gv ?_))))
          refine wb_if_ne dX12_beatsOf_19 rfl (fun c19 => ?_) (fun c19 => absurd c19 (by decide))
          refine wp_iload_n dX12_beatsOf_25 rfl (wp_iconst (v := nI 1) dX12_beatsOf_26 rfl (wp_iload dX12_beatsOf_27 rfl (wv_ishl dX12_beatsOf_29 (xsh1 (by omega)) (wv_ior dX12_beatsOf_30 (fa_or _ _) (wp_istore_n dX12_beatsOf_31 ⟨Nat.le_of_ble_eq_true rfl, Or.inr rfl⟩ rfl (wp_iload dX12_beatsOf_32 rfl (wp_iconst (v := nI 1) dX12_beatsOf_34 rfl (wv_iadd dX12_beatsOf_35 (nI_add _ _) (wp_iload_n dX12_beatsOf_36 rfl ?_)))))))))
          refine wn_icmp_ge dX12_beatsOf_37 rfl (by omega) (by omega) (fun c37 => ?_) (fun c37 => absurd c37 (by omega))
          exact t67 (fun a _ => absurd a (by omega))
    · have : k = n := by omega
      subst this
      refine wp_iload dX12_beatsOf_5 rfl (wp_iload_n dX12_beatsOf_7 rfl ?_)
      refine wn_icmp_ge dX12_beatsOf_8 rfl (by omega) (by omega) (fun c8 => ?_) (fun c8 => absurd c8 (by omega))
      exact q
