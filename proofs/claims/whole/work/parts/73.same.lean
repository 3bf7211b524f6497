/-! CHANGES: one item against another, of the reference -/
/-- what an item's first byte is -/
theorem xfst {t : Nat → Nat} {o : xIt} (h : xiok t o) : 1 ≤ xisz o ∧ ((o.1 = 0 ∨ o.1 = 1) → 97 ≤ t o.2.1 ∧ t o.2.1 ≤ 122) ∧ (o.1 = 2 → t o.2.1 = 45) ∧ (o.1 = 3 → t o.2.1 = 64) ∧ (o.1 = 4 → t o.2.1 = 63) ∧ o.1 ≤ 4 := by
  obtain ⟨h1, h2, h3, h4, h5, h6⟩ := h
  refine ⟨?_, fun w => ?_, fun w => (h3 w).1, fun w => (h4 w).1, fun w => (h5 w).1, h6⟩
  · unfold xisz
    split
    · omega
    · rcases (show o.1 = 0 ∨ o.1 = 2 ∨ o.1 = 3 ∨ o.1 = 4 by omega) with e | e | e | e
      · exact (h1 (Or.inl e)).1
      · have := (h3 e).2; omega
      · have := (h4 e).2; omega
      · have := (h5 e).2; omega
  · obtain ⟨w1, w2, w3⟩ := h1 w
    have := xsm_b (w3 0 (by omega))
    rw [Nat.add_zero] at this
    exact this
theorem xsmi_tt {t1 t2 : Nat → Nat} {m1 m2 s1 s2 : Nat} (h1 : t1 s1 = 48 + m1 ∧ t1 (s1 + 1) = 120) (h2 : t2 s2 = 48 + m2 ∧ t2 (s2 + 1) = 120) : xsmi t1 (5, s1, 2) t2 (5, s2, 2) = decide (m1 = m2) := by
  unfold xsmi
  rw [decide_eq_decide]
  refine ⟨fun w => ?_, fun w => ⟨rfl, fun k hk => ?_⟩⟩
  · have e : t1 (s1 + 0) = t2 (s2 + 0) := w.2 0 (by show 0 < 2; decide)
    rw [Nat.add_zero, Nat.add_zero] at e
    omega
  · have hk' : k < 2 := hk
    show t1 (s1 + k) = t2 (s2 + k)
    rcases (show k = 0 ∨ k = 1 by omega) with rfl | rfl
    · rw [Nat.add_zero, Nat.add_zero]; omega
    · rw [h1.2, h2.2]
theorem xsmi_ti {t1 t2 : Nat → Nat} {m1 s1 : Nat} {o : xIt} (h1 : t1 s1 = 48 + m1 ∧ m1 ≤ 9) (h2 : xiok t2 o) : xsmi t1 (5, s1, 2) t2 o = false := by
  obtain ⟨z1, z2, z3, z4, z5, z6⟩ := xfst h2
  refine decide_eq_false (fun w => ?_)
  have e : t1 (s1 + 0) = t2 (o.2.1 + 0) := w.2 0 (by show 0 < 2; decide)
  rw [Nat.add_zero, Nat.add_zero] at e
  rcases (show (o.1 = 0 ∨ o.1 = 1) ∨ o.1 = 2 ∨ o.1 = 3 ∨ o.1 = 4 by omega) with q | q | q | q
  · have := z2 q; omega
  · have := z3 q; omega
  · have := z4 q; omega
  · have := z5 q; omega
theorem xsmi_it {t1 t2 : Nat → Nat} {m1 s1 : Nat} {o : xIt} (h1 : t1 s1 = 48 + m1 ∧ m1 ≤ 9) (h2 : xiok t2 o) : xsmi t2 o t1 (5, s1, 2) = false := by
  obtain ⟨z1, z2, z3, z4, z5, z6⟩ := xfst h2
  refine decide_eq_false (fun w => ?_)
  have e : t2 (o.2.1 + 0) = t1 (s1 + 0) := w.2 0 (by omega)
  rw [Nat.add_zero, Nat.add_zero] at e
  rcases (show (o.1 = 0 ∨ o.1 = 1) ∨ o.1 = 2 ∨ o.1 = 3 ∨ o.1 = 4 by omega) with q | q | q | q
  · have := z2 q; omega
  · have := z3 q; omega
  · have := z4 q; omega
  · have := z5 q; omega
theorem xsmi_ii {t1 t2 : Nat → Nat} {o p : xIt} (h1 : xiok t1 o) (h2 : xiok t2 p) : xsmi t1 o t2 p = decide (o.1 = p.1 ∧ o.2.2 = p.2.2 ∧ (o.1 ≤ 1 → ∀ k, k < o.2.2 → t1 (o.2.1 + k) = t2 (p.2.1 + k))) := by
  have f1 := xfst h1
  have f2 := xfst h2
  unfold xsmi
  rw [decide_eq_decide]
  refine ⟨fun w => ?_, fun w => ?_⟩
  · obtain ⟨w1, w2⟩ := w
    have e0 : t1 (o.2.1 + 0) = t2 (p.2.1 + 0) := w2 0 (by omega)
    rw [Nat.add_zero, Nat.add_zero] at e0
    obtain ⟨z1, z2, z3, z4, z5, z6⟩ := f1
    obtain ⟨y1, y2, y3, y4, y5, y6⟩ := f2
    have hk : o.1 = p.1 := by
      rcases (show o.1 = 0 ∨ o.1 = 1 ∨ o.1 = 2 ∨ o.1 = 3 ∨ o.1 = 4 by omega) with a | a | a | a | a
      · rcases (show p.1 = 0 ∨ p.1 = 1 ∨ p.1 = 2 ∨ p.1 = 3 ∨ p.1 = 4 by omega) with b | b | b | b | b
        · omega
        · exfalso
          have hz1 : xisz o = o.2.2 := by unfold xisz; rw [if_neg (by omega)]
          have hz2 : xisz p = p.2.2 + 1 := by unfold xisz; rw [if_pos b]
          have hb := w2 p.2.2 (by omega)
          rw [h2.2.1 b] at hb
          have := xsm_b ((h1.1 (Or.inl a)).2.2 p.2.2 (by omega))
          omega
        · have := z2 (Or.inl a); have := y3 b; omega
        · have := z2 (Or.inl a); have := y4 b; omega
        · have := z2 (Or.inl a); have := y5 b; omega
      · rcases (show p.1 = 0 ∨ p.1 = 1 ∨ p.1 = 2 ∨ p.1 = 3 ∨ p.1 = 4 by omega) with b | b | b | b | b
        · exfalso
          have hz1 : xisz o = o.2.2 + 1 := by unfold xisz; rw [if_pos a]
          have hz2 : xisz p = p.2.2 := by unfold xisz; rw [if_neg (by omega)]
          have hb := w2 o.2.2 (by omega)
          rw [h1.2.1 a] at hb
          have := xsm_b ((h2.1 (Or.inl b)).2.2 o.2.2 (by omega))
          omega
        · omega
        · have := z2 (Or.inr a); have := y3 b; omega
        · have := z2 (Or.inr a); have := y4 b; omega
        · have := z2 (Or.inr a); have := y5 b; omega
      · have := z3 a
        rcases (show (p.1 = 0 ∨ p.1 = 1) ∨ p.1 = 2 ∨ p.1 = 3 ∨ p.1 = 4 by omega) with b | b | b | b
        · have := y2 b; omega
        · omega
        · have := y4 b; omega
        · have := y5 b; omega
      · have := z4 a
        rcases (show (p.1 = 0 ∨ p.1 = 1) ∨ p.1 = 2 ∨ p.1 = 3 ∨ p.1 = 4 by omega) with b | b | b | b
        · have := y2 b; omega
        · have := y3 b; omega
        · omega
        · have := y5 b; omega
      · have := z5 a
        rcases (show (p.1 = 0 ∨ p.1 = 1) ∨ p.1 = 2 ∨ p.1 = 3 ∨ p.1 = 4 by omega) with b | b | b | b
        · have := y2 b; omega
        · have := y3 b; omega
        · have := y4 b; omega
        · omega
    have hw : o.2.2 = p.2.2 := by
      unfold xisz at w1
      rw [hk] at w1
      split at w1 <;> omega
    refine ⟨hk, hw, fun h k hk2 => w2 k ?_⟩
    unfold xisz
    split <;> omega
  · obtain ⟨w1, w2, w3⟩ := w
    have hz : xisz o = xisz p := by unfold xisz; rw [w1, w2]
    refine ⟨hz, fun k hk => ?_⟩
    rcases Nat.lt_or_ge 1 o.1 with q | q
    · have hz1 : xisz o = o.2.2 := by unfold xisz; rw [if_neg (by omega)]
      rcases (show o.1 = 2 ∨ o.1 = 3 ∨ o.1 = 4 by have := f1.2.2.2.2.2; omega) with a | a | a
      · have z := h1.2.2.1 a
        have y := h2.2.2.1 (by omega)
        rw [show k = 0 by omega, Nat.add_zero, Nat.add_zero, z.1, y.1]
      · have z := h1.2.2.2.1 a
        have y := h2.2.2.2.1 (by omega)
        rw [show k = 0 by omega, Nat.add_zero, Nat.add_zero, z.1, y.1]
      · have z := h1.2.2.2.2.1 a
        have y := h2.2.2.2.2.1 (by omega)
        rw [show k = 0 by omega, Nat.add_zero, Nat.add_zero, z.1, y.1]
    · rcases Nat.lt_or_ge k o.2.2 with w | w
      · exact w3 q k w
      · have e1 : o.1 = 1 := by
          rcases (show o.1 = 0 ∨ o.1 = 1 by omega) with a | a
          · unfold xisz at hk
            rw [if_neg (by omega)] at hk
            omega
          · exact a
        have hz1 : xisz o = o.2.2 + 1 := by unfold xisz; rw [if_pos e1]
        have ek : k = o.2.2 := by omega
        rw [ek, h1.2.1 e1, w2, h2.2.1 (by omega)]
theorem m_least (x y z d : Nat) {S : xS} (hx : x < 2 ^ 31) (hy : y < 2 ^ 31) (hz : z < 2 ^ 31) : xcall false d j_X12_least [.int (nI x), .int (nI y), .int (nI z)] S (some (.int (nI (min (min x y) z)))) S := by
  refine xcall_intro (ls := [.int (nI x), .int (nI y), .int (nI z), .float 0]) q_X12_least (by decide) rfl (Nat.le_of_ble_eq_true rfl) rfl ?_
  refine wp_iload_n dX12_least_0 rfl (wp_iload_n dX12_least_1 rfl ?_)
  refine wn_icmp_ge dX12_least_2 rfl (by omega) (by omega) (fun c2 => ?_) (fun c2 => ?_)
  · refine wp_iload_n dX12_least_9 rfl (wp_istore_n dX12_least_10 ⟨Nat.le_of_ble_eq_true rfl, Or.inr rfl⟩ rfl (wp_iload_n dX12_least_11 rfl (wp_iload_n dX12_least_12 rfl ?_)))
    refine wn_icmp_ge dX12_least_13 rfl (by omega) (by omega) (fun c13 => ?_) (fun c13 => ?_)
    · exact wp_iload_n dX12_least_20 rfl (wp_ireturn dX12_least_21 rfl rfl ⟨xret (by omega), rfl⟩)
    · exact wp_iload_n dX12_least_16 rfl (wp_goto dX12_least_17 rfl (wp_ireturn dX12_least_21 rfl rfl ⟨xret (by omega), rfl⟩))
  · refine wp_iload_n dX12_least_5 rfl (wp_goto dX12_least_6 rfl (wp_istore_n dX12_least_10 ⟨Nat.le_of_ble_eq_true rfl, Or.inr rfl⟩ rfl (wp_iload_n dX12_least_11 rfl (wp_iload_n dX12_least_12 rfl ?_))))
    refine wn_icmp_ge dX12_least_13 rfl (by omega) (by omega) (fun c13 => ?_) (fun c13 => ?_)
    · exact wp_iload_n dX12_least_20 rfl (wp_ireturn dX12_least_21 rfl rfl ⟨xret (by omega), rfl⟩)
    · exact wp_iload_n dX12_least_16 rfl (wp_goto dX12_least_17 rfl (wp_ireturn dX12_least_21 rfl rfl ⟨xret (by omega), rfl⟩))
theorem m_itemsOf {n s : Nat} {t : Nat → Nat} {L : List xLn} {l : Nat} (d : Nat) (hs6 : s < 6) {S : xS} (hX : XC S) (hM : xRM s S n t L) (hok : xRok t n L) (hlen : (L.flatMap xmit).length ≤ 121) (hl : l < L.length) (hl16 : L.length ≤ 16) : xcall false d j_X12_itemsOf [.ref 187, .int (nI s), .int (nI l)] S (some (.int (nI (xln L l)))) S := by
  have k1 := hM.2.2.1 (l + 1) (by omega)
  have k2 := hM.2.2.1 l (by omega)
  have tm := hM.2.2.2.1 l hl
  have e := xof_succ xmit L l hl
  have hle := xof_le xmit L (l + 1)
  have w9 := (xRok_ln hok hl).2.1
  have em : (xmit (L.getD l (0, 0, []))).length = (L.getD l (0, 0, [])).2.2.length := rfl
  rcases Decidable.em (1 < (L.getD l (0, 0, [])).1) with w | w
  · have ex : xln L l = (L.getD l (0, 0, [])).2.2.length + 1 := by unfold xln xcI; rw [if_pos w]; simp
    refine xcall_intro (ls := [.ref 187, .int (nI s), .int (nI l)]) q_X12_itemsOf (by decide) rfl (Nat.le_of_ble_eq_true rfl) rfl ?_
    refine wp_aload_n dX12_itemsOf_0 rfl rfl (g11_216 dX12_itemsOf_1 (xsh hX sh_187) (xrr hX r187_35) (wp_bipush (v := nI 17) dX12_itemsOf_4 rfl (wp_iload_n dX12_itemsOf_6 rfl (wv_imul dX12_itemsOf_7 (pk_mul _ _) (wp_iload_n dX12_itemsOf_8 rfl (wv_iadd dX12_itemsOf_9 (nI_add _ _) (wp_iconst (v := nI 1) dX12_itemsOf_10 rfl (wv_iadd dX12_itemsOf_11 (nI_add _ _) (wn_iaload dX12_itemsOf_12 (xsh hX sh_201) rfl (by omega) (by decide) k1 (wp_aload_n dX12_itemsOf_13 rfl rfl (g11_216 dX12_itemsOf_14 (xsh hX sh_187) (xrr hX r187_35) (wp_bipush (v := nI 17) dX12_itemsOf_17 rfl (wp_iload_n dX12_itemsOf_19 rfl (wv_imul dX12_itemsOf_20 (pk_mul _ _) (wp_iload_n dX12_itemsOf_21 rfl (wv_iadd dX12_itemsOf_22 (nI_add _ _) (wn_iaload dX12_itemsOf_23 (xsh hX sh_201) rfl (by omega) (by decide) k2 (wv_isub dX12_itemsOf_24 (pk_sub (by omega)) (wp_aload_n dX12_itemsOf_25 rfl rfl (g11_219 dX12_itemsOf_26 (xsh hX sh_187) (xrr hX r187_36) (wp_bipush (v := nI 16) dX12_itemsOf_29 rfl (wp_iload_n dX12_itemsOf_31 rfl (wv_imul dX12_itemsOf_32 (pk_mul _ _) (wp_iload_n dX12_itemsOf_33 rfl (wv_iadd dX12_itemsOf_34 (nI_add _ _) (wn_iaload dX12_itemsOf_35 (xsh hX sh_202) rfl (by omega) (by decide) tm (wp_iconst (v := nI 1) dX12_itemsOf_36 rfl ?_)))))))))))))))))))))))))))
    refine wn_icmp_le dX12_itemsOf_37 rfl (by omega) (by omega) (fun c37 => absurd c37 (by omega)) (fun c37 => ?_)
    exact wp_iconst (v := nI 1) dX12_itemsOf_40 rfl (wp_goto dX12_itemsOf_41 rfl (wv_iadd dX12_itemsOf_45 (nI_add _ _) (wp_ireturn dX12_itemsOf_46 rfl rfl ⟨xret (by omega), rfl⟩)))
  · have ex : xln L l = (L.getD l (0, 0, [])).2.2.length := by unfold xln xcI; rw [if_neg w]; simp
    refine xcall_intro (ls := [.ref 187, .int (nI s), .int (nI l)]) q_X12_itemsOf (by decide) rfl (Nat.le_of_ble_eq_true rfl) rfl ?_
    refine wp_aload_n dX12_itemsOf_0 rfl rfl (g11_216 dX12_itemsOf_1 (xsh hX sh_187) (xrr hX r187_35) (wp_bipush (v := nI 17) dX12_itemsOf_4 rfl (wp_iload_n dX12_itemsOf_6 rfl (wv_imul dX12_itemsOf_7 (pk_mul _ _) (wp_iload_n dX12_itemsOf_8 rfl (wv_iadd dX12_itemsOf_9 (nI_add _ _) (wp_iconst (v := nI 1) dX12_itemsOf_10 rfl (wv_iadd dX12_itemsOf_11 (nI_add _ _) (wn_iaload dX12_itemsOf_12 (xsh hX sh_201) rfl (by omega) (by decide) k1 (wp_aload_n dX12_itemsOf_13 rfl rfl (g11_216 dX12_itemsOf_14 (xsh hX sh_187) (xrr hX r187_35) (wp_bipush (v := nI 17) dX12_itemsOf_17 rfl (wp_iload_n dX12_itemsOf_19 rfl (wv_imul dX12_itemsOf_20 (pk_mul _ _) (wp_iload_n dX12_itemsOf_21 rfl (wv_iadd dX12_itemsOf_22 (nI_add _ _) (wn_iaload dX12_itemsOf_23 (xsh hX sh_201) rfl (by omega) (by decide) k2 (wv_isub dX12_itemsOf_24 (pk_sub (by omega)) (wp_aload_n dX12_itemsOf_25 rfl rfl (g11_219 dX12_itemsOf_26 (xsh hX sh_187) (xrr hX r187_36) (wp_bipush (v := nI 16) dX12_itemsOf_29 rfl (wp_iload_n dX12_itemsOf_31 rfl (wv_imul dX12_itemsOf_32 (pk_mul _ _) (wp_iload_n dX12_itemsOf_33 rfl (wv_iadd dX12_itemsOf_34 (nI_add _ _) (wn_iaload dX12_itemsOf_35 (xsh hX sh_202) rfl (by omega) (by decide) tm (wp_iconst (v := nI 1) dX12_itemsOf_36 rfl ?_)))))))))))))))))))))))))))
    refine wn_icmp_le dX12_itemsOf_37 rfl (by omega) (by omega) (fun c37 => ?_) (fun c37 => absurd c37 (by omega))
    exact wp_iconst (v := nI 0) dX12_itemsOf_44 rfl (wv_iadd dX12_itemsOf_45 (nI_add _ _) (wp_ireturn dX12_itemsOf_46 rfl rfl ⟨xret (by omega), rfl⟩))
