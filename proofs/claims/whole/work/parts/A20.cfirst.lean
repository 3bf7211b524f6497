/-! a GAME of the class: firstAnswer; game, says, sure, the calls -/
theorem xFW_0 (k i q : Nat) (h : xFW k i q) : xFW 0 i q := by unfold xFW at h ⊢; omega
theorem fa_wa {c : xPx} {see nw m s k a d : Nat} (ho : xzo c) (ha : xzal c = true) (h8 : xgH (xzg c) ≤ 8) (hsee : see < 2 ^ 12) (hnw : nw < 2 ^ 30) (hg : xgd c m s k) (ha5 : a < 5) {S : xS} (hP : xPr S c none see nw) (h82 : S.2.1 (82 + k) a = nI (xzh c 0 m s k a)) : ∃ S', xcall false (d + 2 * xgH (xzg c) + 4) j_X2_worthAfter [.ref 73, .int (nI m), .int (nI s), .int (nI k), .int (nI a)] S (some (.int (nI (xvl c 0 (fun _ L => L) (xVg c 0 see) m s k a)))) S' ∧ xFl (xFW (k + 1)) S S' ∧ xMo S' c none see nw := by
  have hk := hg.k
  obtain ⟨S', g1, z⟩ := c_worthAfter (w := none) (see := see) (nw := nw) (d := d + 2 * k + 2 * (xgH (xzg c) - (k + 1))) ho h8 (fun p q => by cases q) (fun m s S a1 a2 a3 a4 a5 => c_worthOf (w := none) ho h8 (fun p q => by cases q) ha hsee hnw (xgH (xzg c) - (k + 1)) (d + 2 * k) m s (k + 1) S (by omega) a1 a2 a3 a4 a5) hg ha5 hP h82
  rw [show d + 2 * k + 2 * (xgH (xzg c) - (k + 1)) + 6 = d + 2 * xgH (xzg c) + 4 by omega] at g1
  exact ⟨S', g1, z⟩
theorem fa_in {c : xPx} {see nw m s k d : Nat} {y2 : Int32} (ho : xzo c) (ha : xzal c = true) (h8 : xgH (xzg c) ≤ 8) (hsee : see < 2 ^ 12) (hnw : nw < 2 ^ 30) (hg : xgd c m s k) (ht : see.testBit (xzq c 0 m s k) = true) : ∀ (j a : Nat) (S : xS), a + j = c.2.2.2.1.length → xPr S c none see nw → (∀ e, e < c.2.2.2.1.length → S.2.1 (82 + k) e = nI (xzh c 0 m s k e)) → Wp false (d + 2 * xgH (xzg c) + 5) 2 cX2_firstAnswer (some .int) false 73 [.ref 73, .int (nI see), .int y2, .int (nI m), .int (nI s), .int (nI k), .int (nI c.2.2.2.1.length), .int (nI (xzq c 0 m s k)), .int (nI a)] [] S (fun r S' => r = some (.int (nI (xff (fun a => xmt9 c (xzq c 0 m s k) (xvl c 0 (fun _ L => L) (xVg c 0 see) m s k a)) j a))) ∧ xFl (xFW 0) S S' ∧ xMo S' c none see nw) := by
  have hN := ho.2.2.1
  have hq := xzq_lt (ex := 0) hg
  have hk := hg.k
  have hP12 : xgP (xzg c) ≤ 12 := ho.g.2.1
  have p12 : 2 ^ xgP (xzg c) ≤ 2 ^ 12 := Nat.pow_le_pow_right (by decide) hP12
  intro j
  induction j with
  | zero =>
    intro a S haj hP h82
    have haa : a = c.2.2.2.1.length := by omega
    have fin : xFl (xFW 0) S S ∧ xMo S c none see nw := ⟨xFl.rf S, hP.2.2.2⟩
    refine wp_iload dX2_firstAnswer_73 rfl (wp_iload dX2_firstAnswer_75 rfl ?_)
    refine wn_icmp_ge dX2_firstAnswer_77 rfl (by omega) (by omega) (fun c77 => ?_) (fun c77 => absurd c77 (by omega))
    exact wp_iconst (v := nI 0) dX2_firstAnswer_118 rfl (wp_ireturn dX2_firstAnswer_119 rfl rfl ⟨rfl, fin⟩)
  | succ j ih =>
    intro a S haj hP h82
    have hX := hP.1
    have gs := c_sees (q := xzq c 0 m s k) (d + 2 * xgH (xzg c) + 4) (by omega) hsee hX hP.2.2.1
    rw [ht] at gs
    obtain ⟨S1, ga, f1, m1⟩ := fa_wa (d := d) ho ha h8 hsee hnw hg (show a < 5 by omega) hP (h82 a (by omega))
    have P1 := hP.fr ho f1 m1
    have X1 := P1.1
    have hv := xvl_lt (see := see) (a := a) ho hg (ex := 0)
    have gm := c_meets (q := xzq c 0 m s k) (L := (xvl c 0 (fun _ L => L) (xVg c 0 see) m s k a)) (d + 2 * xgH (xzg c) + 4) (by omega) (by omega) X1 P1.2.2.1
    rw [xff]
    cases hm : xmt9 c (xzq c 0 m s k) (xvl c 0 (fun _ L => L) (xVg c 0 see) m s k a) with
    | true =>
      rw [hm] at gm
      rw [if_pos rfl]
      have fin : xFl (xFW 0) S S1 ∧ xMo S1 c none see nw := ⟨f1.mono (xFW_0 _), m1⟩
      refine wp_iload dX2_firstAnswer_73 rfl (wp_iload dX2_firstAnswer_75 rfl ?_)
      refine wn_icmp_ge dX2_firstAnswer_77 rfl (by omega) (by omega) (fun c77 => absurd c77 (by omega)) (fun c77 => ?_)
      refine wp_aload_n dX2_firstAnswer_80 rfl rfl (wp_iload dX2_firstAnswer_81 rfl (wp_iv2 dX2_firstAnswer_83 k2_60 q_X2_sees (by decide) (xsh hX sh_73) (by decide) (Nat.le_of_ble_eq_true rfl) gs ?_))
      refine wb_if_eq dX2_firstAnswer_86 rfl (fun c86 => absurd c86 (by decide)) (fun c86 => ?_)
      refine wp_aload_n dX2_firstAnswer_89 rfl rfl (wp_iload dX2_firstAnswer_90 rfl (wp_aload_n dX2_firstAnswer_92 rfl rfl (wp_iload_n dX2_firstAnswer_93 rfl (wp_iload dX2_firstAnswer_94 rfl (wp_iload dX2_firstAnswer_96 rfl (wp_iload dX2_firstAnswer_98 rfl (wp_iv5 dX2_firstAnswer_100 k2_63 q_X2_worthAfter (by decide) (xsh hX sh_73) (by decide) (Nat.le_of_ble_eq_true rfl) ga (wp_iv3 dX2_firstAnswer_103 k2_67 q_X2_meets (by decide) (xsh X1 sh_73) (by decide) (Nat.le_of_ble_eq_true rfl) gm ?_))))))))
      refine wb_if_eq dX2_firstAnswer_106 rfl (fun c106 => absurd c106 (by decide)) (fun c106 => ?_)
      exact wp_iload dX2_firstAnswer_109 rfl (wp_ireturn dX2_firstAnswer_111 rfl rfl ⟨rfl, fin⟩)
    | false =>
      rw [hm] at gm
      rw [if_neg (by decide)]
      have nx := (ih (a + 1) S1 (by omega) P1 (fun e he => f1.i (h82 e he) (by unfold xFW; omega))).mono (Q' := (fun r S' => r = some (.int (nI (xff (fun a => xmt9 c (xzq c 0 m s k) (xvl c 0 (fun _ L => L) (xVg c 0 see) m s k a)) j (a + 1)))) ∧ xFl (xFW 0) S S' ∧ xMo S' c none see nw)) (fun r S' z => ⟨z.1, (f1.mono (xFW_0 _)).tt z.2.1, z.2.2⟩)
      refine wp_iload dX2_firstAnswer_73 rfl (wp_iload dX2_firstAnswer_75 rfl ?_)
      refine wn_icmp_ge dX2_firstAnswer_77 rfl (by omega) (by omega) (fun c77 => absurd c77 (by omega)) (fun c77 => ?_)
      refine wp_aload_n dX2_firstAnswer_80 rfl rfl (wp_iload dX2_firstAnswer_81 rfl (wp_iv2 dX2_firstAnswer_83 k2_60 q_X2_sees (by decide) (xsh hX sh_73) (by decide) (Nat.le_of_ble_eq_true rfl) gs ?_))
      refine wb_if_eq dX2_firstAnswer_86 rfl (fun c86 => absurd c86 (by decide)) (fun c86 => ?_)
      refine wp_aload_n dX2_firstAnswer_89 rfl rfl (wp_iload dX2_firstAnswer_90 rfl (wp_aload_n dX2_firstAnswer_92 rfl rfl (wp_iload_n dX2_firstAnswer_93 rfl (wp_iload dX2_firstAnswer_94 rfl (wp_iload dX2_firstAnswer_96 rfl (wp_iload dX2_firstAnswer_98 rfl (wp_iv5 dX2_firstAnswer_100 k2_63 q_X2_worthAfter (by decide) (xsh hX sh_73) (by decide) (Nat.le_of_ble_eq_true rfl) ga (wp_iv3 dX2_firstAnswer_103 k2_67 q_X2_meets (by decide) (xsh X1 sh_73) (by decide) (Nat.le_of_ble_eq_true rfl) gm ?_))))))))
      refine wb_if_eq dX2_firstAnswer_106 rfl (fun c106 => ?_) (fun c106 => absurd c106 (by decide))
      exact wp_iinc dX2_firstAnswer_112 rfl (nI_1 _) ⟨Nat.le_of_ble_eq_true rfl, Or.inr rfl⟩ rfl (wp_goto dX2_firstAnswer_115 rfl nx)
theorem fa_loop {c : xPx} {see nw d : Nat} {y2 : Int32} (ho : xzo c) (ha : xzal c = true) (h8 : xgH (xzg c) ≤ 8) (hsee : see < 2 ^ 12) (hnw : nw < 2 ^ 30) : ∀ (f m s k : Nat) (S : xS) (y6 y7 y8 : Value), k + f = xgH (xzg c) → m < 2 ^ xgH (xzg c) → s < xgH (xzg c) → xcb m (xgH (xzg c)) + k = xgH (xzg c) → (xgs (xzg c) = true → 0 < m) → xPr S c none see nw → Wp false (d + 2 * xgH (xzg c) + 5) 2 cX2_firstAnswer (some .int) false 21 [.ref 73, .int (nI see), .int y2, .int (nI m), .int (nI s), .int (nI k), y6, y7, y8] [] S (fun r S' => r = some (.int (if xovr (xzg c) m = true then -1 else xsy c see f m s k)) ∧ xFl (xFW 0) S S' ∧ xMo S' c none see nw) := by
  have hgg := ho.g
  have g24 := hgg.H
  have hN := ho.2.2.1
  have hP12 : xgP (xzg c) ≤ 12 := hgg.2.1
  have over : ∀ (f m s k : Nat) (S : xS) (y6 y7 y8 : Value), k ≤ 8 → m < 2 ^ xgH (xzg c) → xPr S c none see nw → xovr (xzg c) m = true → Wp false (d + 2 * xgH (xzg c) + 5) 2 cX2_firstAnswer (some .int) false 21 [.ref 73, .int (nI see), .int y2, .int (nI m), .int (nI s), .int (nI k), y6, y7, y8] [] S (fun r S' => r = some (.int (if xovr (xzg c) m = true then -1 else xsy c see f m s k)) ∧ xFl (xFW 0) S S' ∧ xMo S' c none see nw) := by
    intro f m s k S y6 y7 y8 hk hm hP hov
    have hX := hP.1
    have gi := c_isOver (d + 2 * xgH (xzg c) + 3) hgg hm hX hP.2.1.1
    rw [hov] at gi
    rw [hov, if_pos rfl]
    have fin : xFl (xFW 0) S S ∧ xMo S c none see nw := ⟨xFl.rf S, hP.2.2.2⟩
    rcases Nat.lt_or_ge k 8 with w | w
    · skip
      refine wp_iload dX2_firstAnswer_21 rfl (wp_bipush (v := nI 8) dX2_firstAnswer_23 rfl ?_)
      refine wn_icmp_ge dX2_firstAnswer_25 rfl (by omega) (by omega) (fun c25 => absurd c25 (by omega)) (fun c25 => ?_)
      refine wp_aload_n dX2_firstAnswer_28 rfl rfl (g2_14 dX2_firstAnswer_29 (xsh hX sh_73) (xrr hX r73_0) (wp_iload_n dX2_firstAnswer_32 rfl (wp_iv2 dX2_firstAnswer_33 k2_50 q_X4_isOver (by decide) (xsh hX sh_74) (by decide) (Nat.le_of_ble_eq_true rfl) gi ?_)))
      refine wb_if_ne dX2_firstAnswer_36 rfl (fun c36 => ?_) (fun c36 => absurd c36 (by decide))
      exact wp_iconst (v := -1) dX2_firstAnswer_177 rfl (wp_ireturn dX2_firstAnswer_178 rfl rfl ⟨rfl, fin⟩)
    · skip
      refine wp_iload dX2_firstAnswer_21 rfl (wp_bipush (v := nI 8) dX2_firstAnswer_23 rfl ?_)
      refine wn_icmp_ge dX2_firstAnswer_25 rfl (by omega) (by omega) (fun c25 => ?_) (fun c25 => absurd c25 (by omega))
      exact wp_iconst (v := -1) dX2_firstAnswer_177 rfl (wp_ireturn dX2_firstAnswer_178 rfl rfl ⟨rfl, fin⟩)
  intro f
  induction f with
  | zero =>
    intro m s k S y6 y7 y8 hk hm hs hc h0 hP
    have hz : m = 0 := by
      rcases Nat.eq_zero_or_pos m with z | z
      · exact z
      · have := xcb_ge hm z; omega
    have hst : xgs (xzg c) = false := by
      cases e : xgs (xzg c) with
      | false => rfl
      | true => have := h0 e; omega
    exact over 0 m s k S y6 y7 y8 (by omega) hm hP (by rw [hz]; exact xovr_0 hst)
  | succ f ih =>
    intro m s k S y6 y7 y8 hk hm hs hc h0 hP
    cases hov : xovr (xzg c) m with
    | true =>
      have e := over (f + 1) m s k S y6 y7 y8 (by omega) hm hP hov
      rw [hov] at e
      exact e
    | false =>
      rw [if_neg (by decide), xsy]
      have hX := hP.1
      have hm0 : 0 < m := by
        rcases Nat.eq_zero_or_pos m with z | z
        · cases hst : xgs (xzg c) with
          | true => exact h0 hst
          | false => rw [z, xovr_0 hst] at hov; cases hov
        · exact z
      have hg : xgd c m s k := ⟨hm, hm0, hs, hc⟩
      have hq := xzq_lt (ex := 0) hg
      have gi := c_isOver (d + 2 * xgH (xzg c) + 3) hgg hm hX hP.2.1.1
      rw [hov] at gi
      obtain ⟨S1, gr, f1, h80, h82⟩ := c_reckonZ (ex := 0) (m := m) (s := s) (k := k) (d + 2 * xgH (xzg c) + 1) ho ha (by decide) hm hm0 hs (by omega) hX hP.2.1
      have F1 : xFl (xFW k) S S1 := f1.mono (fun i q h => by unfold xFW; omega)
      have P1 := hP.fr ho F1 (hP.2.2.2.fr f1 (fun x => by omega))
      have X1 := P1.1
      have ga := c_askerOf (d + 2 * xgH (xzg c) + 4) (show k < 24 by omega) X1 h80
      cases hask : xzA c k with
      | true =>
        have hw2 : xzw c k = c.2.2.2.1.length := by unfold xzw; rw [if_pos hask]
        rw [hask, if_pos rfl] at ga
        rw [hw2] at h82 gr
        rw [if_pos rfl]
        cases ht : see.testBit (xzq c 0 m s k) with
        | false =>
          rw [if_neg (by decide)]
          have gs := c_sees (q := xzq c 0 m s k) (d + 2 * xgH (xzg c) + 4) (by omega) hsee X1 P1.2.2.1
          rw [ht] at gs
          have fin : xFl (xFW 0) S S1 ∧ xMo S1 c none see nw := ⟨F1.mono (xFW_0 _), P1.2.2.2⟩
          refine wp_iload dX2_firstAnswer_21 rfl (wp_bipush (v := nI 8) dX2_firstAnswer_23 rfl ?_)
          refine wn_icmp_ge dX2_firstAnswer_25 rfl (by omega) (by omega) (fun c25 => absurd c25 (by omega)) (fun c25 => ?_)
          refine wp_aload_n dX2_firstAnswer_28 rfl rfl (g2_14 dX2_firstAnswer_29 (xsh hX sh_73) (xrr hX r73_0) (wp_iload_n dX2_firstAnswer_32 rfl (wp_iv2 dX2_firstAnswer_33 k2_50 q_X4_isOver (by decide) (xsh hX sh_74) (by decide) (Nat.le_of_ble_eq_true rfl) gi ?_)))
          refine wb_if_ne dX2_firstAnswer_36 rfl (fun c36 => absurd c36 (by decide)) (fun c36 => ?_)
          refine wp_aload_n dX2_firstAnswer_39 rfl rfl (g2_14 dX2_firstAnswer_40 (xsh hX sh_73) (xrr hX r73_0) (wp_iload_n dX2_firstAnswer_43 rfl (wp_iload dX2_firstAnswer_44 rfl (wp_iload dX2_firstAnswer_46 rfl (wp_iv4 dX2_firstAnswer_48 k2_54 q_X4_reckon (by decide) (xsh hX sh_74) (by decide) (Nat.le_of_ble_eq_true rfl) gr (wp_istore dX2_firstAnswer_51 ⟨Nat.le_of_ble_eq_true rfl, Or.inr rfl⟩ rfl (wp_aload_n dX2_firstAnswer_53 rfl rfl (g2_14 dX2_firstAnswer_54 (xsh X1 sh_73) (xrr X1 r73_0) (wp_iload dX2_firstAnswer_57 rfl (wp_iv2 dX2_firstAnswer_59 k2_57 q_X4_askerOf (by decide) (xsh X1 sh_74) (by decide) (Nat.le_of_ble_eq_true rfl) ga (wp_istore dX2_firstAnswer_62 ⟨Nat.le_of_ble_eq_true rfl, Or.inr rfl⟩ rfl (wp_iload dX2_firstAnswer_64 rfl (wp_iconst (v := -1) dX2_firstAnswer_66 rfl ?_)))))))))))))
          refine wp_icmp_eq dX2_firstAnswer_67 rfl (fun c67 => absurd c67 (nI_m1 (by omega))) (fun c67 => ?_)
          refine wp_iconst (v := nI 0) dX2_firstAnswer_70 rfl (wp_istore dX2_firstAnswer_71 ⟨Nat.le_of_ble_eq_true rfl, Or.inr rfl⟩ rfl ?_)
          refine wp_iload dX2_firstAnswer_73 rfl (wp_iload dX2_firstAnswer_75 rfl ?_)
          refine wn_icmp_ge dX2_firstAnswer_77 rfl (by omega) (by omega) (fun c77 => absurd c77 (by omega)) (fun c77 => ?_)
          refine wp_aload_n dX2_firstAnswer_80 rfl rfl (wp_iload dX2_firstAnswer_81 rfl (wp_iv2 dX2_firstAnswer_83 k2_60 q_X2_sees (by decide) (xsh X1 sh_73) (by decide) (Nat.le_of_ble_eq_true rfl) gs ?_))
          refine wb_if_eq dX2_firstAnswer_86 rfl (fun c86 => ?_) (fun c86 => absurd c86 (by decide))
          exact wp_iconst (v := nI 0) dX2_firstAnswer_118 rfl (wp_ireturn dX2_firstAnswer_119 rfl rfl ⟨rfl, fin⟩)
        | true =>
          rw [if_pos rfl]
          have lp := (fa_in (d := d) (y2 := y2) ho ha h8 hsee hnw hg ht c.2.2.2.1.length 0 S1 (Nat.zero_add _) P1 h82).mono (Q' := (fun r S' => r = some (.int (nI (xff (fun a => xmt9 c (xzq c 0 m s k) (xvl c 0 (fun _ L => L) (xVg c 0 see) m s k a)) c.2.2.2.1.length 0))) ∧ xFl (xFW 0) S S' ∧ xMo S' c none see nw)) (fun r S' z => ⟨z.1, (F1.mono (xFW_0 _)).tt z.2.1, z.2.2⟩)
          refine wp_iload dX2_firstAnswer_21 rfl (wp_bipush (v := nI 8) dX2_firstAnswer_23 rfl ?_)
          refine wn_icmp_ge dX2_firstAnswer_25 rfl (by omega) (by omega) (fun c25 => absurd c25 (by omega)) (fun c25 => ?_)
          refine wp_aload_n dX2_firstAnswer_28 rfl rfl (g2_14 dX2_firstAnswer_29 (xsh hX sh_73) (xrr hX r73_0) (wp_iload_n dX2_firstAnswer_32 rfl (wp_iv2 dX2_firstAnswer_33 k2_50 q_X4_isOver (by decide) (xsh hX sh_74) (by decide) (Nat.le_of_ble_eq_true rfl) gi ?_)))
          refine wb_if_ne dX2_firstAnswer_36 rfl (fun c36 => absurd c36 (by decide)) (fun c36 => ?_)
          refine wp_aload_n dX2_firstAnswer_39 rfl rfl (g2_14 dX2_firstAnswer_40 (xsh hX sh_73) (xrr hX r73_0) (wp_iload_n dX2_firstAnswer_43 rfl (wp_iload dX2_firstAnswer_44 rfl (wp_iload dX2_firstAnswer_46 rfl (wp_iv4 dX2_firstAnswer_48 k2_54 q_X4_reckon (by decide) (xsh hX sh_74) (by decide) (Nat.le_of_ble_eq_true rfl) gr (wp_istore dX2_firstAnswer_51 ⟨Nat.le_of_ble_eq_true rfl, Or.inr rfl⟩ rfl (wp_aload_n dX2_firstAnswer_53 rfl rfl (g2_14 dX2_firstAnswer_54 (xsh X1 sh_73) (xrr X1 r73_0) (wp_iload dX2_firstAnswer_57 rfl (wp_iv2 dX2_firstAnswer_59 k2_57 q_X4_askerOf (by decide) (xsh X1 sh_74) (by decide) (Nat.le_of_ble_eq_true rfl) ga (wp_istore dX2_firstAnswer_62 ⟨Nat.le_of_ble_eq_true rfl, Or.inr rfl⟩ rfl (wp_iload dX2_firstAnswer_64 rfl (wp_iconst (v := -1) dX2_firstAnswer_66 rfl ?_)))))))))))))
          refine wp_icmp_eq dX2_firstAnswer_67 rfl (fun c67 => absurd c67 (nI_m1 (by omega))) (fun c67 => ?_)
          exact wp_iconst (v := nI 0) dX2_firstAnswer_70 rfl (wp_istore dX2_firstAnswer_71 ⟨Nat.le_of_ble_eq_true rfl, Or.inr rfl⟩ rfl lp)
      | false =>
        have hw2 : xzw c k = 1 := by unfold xzw; rw [hask, if_neg (by decide)]
        rw [hask, if_neg (by decide)] at ga
        rw [hw2] at h82 gr
        rw [if_neg (by decide)]
        have ks := P1.2.1.1.2.2.2.2.2.1
        have hh : xzh c 0 m s k 0 < xgH (xzg c) := xzh_lt 0 m k 0 hs
        have gh := c_handHit (d + 2 * xgH (xzg c) + 4) (show k < 24 by omega) (show 0 < 5 by decide) X1 (h82 0 (by decide))
        cases hst : xgs (xzg c) with
        | true =>
          rw [hst] at ks
          have en : xen c 0 m s k 0 = some (2 ^ xow (xgf (xzg c)) (xzh c 0 m s k 0)) := by unfold xen; rw [hst, if_pos rfl]
          rw [en]
          have fin : some (Value.int (-1)) = some (.int ((some (2 ^ xow (xgf (xzg c)) (xzh c 0 m s k 0))).elim (xsy c see f (xn1 c 0 m s k 0) (xn2 c 0 m s k 0) (k + 1)) (fun _ => -1))) ∧ xFl (xFW 0) S S1 ∧ xMo S1 c none see nw := ⟨rfl, F1.mono (xFW_0 _), P1.2.2.2⟩
          refine wp_iload dX2_firstAnswer_21 rfl (wp_bipush (v := nI 8) dX2_firstAnswer_23 rfl ?_)
          refine wn_icmp_ge dX2_firstAnswer_25 rfl (by omega) (by omega) (fun c25 => absurd c25 (by omega)) (fun c25 => ?_)
          refine wp_aload_n dX2_firstAnswer_28 rfl rfl (g2_14 dX2_firstAnswer_29 (xsh hX sh_73) (xrr hX r73_0) (wp_iload_n dX2_firstAnswer_32 rfl (wp_iv2 dX2_firstAnswer_33 k2_50 q_X4_isOver (by decide) (xsh hX sh_74) (by decide) (Nat.le_of_ble_eq_true rfl) gi ?_)))
          refine wb_if_ne dX2_firstAnswer_36 rfl (fun c36 => absurd c36 (by decide)) (fun c36 => ?_)
          refine wp_aload_n dX2_firstAnswer_39 rfl rfl (g2_14 dX2_firstAnswer_40 (xsh hX sh_73) (xrr hX r73_0) (wp_iload_n dX2_firstAnswer_43 rfl (wp_iload dX2_firstAnswer_44 rfl (wp_iload dX2_firstAnswer_46 rfl (wp_iv4 dX2_firstAnswer_48 k2_54 q_X4_reckon (by decide) (xsh hX sh_74) (by decide) (Nat.le_of_ble_eq_true rfl) gr (wp_istore dX2_firstAnswer_51 ⟨Nat.le_of_ble_eq_true rfl, Or.inr rfl⟩ rfl (wp_aload_n dX2_firstAnswer_53 rfl rfl (g2_14 dX2_firstAnswer_54 (xsh X1 sh_73) (xrr X1 r73_0) (wp_iload dX2_firstAnswer_57 rfl (wp_iv2 dX2_firstAnswer_59 k2_57 q_X4_askerOf (by decide) (xsh X1 sh_74) (by decide) (Nat.le_of_ble_eq_true rfl) ga (wp_istore dX2_firstAnswer_62 ⟨Nat.le_of_ble_eq_true rfl, Or.inr rfl⟩ rfl (wp_iload dX2_firstAnswer_64 rfl (wp_iconst (v := -1) dX2_firstAnswer_66 rfl ?_)))))))))))))
          refine wp_icmp_eq dX2_firstAnswer_67 rfl (fun c67 => ?_) (fun c67 => absurd c67 (not_not_intro rfl))
          refine wp_aload_n dX2_firstAnswer_120 rfl rfl (g2_14 dX2_firstAnswer_121 (xsh X1 sh_73) (xrr X1 r73_0) (gv2_71 dX2_firstAnswer_124 (xsh X1 sh_74) ks ?_))
          refine wb_if_eq dX2_firstAnswer_127 rfl (fun c127 => absurd c127 (by decide)) (fun c127 => ?_)
          exact wp_iconst (v := -1) dX2_firstAnswer_130 rfl (wp_ireturn dX2_firstAnswer_131 rfl rfl fin)
        | false =>
          rw [hst] at ks
          obtain ⟨x, hx, hb⟩ := xtb_ex hm hm0
          have hr1 := xzR_pos (k := k) hx hb hs
          have hbit : m.testBit (xzh c 0 m s k 0) = true := xha_tb hs hr1
          have hm2 : xn1 c 0 m s k 0 < 2 ^ xgH (xzg c) := xrm_lt hm hh
          have h24 := x24 g24.2.1 hm
          have h242 := x24 g24.2.1 hm2
          have hcb := xcb_rm hbit (xgH (xzg c)) hh
          have hs2 : xn2 c 0 m s k 0 < xgH (xzg c) := xnb1_lt hgg hs hh
          have hkk := hg.k
          have gn := c_nextBegin (m := xn1 c 0 m s k 0) (s := s) (h := xzh c 0 m s k 0) (k := k + 1) (d + 2 * xgH (xzg c) + 2) hgg (by omega) hs hh (by omega) X1 P1.2.1.1
          have e : (if xovr (xzg c) (xn1 c 0 m s k 0) = true then -1 else xsy c see f (xn1 c 0 m s k 0) (xn2 c 0 m s k 0) (k + 1)) = (xen c 0 m s k 0).elim (xsy c see f (xn1 c 0 m s k 0) (xn2 c 0 m s k 0) (k + 1)) (fun _ => -1) := by
            unfold xen
            rw [hst, if_neg Bool.false_ne_true]
            cases xovr (xzg c) (xn1 c 0 m s k 0) with
            | true => rw [if_pos rfl, if_pos rfl]; rfl
            | false => rw [if_neg Bool.false_ne_true, if_neg Bool.false_ne_true]; rfl
          have nx := (ih (xn1 c 0 m s k 0) (xn2 c 0 m s k 0) (k + 1) S1 (.int (nI 1)) (.int (-1)) (.int (nI (xzh c 0 m s k 0))) (by omega) hm2 hs2 (by show xcb (m ^^^ 2 ^ xzh c 0 m s k 0) _ + _ = _; omega) (fun q => by rw [hst] at q; cases q) P1).mono (Q' := (fun r S' => r = some (.int ((xen c 0 m s k 0).elim (xsy c see f (xn1 c 0 m s k 0) (xn2 c 0 m s k 0) (k + 1)) (fun _ => -1))) ∧ xFl (xFW 0) S S' ∧ xMo S' c none see nw)) (fun r S' z => ⟨by rw [← e]; exact z.1, (F1.mono (xFW_0 _)).tt z.2.1, z.2.2⟩)
          refine wp_iload dX2_firstAnswer_21 rfl (wp_bipush (v := nI 8) dX2_firstAnswer_23 rfl ?_)
          refine wn_icmp_ge dX2_firstAnswer_25 rfl (by omega) (by omega) (fun c25 => absurd c25 (by omega)) (fun c25 => ?_)
          refine wp_aload_n dX2_firstAnswer_28 rfl rfl (g2_14 dX2_firstAnswer_29 (xsh hX sh_73) (xrr hX r73_0) (wp_iload_n dX2_firstAnswer_32 rfl (wp_iv2 dX2_firstAnswer_33 k2_50 q_X4_isOver (by decide) (xsh hX sh_74) (by decide) (Nat.le_of_ble_eq_true rfl) gi ?_)))
          refine wb_if_ne dX2_firstAnswer_36 rfl (fun c36 => absurd c36 (by decide)) (fun c36 => ?_)
          refine wp_aload_n dX2_firstAnswer_39 rfl rfl (g2_14 dX2_firstAnswer_40 (xsh hX sh_73) (xrr hX r73_0) (wp_iload_n dX2_firstAnswer_43 rfl (wp_iload dX2_firstAnswer_44 rfl (wp_iload dX2_firstAnswer_46 rfl (wp_iv4 dX2_firstAnswer_48 k2_54 q_X4_reckon (by decide) (xsh hX sh_74) (by decide) (Nat.le_of_ble_eq_true rfl) gr (wp_istore dX2_firstAnswer_51 ⟨Nat.le_of_ble_eq_true rfl, Or.inr rfl⟩ rfl (wp_aload_n dX2_firstAnswer_53 rfl rfl (g2_14 dX2_firstAnswer_54 (xsh X1 sh_73) (xrr X1 r73_0) (wp_iload dX2_firstAnswer_57 rfl (wp_iv2 dX2_firstAnswer_59 k2_57 q_X4_askerOf (by decide) (xsh X1 sh_74) (by decide) (Nat.le_of_ble_eq_true rfl) ga (wp_istore dX2_firstAnswer_62 ⟨Nat.le_of_ble_eq_true rfl, Or.inr rfl⟩ rfl (wp_iload dX2_firstAnswer_64 rfl (wp_iconst (v := -1) dX2_firstAnswer_66 rfl ?_)))))))))))))
          refine wp_icmp_eq dX2_firstAnswer_67 rfl (fun c67 => ?_) (fun c67 => absurd c67 (not_not_intro rfl))
          refine wp_aload_n dX2_firstAnswer_120 rfl rfl (g2_14 dX2_firstAnswer_121 (xsh X1 sh_73) (xrr X1 r73_0) (gv2_71 dX2_firstAnswer_124 (xsh X1 sh_74) ks ?_))
          refine wb_if_eq dX2_firstAnswer_127 rfl (fun c127 => ?_) (fun c127 => absurd c127 (by decide))
          exact wp_aload_n dX2_firstAnswer_132 rfl rfl (g2_14 dX2_firstAnswer_133 (xsh X1 sh_73) (xrr X1 r73_0) (wp_iload dX2_firstAnswer_136 rfl (wp_iconst (v := nI 0) dX2_firstAnswer_138 rfl (wp_iv3 dX2_firstAnswer_139 k2_75 q_X4_handHit (by decide) (xsh X1 sh_74) (by decide) (Nat.le_of_ble_eq_true rfl) gh (wp_istore dX2_firstAnswer_142 ⟨Nat.le_of_ble_eq_true rfl, Or.inr rfl⟩ rfl (wp_iload_n dX2_firstAnswer_144 rfl (wp_iconst (v := nI 1) dX2_firstAnswer_145 rfl (wp_iload dX2_firstAnswer_146 rfl (wv_ishl dX2_firstAnswer_148 (xshl1 (by omega)) (wp_iconst (v := -1) dX2_firstAnswer_149 rfl (wp_ixor dX2_firstAnswer_150 (wv_iand dX2_firstAnswer_151 (xrmb (by omega) hbit) (wp_istore_n dX2_firstAnswer_152 ⟨Nat.le_of_ble_eq_true rfl, Or.inr rfl⟩ rfl (wp_aload_n dX2_firstAnswer_153 rfl rfl (g2_14 dX2_firstAnswer_154 (xsh X1 sh_73) (xrr X1 r73_0) (wp_iload_n dX2_firstAnswer_157 rfl (wp_iload dX2_firstAnswer_158 rfl (wp_iload dX2_firstAnswer_160 rfl (wp_iload dX2_firstAnswer_162 rfl (wp_iconst (v := nI 1) dX2_firstAnswer_164 rfl (wv_iadd dX2_firstAnswer_165 (nI_add _ _) (wp_iv5 dX2_firstAnswer_166 k2_79 q_X4_nextBegin (by decide) (xsh X1 sh_74) (by decide) (Nat.le_of_ble_eq_true rfl) gn (wp_istore dX2_firstAnswer_169 ⟨Nat.le_of_ble_eq_true rfl, Or.inr rfl⟩ rfl (wp_iinc dX2_firstAnswer_171 rfl (nI_1 _) ⟨Nat.le_of_ble_eq_true rfl, Or.inr rfl⟩ rfl (wp_goto dX2_firstAnswer_174 rfl nx)))))))))))))))))))))))))
theorem c_firstAnswer {c : xPx} {see n : Nat} (d : Nat) (ho : xzo c) (ha : xzal c = true) (h8 : xgH (xzg c) ≤ 8) (hsee : see < 2 ^ 12) {S : xS} (hX : XC S) (hD : xRD S c 0) (hN : xNw S n) (hn : n < 2 ^ 29) : ∃ S', xcall false (d + 22) j_X2_firstAnswer [.ref 73, .int (nI see), .int (xB (xaim c))] S (some (.int (if xovr (xzg c) (2 ^ xgH (xzg c) - 1) = true then -1 else xsy c see (xgH (xzg c)) (2 ^ xgH (xzg c) - 1) 0 0))) S' ∧ xFl (fun i q => (i = 73 ∧ (q = 3 ∨ q = 5 ∨ q = 6 ∨ q = 7)) ∨ (i = 74 ∧ q = 7) ∨ i = 79 ∨ i = 80 ∨ (82 ≤ i ∧ i ≤ 105) ∨ i = 130 ∨ i = 131) S S' ∧ xNw S' (n + 1) := by
  have gs := c_setOut (c := c) (w := none) (see := see) (d + 21) hX hN.1
  obtain ⟨F, P⟩ := xPr_0 (w := none) (see := see) ho h8 hX hD hN hn
  have X1 := F.XC hX
  have g0 := xgd_0 ho
  have gh := c_allHands (d + 21) ho.g X1 P.2.1.1
  have lp := fa_loop (nw := n + 1) (y2 := xB (xaim c)) (d := d + 17 - 2 * xgH (xzg c)) ho ha h8 hsee (by omega) (xgH (xzg c)) (2 ^ xgH (xzg c) - 1) 0 0 _ (.float 0) (.float 0) (.float 0) (Nat.zero_add _) g0.1 g0.2.2.1 g0.2.2.2 (fun _ => g0.2.1) P
  rw [show d + 17 - 2 * xgH (xzg c) + 2 * xgH (xzg c) + 5 = d + 22 by omega] at lp
  obtain ⟨r, S', g1, rfl, z1, z2⟩ := xcall_some (al := false) (d := d + 22) (ls := [.ref 73, .int (nI see), .int (xB (xaim c)), .float 0, .float 0, .float 0, .float 0, .float 0, .float 0]) (S := S) (as := [.ref 73, .int (nI see), .int (xB (xaim c))]) q_X2_firstAnswer (by decide) rfl (Nat.le_of_ble_eq_true rfl) rfl (P := _) (by
      exact wp_aload_n dX2_firstAnswer_0 rfl rfl (wp_iload_n dX2_firstAnswer_1 rfl (wp_iconst (v := -1) dX2_firstAnswer_2 rfl (wp_iload_n dX2_firstAnswer_3 rfl (wp_iv4 dX2_firstAnswer_4 k2_38 q_X2_setOut (by decide) (xsh hX sh_73) (by decide) (Nat.le_of_ble_eq_true rfl) gs (wp_aload_n dX2_firstAnswer_7 rfl rfl (g2_14 dX2_firstAnswer_8 (xsh X1 sh_73) (xrr X1 r73_0) (wp_iv1 dX2_firstAnswer_11 k2_42 q_X4_allHands (by decide) (xsh X1 sh_74) (by decide) (Nat.le_of_ble_eq_true rfl) gh (wp_istore_n dX2_firstAnswer_14 ⟨Nat.le_of_ble_eq_true rfl, Or.inr rfl⟩ rfl (wp_iconst (v := nI 0) dX2_firstAnswer_15 rfl (wp_istore dX2_firstAnswer_16 ⟨Nat.le_of_ble_eq_true rfl, Or.inr rfl⟩ rfl (wp_iconst (v := nI 0) dX2_firstAnswer_18 rfl (wp_istore dX2_firstAnswer_19 ⟨Nat.le_of_ble_eq_true rfl, Or.inr rfl⟩ rfl lp)))))))))))))
  exact ⟨S', g1, (F.mono (fun i q h => by omega)).tt (z1.mono (fun i q h => by unfold xFW at h; omega)), z1.i P.2.2.1.1 (by unfold xFW; omega), z2.1⟩
