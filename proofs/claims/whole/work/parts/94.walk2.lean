/-! a PLAY of the class: the walk, play -/
theorem xTb.fr {S S' : xS} {n : Nat} {t : Nat → Nat} {P : Nat → Nat → Prop} (h : xTb S n t) (hf : xFl P S S') (hn : ∀ k, ¬ P 2 k) : xTb S' n t := ⟨h.1, fun q hq => ⟨(h.2 q hq).1, hf.i (h.2 q hq).2 (hn q)⟩⟩
theorem c_byteOr {n j : Nat} {t : Nat → Nat} (d : Nat) (hj : j < 1000) {S : xS} (hX : XC S) (hT : xTb S n t) : xcall false d j_X6_byteOr [.ref 1, .int (nI j), .int (nI n), .int (nI 0)] S (some (.int (nI (if j < n then t j else 0)))) S := by
  have h260 := hT.1
  rcases Nat.lt_or_ge j n with w | w
  · have e := (hT.2 j w).2
    rw [if_pos w]
    refine xcall_intro (ls := [.ref 1, .int (nI j), .int (nI n), .int (nI 0)]) q_X6_byteOr (by decide) rfl (Nat.le_of_ble_eq_true rfl) rfl ?_
    refine wp_iload_n dX6_byteOr_0 rfl ?_
    refine wn_if_lt dX6_byteOr_1 rfl (by omega) ?_
    refine wp_iload_n dX6_byteOr_4 rfl (wp_iload_n dX6_byteOr_5 rfl ?_)
    refine wn_icmp_ge dX6_byteOr_6 rfl (by omega) (by omega) (fun c6 => absurd c6 (by omega)) (fun c6 => ?_)
    refine wp_iload_n dX6_byteOr_9 rfl (wp_aload_n dX6_byteOr_10 rfl rfl (g5_9 dX6_byteOr_11 (xsh hX sh_1) (xrr hX r1_0) (wp_alen (v := nI 260) dX6_byteOr_14 (xsh hX sh_2) ⟨by decide, by decide⟩ rfl ?_)))
    refine wn_icmp_ge dX6_byteOr_15 rfl (by omega) (by omega) (fun c15 => absurd c15 (by omega)) (fun c15 => ?_)
    exact wp_aload_n dX6_byteOr_18 rfl rfl (g5_9 dX6_byteOr_19 (xsh hX sh_1) (xrr hX r1_0) (wp_iload_n dX6_byteOr_22 rfl (wn_caload dX6_byteOr_23 (xsh hX sh_2) rfl (by omega) (by decide) e (wp_goto dX6_byteOr_24 rfl (wp_ireturn dX6_byteOr_28 rfl rfl ⟨rfl, rfl⟩)))))
  · rw [if_neg (by omega)]
    refine xcall_intro (ls := [.ref 1, .int (nI j), .int (nI n), .int (nI 0)]) q_X6_byteOr (by decide) rfl (Nat.le_of_ble_eq_true rfl) rfl ?_
    refine wp_iload_n dX6_byteOr_0 rfl ?_
    refine wn_if_lt dX6_byteOr_1 rfl (by omega) ?_
    refine wp_iload_n dX6_byteOr_4 rfl (wp_iload_n dX6_byteOr_5 rfl ?_)
    refine wn_icmp_ge dX6_byteOr_6 rfl (by omega) (by omega) (fun c6 => ?_) (fun c6 => absurd c6 (by omega))
    exact wp_iload_n dX6_byteOr_27 rfl (wp_ireturn dX6_byteOr_28 rfl rfl ⟨rfl, rfl⟩)
theorem wk_loop {c : xPx} {tp : Nat → Nat} {n d : Nat} (ho : xzo c) (ha : xzal c = true) (htp : ∀ q, q < n → tp q < c.2.2.2.1.length) : ∀ (f k m s j : Nat) (S : xS) (y5 y6 : Value), k + f = 24 → m < 2 ^ xgH (xzg c) → (xgs (xzg c) = true → 0 < m) → s < xgH (xzg c) → j ≤ k → XC S → xRD S c 0 → xTb S n tp → S.2.1 0 18 = nI k → Wp false (d + 4) 10 cX11_walk (some .int) false 18 [.ref 0, .int (nI n), .int (nI m), .int (nI s), .int (nI j), y5, y6] [] S (fun r S' => r = some (.int (nI (xwk c tp n f m s k j).2)) ∧ xFl (fun i q => (i = 0 ∧ q = 18) ∨ (i = 186 ∧ k ≤ q) ∨ (i = 74 ∧ q = 7) ∨ i = 79 ∨ i = 80 ∨ (82 ≤ i ∧ i ≤ 105)) S S' ∧ S'.2.1 0 18 = nI (k + (xwk c tp n f m s k j).1.length) ∧ ∀ q, q < (xwk c tp n f m s k j).1.length → S'.2.1 186 (k + q) = nI ((xwk c tp n f m s k j).1.getD q 0)) := by
  have hg := ho.g
  have g24 := hg.H
  have hac := ho.2.2.1
  intro f
  induction f with
  | zero =>
    intro k m s j S y5 y6 hk hm h0 hs hj hX hD hT kc
    have hkk : k = 24 := by omega
    subst hkk
    have h24 := x24 g24.2.1 hm
    have gw := c_owners (m := m) (d + 3) hg (by omega) hX hD.1
    have fin : xFl (fun i q => (i = 0 ∧ q = 18) ∨ (i = 186 ∧ 24 ≤ q) ∨ (i = 74 ∧ q = 7) ∨ i = 79 ∨ i = 80 ∨ (82 ≤ i ∧ i ≤ 105)) S S ∧ S.2.1 0 18 = nI (24 + ([] : List Nat).length) ∧ ∀ q, q < ([] : List Nat).length → S.2.1 186 (24 + q) = nI (([] : List Nat).getD q 0) := ⟨xFl.rf S, kc, fun q hq => absurd hq (Nat.not_lt_zero q)⟩
    refine wp_aload_n dX11_walk_18 rfl rfl (gv10_216 dX11_walk_19 (xsh hX sh_0) kc (wp_aload_n dX11_walk_22 rfl rfl (g10_92 dX11_walk_23 (xsh hX sh_0) (xrr hX r0_17) (wp_alen (v := nI 24) dX11_walk_26 (xsh hX sh_186) ⟨by decide, by decide⟩ rfl ?_))))
    refine wn_icmp_ge dX11_walk_27 rfl (by omega) (by omega) (fun c27 => ?_) (fun c27 => absurd c27 (by omega))
    exact wp_aload_n dX11_walk_182 rfl rfl (g10_82 dX11_walk_183 (xsh hX sh_0) (xrr hX r0_14) (wp_iload_n dX11_walk_186 rfl (wp_iv2 dX11_walk_187 k10_345 q_X4_owners (by decide) (xsh hX sh_74) (by decide) (Nat.le_of_ble_eq_true rfl) gw (wp_ireturn dX11_walk_190 rfl rfl ⟨rfl, fin⟩))))
  | succ f ih =>
    intro k m s j S y5 y6 hk hm h0 hs hj hX hD hT kc
    have h24 := x24 g24.2.1 hm
    have hR := hD.1
    have gi := c_isOver (d + 2) hg hm hX hR
    rw [xwk]
    cases hov : xovr (xzg c) m with
    | true =>
      rw [hov] at gi
      rw [if_pos rfl]
      have gw := c_owners (m := m) (d + 3) hg (by omega) hX hR
      have fin : xFl (fun i q => (i = 0 ∧ q = 18) ∨ (i = 186 ∧ k ≤ q) ∨ (i = 74 ∧ q = 7) ∨ i = 79 ∨ i = 80 ∨ (82 ≤ i ∧ i ≤ 105)) S S ∧ S.2.1 0 18 = nI (k + ([] : List Nat).length) ∧ ∀ q, q < ([] : List Nat).length → S.2.1 186 (k + q) = nI (([] : List Nat).getD q 0) := ⟨xFl.rf S, kc, fun q hq => absurd hq (Nat.not_lt_zero q)⟩
      refine wp_aload_n dX11_walk_18 rfl rfl (gv10_216 dX11_walk_19 (xsh hX sh_0) kc (wp_aload_n dX11_walk_22 rfl rfl (g10_92 dX11_walk_23 (xsh hX sh_0) (xrr hX r0_17) (wp_alen (v := nI 24) dX11_walk_26 (xsh hX sh_186) ⟨by decide, by decide⟩ rfl ?_))))
      refine wn_icmp_ge dX11_walk_27 rfl (by omega) (by omega) (fun c27 => absurd c27 (by omega)) (fun c27 => ?_)
      refine wp_aload_n dX11_walk_30 rfl rfl (g10_82 dX11_walk_31 (xsh hX sh_0) (xrr hX r0_14) (wp_iload_n dX11_walk_34 rfl (wp_iv2 dX11_walk_35 k10_319 q_X4_isOver (by decide) (xsh hX sh_74) (by decide) (Nat.le_of_ble_eq_true rfl) gi ?_)))
      refine wb_if_ne dX11_walk_38 rfl (fun c38 => ?_) (fun c38 => absurd c38 (by decide))
      exact wp_aload_n dX11_walk_182 rfl rfl (g10_82 dX11_walk_183 (xsh hX sh_0) (xrr hX r0_14) (wp_iload_n dX11_walk_186 rfl (wp_iv2 dX11_walk_187 k10_345 q_X4_owners (by decide) (xsh hX sh_74) (by decide) (Nat.le_of_ble_eq_true rfl) gw (wp_ireturn dX11_walk_190 rfl rfl ⟨rfl, fin⟩))))
    | false =>
      rw [hov] at gi
      rw [if_neg (by decide)]
      have hm0 : 0 < m := by
        rcases Nat.eq_zero_or_pos m with z | z
        · cases hst : xgs (xzg c) with
          | true => exact h0 hst
          | false =>
            subst z
            rw [xovr_0 hst] at hov
            cases hov
        · exact z
      obtain ⟨x, hx, hb⟩ := xtb_ex hm hm0
      have hr1 := xzR_pos (k := k) hx hb hs
      obtain ⟨S1, gr, f1, ga1, gst⟩ := c_reckonZ (ex := 0) (m := m) (s := s) (k := k) d ho ha (by decide) hm hm0 hs (by omega) hX hD
      have X1 := f1.XC hX
      have hA : (xwa c tp n k j) < xzw c k := by
        unfold xwa xzw
        split
        · split
          · rename_i w; exact htp j w
          · exact hac.1
        · decide
      have hA5 : (xwa c tp n k j) < 5 := by
        have : xzw c k ≤ 5 := by unfold xzw; split <;> omega
        omega
      have hh : (xzh c 0 m s k (xwa c tp n k j)) < xgH (xzg c) := xzh_lt 0 m k _ hs
      have hbit : m.testBit (xzh c 0 m s k (xwa c tp n k j)) = true := xha_tb hs hr1
      have hw := xow_lt hh
      have hq : xzq c 0 m s k < xgP (xzg c) := xow_lt (xha_lt hs)
      have hP := hg.2.1
      have gh := c_handHit (k := k) (a := (xwa c tp n k j)) (d + 3) (show k < 24 by omega) hA5 X1 (gst _ hA)
      have D1 := hD.fr f1 (fun i q h => by omega) ho
      have T1 := hT.fr f1 (fun q h => by omega)
      have kc1 : S1.2.1 0 18 = nI k := f1.i kc (by omega)
      have go := c_ownerOf (h := (xzh c 0 m s k (xwa c tp n k j))) (d + 3) (by omega) X1 D1.1
      have ga := c_askerOf (k := k) (d + 3) (show k < 24 by omega) X1 ga1
      have gb := c_byteOr (j := j) (d + 3) (by omega) X1 T1
      have F3 : xFl (fun i q => (i = 0 ∧ q = 18) ∨ (i = 186 ∧ q = k)) S1 (xSI (xSI S1 186 k (nI (xow (xgf (xzg c)) (xzh c 0 m s k (xwa c tp n k j))))) 0 18 (nI (k + 1))) := ((xFl.rf S1).SI (Or.inr ⟨rfl, rfl⟩)).SI (Or.inl ⟨rfl, rfl⟩)
      have X3 := F3.XC X1
      have D3 := D1.fr F3 (fun i q h => by omega) ho
      have T3 := T1.fr F3 (fun q h => by omega)
      have ks := D3.1.2.2.2.2.2.1
      have FF : xFl (fun i q => (i = 0 ∧ q = 18) ∨ (i = 186 ∧ k ≤ q) ∨ (i = 74 ∧ q = 7) ∨ i = 79 ∨ i = 80 ∨ (82 ≤ i ∧ i ≤ 105)) S (xSI (xSI S1 186 k (nI (xow (xgf (xzg c)) (xzh c 0 m s k (xwa c tp n k j))))) 0 18 (nI (k + 1))) := (f1.mono (fun i q h => by omega)).tt (F3.mono (fun i q h => by omega))
      have h186 : (xSI (xSI S1 186 k (nI (xow (xgf (xzg c)) (xzh c 0 m s k (xwa c tp n k j))))) 0 18 (nI (k + 1))).2.1 186 k = nI (xow (xgf (xzg c)) (xzh c 0 m s k (xwa c tp n k j))) := xi (xI_same _ _ _ _) (Or.inl (by decide))
      cases hst : xgs (xzg c) with
      | true =>
        rw [hst] at ks
        rw [if_pos rfl]
        have go3 := c_ownerOf (h := (xzh c 0 m s k (xwa c tp n k j))) (d + 3) (by omega) X3 D3.1
        have fin : (some (Value.int (nI (2 ^ xow (xgf (xzg c)) (xzh c 0 m s k (xwa c tp n k j))))) = some (.int (nI (2 ^ xow (xgf (xzg c)) (xzh c 0 m s k (xwa c tp n k j)))))) ∧ xFl (fun i q => (i = 0 ∧ q = 18) ∨ (i = 186 ∧ k ≤ q) ∨ (i = 74 ∧ q = 7) ∨ i = 79 ∨ i = 80 ∨ (82 ≤ i ∧ i ≤ 105)) S (xSI (xSI S1 186 k (nI (xow (xgf (xzg c)) (xzh c 0 m s k (xwa c tp n k j))))) 0 18 (nI (k + 1))) ∧ (xSI (xSI S1 186 k (nI (xow (xgf (xzg c)) (xzh c 0 m s k (xwa c tp n k j))))) 0 18 (nI (k + 1))).2.1 0 18 = nI (k + 1) ∧ ∀ q, q < 1 → (xSI (xSI S1 186 k (nI (xow (xgf (xzg c)) (xzh c 0 m s k (xwa c tp n k j))))) 0 18 (nI (k + 1))).2.1 186 (k + q) = nI ([xow (xgf (xzg c)) (xzh c 0 m s k (xwa c tp n k j))].getD q 0) := by
          refine ⟨rfl, FF, xI_same _ _ _ _, fun q hq => ?_⟩
          rw [show q = 0 by omega]
          exact h186
        cases hask : xzA c k with
        | true =>
          rw [hask, if_pos rfl] at ga
          rw [show (if j < n then tp j else 0) = (xwa c tp n k j) by unfold xwa; rw [if_pos hask]] at gb
          refine wp_aload_n dX11_walk_18 rfl rfl (gv10_216 dX11_walk_19 (xsh hX sh_0) kc (wp_aload_n dX11_walk_22 rfl rfl (g10_92 dX11_walk_23 (xsh hX sh_0) (xrr hX r0_17) (wp_alen (v := nI 24) dX11_walk_26 (xsh hX sh_186) ⟨by decide, by decide⟩ rfl ?_))))
          refine wn_icmp_ge dX11_walk_27 rfl (by omega) (by omega) (fun c27 => absurd c27 (by omega)) (fun c27 => ?_)
          refine wp_aload_n dX11_walk_30 rfl rfl (g10_82 dX11_walk_31 (xsh hX sh_0) (xrr hX r0_14) (wp_iload_n dX11_walk_34 rfl (wp_iv2 dX11_walk_35 k10_319 q_X4_isOver (by decide) (xsh hX sh_74) (by decide) (Nat.le_of_ble_eq_true rfl) gi ?_)))
          refine wb_if_ne dX11_walk_38 rfl (fun c38 => absurd c38 (by decide)) (fun c38 => ?_)
          refine wp_aload_n dX11_walk_41 rfl rfl (g10_82 dX11_walk_42 (xsh hX sh_0) (xrr hX r0_14) (wp_iload_n dX11_walk_45 rfl (wp_iload_n dX11_walk_46 rfl (wp_aload_n dX11_walk_47 rfl rfl (gv10_216 dX11_walk_48 (xsh hX sh_0) kc (wp_iv4 dX11_walk_51 k10_322 q_X4_reckon (by decide) (xsh hX sh_74) (by decide) (Nat.le_of_ble_eq_true rfl) gr (wp_pop dX11_walk_54 rfl (wp_iconst (v := nI 0) dX11_walk_55 rfl (wp_istore dX11_walk_56 ⟨Nat.le_of_ble_eq_true rfl, Or.inr rfl⟩ rfl (wp_aload_n dX11_walk_58 rfl rfl (g10_82 dX11_walk_59 (xsh X1 sh_0) (xrr X1 r0_14) (wp_aload_n dX11_walk_62 rfl rfl (gv10_216 dX11_walk_63 (xsh X1 sh_0) kc1 (wp_iv2 dX11_walk_66 k10_326 q_X4_askerOf (by decide) (xsh X1 sh_74) (by decide) (Nat.le_of_ble_eq_true rfl) ga (wp_iconst (v := -1) dX11_walk_69 rfl ?_)))))))))))))))
          refine wp_icmp_eq dX11_walk_70 rfl (fun c70 => absurd c70 (nI_m1 (show xzq c 0 m s k < 2 ^ 31 by omega))) (fun c70 => ?_)
          refine wp_aload_n dX11_walk_73 rfl rfl (g10_10 dX11_walk_74 (xsh X1 sh_0) (xrr X1 r0_0) (wp_iload dX11_walk_77 rfl (wp_iload_n dX11_walk_79 rfl (wp_iconst (v := nI 0) dX11_walk_80 rfl (wp_iv4 dX11_walk_81 k10_329 q_X6_byteOr (by decide) (xsh X1 sh_1) (by decide) (Nat.le_of_ble_eq_true rfl) gb (wp_istore dX11_walk_84 ⟨Nat.le_of_ble_eq_true rfl, Or.inr rfl⟩ rfl (wp_iinc dX11_walk_86 rfl (nI_1 _) ⟨Nat.le_of_ble_eq_true rfl, Or.inr rfl⟩ rfl (wp_aload_n dX11_walk_89 rfl rfl (g10_82 dX11_walk_90 (xsh X1 sh_0) (xrr X1 r0_14) (wp_aload_n dX11_walk_93 rfl rfl (gv10_216 dX11_walk_94 (xsh X1 sh_0) kc1 (wp_iload dX11_walk_97 rfl (wp_iv3 dX11_walk_99 k10_332 q_X4_handHit (by decide) (xsh X1 sh_74) (by decide) (Nat.le_of_ble_eq_true rfl) gh (wp_istore dX11_walk_102 ⟨Nat.le_of_ble_eq_true rfl, Or.inr rfl⟩ rfl (wp_aload_n dX11_walk_104 rfl rfl (g10_92 dX11_walk_105 (xsh X1 sh_0) (xrr X1 r0_17) (wp_aload_n dX11_walk_108 rfl rfl (gv10_216 dX11_walk_109 (xsh X1 sh_0) kc1 (wp_aload_n dX11_walk_112 rfl rfl (g10_82 dX11_walk_113 (xsh X1 sh_0) (xrr X1 r0_14) (wp_iload dX11_walk_116 rfl (wp_iv2 dX11_walk_118 k10_335 q_X4_ownerOf (by decide) (xsh X1 sh_74) (by decide) (Nat.le_of_ble_eq_true rfl) go (wn_iastore dX11_walk_121 (xsh X1 sh_186) rfl (by omega) (by decide) (wp_aload_n dX11_walk_122 rfl rfl (wp_dup dX11_walk_123 rfl (gv10_216 dX11_walk_124 (xsh X1 sh_0) (xi kc1 (Or.inl (by decide))) (wp_iconst (v := nI 1) dX11_walk_127 rfl (wv_iadd dX11_walk_128 (nI_add _ _) (p10_216 dX11_walk_129 (xsh X1 sh_0) (wp_aload_n dX11_walk_132 rfl rfl (g10_82 dX11_walk_133 (xsh X1 sh_0) (xrr X1 r0_14) (gv10_338 dX11_walk_136 (xsh X1 sh_74) ks ?_))))))))))))))))))))))))))))))))
          refine wb_if_eq dX11_walk_139 rfl (fun c139 => absurd c139 (by decide)) (fun c139 => ?_)
          exact wp_iconst (v := nI 1) dX11_walk_142 rfl (wp_aload_n dX11_walk_143 rfl rfl (g10_82 dX11_walk_144 (xsh X1 sh_0) (xrr X1 r0_14) (wp_iload dX11_walk_147 rfl (wp_iv2 dX11_walk_149 k10_335 q_X4_ownerOf (by decide) (xsh X1 sh_74) (by decide) (Nat.le_of_ble_eq_true rfl) go3 (wv_ishl dX11_walk_152 (xshl1 (by omega)) (wp_ireturn dX11_walk_153 rfl rfl fin))))))
        | false =>
          rw [hask, if_neg (by decide)] at ga
          have eA : (xwa c tp n k j) = 0 := by unfold xwa; rw [if_neg (by rw [hask]; decide)]
          rw [eA] at gh go go3 fin FF h186 F3 X3 D3 T3 ks hh hw ⊢
          refine wp_aload_n dX11_walk_18 rfl rfl (gv10_216 dX11_walk_19 (xsh hX sh_0) kc (wp_aload_n dX11_walk_22 rfl rfl (g10_92 dX11_walk_23 (xsh hX sh_0) (xrr hX r0_17) (wp_alen (v := nI 24) dX11_walk_26 (xsh hX sh_186) ⟨by decide, by decide⟩ rfl ?_))))
          refine wn_icmp_ge dX11_walk_27 rfl (by omega) (by omega) (fun c27 => absurd c27 (by omega)) (fun c27 => ?_)
          refine wp_aload_n dX11_walk_30 rfl rfl (g10_82 dX11_walk_31 (xsh hX sh_0) (xrr hX r0_14) (wp_iload_n dX11_walk_34 rfl (wp_iv2 dX11_walk_35 k10_319 q_X4_isOver (by decide) (xsh hX sh_74) (by decide) (Nat.le_of_ble_eq_true rfl) gi ?_)))
          refine wb_if_ne dX11_walk_38 rfl (fun c38 => absurd c38 (by decide)) (fun c38 => ?_)
          refine wp_aload_n dX11_walk_41 rfl rfl (g10_82 dX11_walk_42 (xsh hX sh_0) (xrr hX r0_14) (wp_iload_n dX11_walk_45 rfl (wp_iload_n dX11_walk_46 rfl (wp_aload_n dX11_walk_47 rfl rfl (gv10_216 dX11_walk_48 (xsh hX sh_0) kc (wp_iv4 dX11_walk_51 k10_322 q_X4_reckon (by decide) (xsh hX sh_74) (by decide) (Nat.le_of_ble_eq_true rfl) gr (wp_pop dX11_walk_54 rfl (wp_iconst (v := nI 0) dX11_walk_55 rfl (wp_istore dX11_walk_56 ⟨Nat.le_of_ble_eq_true rfl, Or.inr rfl⟩ rfl (wp_aload_n dX11_walk_58 rfl rfl (g10_82 dX11_walk_59 (xsh X1 sh_0) (xrr X1 r0_14) (wp_aload_n dX11_walk_62 rfl rfl (gv10_216 dX11_walk_63 (xsh X1 sh_0) kc1 (wp_iv2 dX11_walk_66 k10_326 q_X4_askerOf (by decide) (xsh X1 sh_74) (by decide) (Nat.le_of_ble_eq_true rfl) ga (wp_iconst (v := -1) dX11_walk_69 rfl ?_)))))))))))))))
          refine wp_icmp_eq dX11_walk_70 rfl (fun c70 => ?_) (fun c70 => absurd c70 (not_not_intro rfl))
          refine wp_aload_n dX11_walk_89 rfl rfl (g10_82 dX11_walk_90 (xsh X1 sh_0) (xrr X1 r0_14) (wp_aload_n dX11_walk_93 rfl rfl (gv10_216 dX11_walk_94 (xsh X1 sh_0) kc1 (wp_iload dX11_walk_97 rfl (wp_iv3 dX11_walk_99 k10_332 q_X4_handHit (by decide) (xsh X1 sh_74) (by decide) (Nat.le_of_ble_eq_true rfl) gh (wp_istore dX11_walk_102 ⟨Nat.le_of_ble_eq_true rfl, Or.inr rfl⟩ rfl (wp_aload_n dX11_walk_104 rfl rfl (g10_92 dX11_walk_105 (xsh X1 sh_0) (xrr X1 r0_17) (wp_aload_n dX11_walk_108 rfl rfl (gv10_216 dX11_walk_109 (xsh X1 sh_0) kc1 (wp_aload_n dX11_walk_112 rfl rfl (g10_82 dX11_walk_113 (xsh X1 sh_0) (xrr X1 r0_14) (wp_iload dX11_walk_116 rfl (wp_iv2 dX11_walk_118 k10_335 q_X4_ownerOf (by decide) (xsh X1 sh_74) (by decide) (Nat.le_of_ble_eq_true rfl) go (wn_iastore dX11_walk_121 (xsh X1 sh_186) rfl (by omega) (by decide) (wp_aload_n dX11_walk_122 rfl rfl (wp_dup dX11_walk_123 rfl (gv10_216 dX11_walk_124 (xsh X1 sh_0) (xi kc1 (Or.inl (by decide))) (wp_iconst (v := nI 1) dX11_walk_127 rfl (wv_iadd dX11_walk_128 (nI_add _ _) (p10_216 dX11_walk_129 (xsh X1 sh_0) (wp_aload_n dX11_walk_132 rfl rfl (g10_82 dX11_walk_133 (xsh X1 sh_0) (xrr X1 r0_14) (gv10_338 dX11_walk_136 (xsh X1 sh_74) ks ?_))))))))))))))))))))))))
          refine wb_if_eq dX11_walk_139 rfl (fun c139 => absurd c139 (by decide)) (fun c139 => ?_)
          exact wp_iconst (v := nI 1) dX11_walk_142 rfl (wp_aload_n dX11_walk_143 rfl rfl (g10_82 dX11_walk_144 (xsh X1 sh_0) (xrr X1 r0_14) (wp_iload dX11_walk_147 rfl (wp_iv2 dX11_walk_149 k10_335 q_X4_ownerOf (by decide) (xsh X1 sh_74) (by decide) (Nat.le_of_ble_eq_true rfl) go3 (wv_ishl dX11_walk_152 (xshl1 (by omega)) (wp_ireturn dX11_walk_153 rfl rfl fin))))))
      | false =>
        rw [hst] at ks
        rw [if_neg (by decide)]
        have hm2 := xrm_lt hm hh
        have h242 := x24 g24.2.1 hm2
        have hs2 : (xnb1 (xzg c) (m ^^^ 2 ^ (xzh c 0 m s k (xwa c tp n k j))) s (xzh c 0 m s k (xwa c tp n k j)) (k + 1)) < xgH (xzg c) := xnb1_lt hg hs hh
        have gn := c_nextBegin (m := (m ^^^ 2 ^ (xzh c 0 m s k (xwa c tp n k j)))) (s := s) (h := (xzh c 0 m s k (xwa c tp n k j))) (k := k + 1) (d + 1) hg (by omega) hs hh (by omega) X3 D3.1
        have ih2 := fun y5 y6 => ih (k + 1) (m ^^^ 2 ^ (xzh c 0 m s k (xwa c tp n k j))) (xnb1 (xzg c) (m ^^^ 2 ^ (xzh c 0 m s k (xwa c tp n k j))) s (xzh c 0 m s k (xwa c tp n k j)) (k + 1)) (if xzA c k = true then j + 1 else j) (xSI (xSI S1 186 k (nI (xow (xgf (xzg c)) (xzh c 0 m s k (xwa c tp n k j))))) 0 18 (nI (k + 1))) y5 y6 (by omega) hm2 (fun w => by rw [hst] at w; cases w) hs2 (by split <;> omega) X3 D3 T3 (xI_same _ _ _ _)
        have lift : ∀ y5 y6, Wp false (d + 4) 10 cX11_walk (some .int) false 18 [.ref 0, .int (nI n), .int (nI (m ^^^ 2 ^ (xzh c 0 m s k (xwa c tp n k j)))), .int (nI (xnb1 (xzg c) (m ^^^ 2 ^ (xzh c 0 m s k (xwa c tp n k j))) s (xzh c 0 m s k (xwa c tp n k j)) (k + 1))), .int (nI (if xzA c k = true then j + 1 else j)), y5, y6] [] (xSI (xSI S1 186 k (nI (xow (xgf (xzg c)) (xzh c 0 m s k (xwa c tp n k j))))) 0 18 (nI (k + 1))) (fun r S' => r = some (.int (nI (xwk c tp n f (m ^^^ 2 ^ (xzh c 0 m s k (xwa c tp n k j))) (xnb1 (xzg c) (m ^^^ 2 ^ (xzh c 0 m s k (xwa c tp n k j))) s (xzh c 0 m s k (xwa c tp n k j)) (k + 1)) (k + 1) (if xzA c k = true then j + 1 else j)).2)) ∧ xFl (fun i q => (i = 0 ∧ q = 18) ∨ (i = 186 ∧ k ≤ q) ∨ (i = 74 ∧ q = 7) ∨ i = 79 ∨ i = 80 ∨ (82 ≤ i ∧ i ≤ 105)) S S' ∧ S'.2.1 0 18 = nI (k + ((xwk c tp n f (m ^^^ 2 ^ (xzh c 0 m s k (xwa c tp n k j))) (xnb1 (xzg c) (m ^^^ 2 ^ (xzh c 0 m s k (xwa c tp n k j))) s (xzh c 0 m s k (xwa c tp n k j)) (k + 1)) (k + 1) (if xzA c k = true then j + 1 else j)).1.length + 1)) ∧ ∀ q, q < (xwk c tp n f (m ^^^ 2 ^ (xzh c 0 m s k (xwa c tp n k j))) (xnb1 (xzg c) (m ^^^ 2 ^ (xzh c 0 m s k (xwa c tp n k j))) s (xzh c 0 m s k (xwa c tp n k j)) (k + 1)) (k + 1) (if xzA c k = true then j + 1 else j)).1.length + 1 → S'.2.1 186 (k + q) = nI ((xow (xgf (xzg c)) (xzh c 0 m s k (xwa c tp n k j)) :: (xwk c tp n f (m ^^^ 2 ^ (xzh c 0 m s k (xwa c tp n k j))) (xnb1 (xzg c) (m ^^^ 2 ^ (xzh c 0 m s k (xwa c tp n k j))) s (xzh c 0 m s k (xwa c tp n k j)) (k + 1)) (k + 1) (if xzA c k = true then j + 1 else j)).1).getD q 0)) := fun y5 y6 => (ih2 y5 y6).mono (fun r S' hz => by
          obtain ⟨z1, z2, z3, z4⟩ := hz
          refine ⟨z1, FF.tt (z2.mono (fun i q h => by omega)), by rw [z3]; congr 1; omega, fun q hq => ?_⟩
          rcases q with _ | q
          · exact z2.i h186 (by omega)
          · have := z4 q (by omega)
            rw [show k + (q + 1) = k + 1 + q by omega]
            exact this)
        cases hask : xzA c k with
        | true =>
          rw [hask, if_pos rfl] at ga
          rw [show (if j < n then tp j else 0) = (xwa c tp n k j) by unfold xwa; rw [if_pos hask]] at gb
          rw [hask, if_pos rfl] at lift
          refine wp_aload_n dX11_walk_18 rfl rfl (gv10_216 dX11_walk_19 (xsh hX sh_0) kc (wp_aload_n dX11_walk_22 rfl rfl (g10_92 dX11_walk_23 (xsh hX sh_0) (xrr hX r0_17) (wp_alen (v := nI 24) dX11_walk_26 (xsh hX sh_186) ⟨by decide, by decide⟩ rfl ?_))))
          refine wn_icmp_ge dX11_walk_27 rfl (by omega) (by omega) (fun c27 => absurd c27 (by omega)) (fun c27 => ?_)
          refine wp_aload_n dX11_walk_30 rfl rfl (g10_82 dX11_walk_31 (xsh hX sh_0) (xrr hX r0_14) (wp_iload_n dX11_walk_34 rfl (wp_iv2 dX11_walk_35 k10_319 q_X4_isOver (by decide) (xsh hX sh_74) (by decide) (Nat.le_of_ble_eq_true rfl) gi ?_)))
          refine wb_if_ne dX11_walk_38 rfl (fun c38 => absurd c38 (by decide)) (fun c38 => ?_)
          refine wp_aload_n dX11_walk_41 rfl rfl (g10_82 dX11_walk_42 (xsh hX sh_0) (xrr hX r0_14) (wp_iload_n dX11_walk_45 rfl (wp_iload_n dX11_walk_46 rfl (wp_aload_n dX11_walk_47 rfl rfl (gv10_216 dX11_walk_48 (xsh hX sh_0) kc (wp_iv4 dX11_walk_51 k10_322 q_X4_reckon (by decide) (xsh hX sh_74) (by decide) (Nat.le_of_ble_eq_true rfl) gr (wp_pop dX11_walk_54 rfl (wp_iconst (v := nI 0) dX11_walk_55 rfl (wp_istore dX11_walk_56 ⟨Nat.le_of_ble_eq_true rfl, Or.inr rfl⟩ rfl (wp_aload_n dX11_walk_58 rfl rfl (g10_82 dX11_walk_59 (xsh X1 sh_0) (xrr X1 r0_14) (wp_aload_n dX11_walk_62 rfl rfl (gv10_216 dX11_walk_63 (xsh X1 sh_0) kc1 (wp_iv2 dX11_walk_66 k10_326 q_X4_askerOf (by decide) (xsh X1 sh_74) (by decide) (Nat.le_of_ble_eq_true rfl) ga (wp_iconst (v := -1) dX11_walk_69 rfl ?_)))))))))))))))
          refine wp_icmp_eq dX11_walk_70 rfl (fun c70 => absurd c70 (nI_m1 (show xzq c 0 m s k < 2 ^ 31 by omega))) (fun c70 => ?_)
          refine wp_aload_n dX11_walk_73 rfl rfl (g10_10 dX11_walk_74 (xsh X1 sh_0) (xrr X1 r0_0) (wp_iload dX11_walk_77 rfl (wp_iload_n dX11_walk_79 rfl (wp_iconst (v := nI 0) dX11_walk_80 rfl (wp_iv4 dX11_walk_81 k10_329 q_X6_byteOr (by decide) (xsh X1 sh_1) (by decide) (Nat.le_of_ble_eq_true rfl) gb (wp_istore dX11_walk_84 ⟨Nat.le_of_ble_eq_true rfl, Or.inr rfl⟩ rfl (wp_iinc dX11_walk_86 rfl (nI_1 _) ⟨Nat.le_of_ble_eq_true rfl, Or.inr rfl⟩ rfl (wp_aload_n dX11_walk_89 rfl rfl (g10_82 dX11_walk_90 (xsh X1 sh_0) (xrr X1 r0_14) (wp_aload_n dX11_walk_93 rfl rfl (gv10_216 dX11_walk_94 (xsh X1 sh_0) kc1 (wp_iload dX11_walk_97 rfl (wp_iv3 dX11_walk_99 k10_332 q_X4_handHit (by decide) (xsh X1 sh_74) (by decide) (Nat.le_of_ble_eq_true rfl) gh (wp_istore dX11_walk_102 ⟨Nat.le_of_ble_eq_true rfl, Or.inr rfl⟩ rfl (wp_aload_n dX11_walk_104 rfl rfl (g10_92 dX11_walk_105 (xsh X1 sh_0) (xrr X1 r0_17) (wp_aload_n dX11_walk_108 rfl rfl (gv10_216 dX11_walk_109 (xsh X1 sh_0) kc1 (wp_aload_n dX11_walk_112 rfl rfl (g10_82 dX11_walk_113 (xsh X1 sh_0) (xrr X1 r0_14) (wp_iload dX11_walk_116 rfl (wp_iv2 dX11_walk_118 k10_335 q_X4_ownerOf (by decide) (xsh X1 sh_74) (by decide) (Nat.le_of_ble_eq_true rfl) go (wn_iastore dX11_walk_121 (xsh X1 sh_186) rfl (by omega) (by decide) (wp_aload_n dX11_walk_122 rfl rfl (wp_dup dX11_walk_123 rfl (gv10_216 dX11_walk_124 (xsh X1 sh_0) (xi kc1 (Or.inl (by decide))) (wp_iconst (v := nI 1) dX11_walk_127 rfl (wv_iadd dX11_walk_128 (nI_add _ _) (p10_216 dX11_walk_129 (xsh X1 sh_0) (wp_aload_n dX11_walk_132 rfl rfl (g10_82 dX11_walk_133 (xsh X1 sh_0) (xrr X1 r0_14) (gv10_338 dX11_walk_136 (xsh X1 sh_74) ks ?_))))))))))))))))))))))))))))))))
          refine wb_if_eq dX11_walk_139 rfl (fun c139 => ?_) (fun c139 => absurd c139 (by decide))
          exact wp_iload_n dX11_walk_154 rfl (wp_iconst (v := nI 1) dX11_walk_155 rfl (wp_iload dX11_walk_156 rfl (wv_ishl dX11_walk_158 (xshl1 (by omega)) (wp_iconst (v := -1) dX11_walk_159 rfl (wp_ixor dX11_walk_160 (wv_iand dX11_walk_161 (xrmb (by omega) hbit) (wp_istore_n dX11_walk_162 ⟨Nat.le_of_ble_eq_true rfl, Or.inr rfl⟩ rfl (wp_aload_n dX11_walk_163 rfl rfl (g10_82 dX11_walk_164 (xsh X1 sh_0) (xrr X1 r0_14) (wp_iload_n dX11_walk_167 rfl (wp_iload_n dX11_walk_168 rfl (wp_iload dX11_walk_169 rfl (wp_aload_n dX11_walk_171 rfl rfl (gv10_216 dX11_walk_172 (xsh X1 sh_0) (xI_same _ _ _ _) (wp_iv5 dX11_walk_175 k10_341 q_X4_nextBegin (by decide) (xsh X1 sh_74) (by decide) (Nat.le_of_ble_eq_true rfl) gn (wp_istore_n dX11_walk_178 ⟨Nat.le_of_ble_eq_true rfl, Or.inr rfl⟩ rfl (wp_goto dX11_walk_179 rfl (lift _ _))))))))))))))))))
        | false =>
          rw [hask, if_neg (by decide)] at ga
          have eA : (xwa c tp n k j) = 0 := by unfold xwa; rw [if_neg (by rw [hask]; decide)]
          rw [hask, if_neg (by decide)] at lift
          rw [eA] at gh go gn lift FF h186 F3 X3 D3 T3 ks hh hw hbit hm2 h242 hs2 ⊢
          refine wp_aload_n dX11_walk_18 rfl rfl (gv10_216 dX11_walk_19 (xsh hX sh_0) kc (wp_aload_n dX11_walk_22 rfl rfl (g10_92 dX11_walk_23 (xsh hX sh_0) (xrr hX r0_17) (wp_alen (v := nI 24) dX11_walk_26 (xsh hX sh_186) ⟨by decide, by decide⟩ rfl ?_))))
          refine wn_icmp_ge dX11_walk_27 rfl (by omega) (by omega) (fun c27 => absurd c27 (by omega)) (fun c27 => ?_)
          refine wp_aload_n dX11_walk_30 rfl rfl (g10_82 dX11_walk_31 (xsh hX sh_0) (xrr hX r0_14) (wp_iload_n dX11_walk_34 rfl (wp_iv2 dX11_walk_35 k10_319 q_X4_isOver (by decide) (xsh hX sh_74) (by decide) (Nat.le_of_ble_eq_true rfl) gi ?_)))
          refine wb_if_ne dX11_walk_38 rfl (fun c38 => absurd c38 (by decide)) (fun c38 => ?_)
          refine wp_aload_n dX11_walk_41 rfl rfl (g10_82 dX11_walk_42 (xsh hX sh_0) (xrr hX r0_14) (wp_iload_n dX11_walk_45 rfl (wp_iload_n dX11_walk_46 rfl (wp_aload_n dX11_walk_47 rfl rfl (gv10_216 dX11_walk_48 (xsh hX sh_0) kc (wp_iv4 dX11_walk_51 k10_322 q_X4_reckon (by decide) (xsh hX sh_74) (by decide) (Nat.le_of_ble_eq_true rfl) gr (wp_pop dX11_walk_54 rfl (wp_iconst (v := nI 0) dX11_walk_55 rfl (wp_istore dX11_walk_56 ⟨Nat.le_of_ble_eq_true rfl, Or.inr rfl⟩ rfl (wp_aload_n dX11_walk_58 rfl rfl (g10_82 dX11_walk_59 (xsh X1 sh_0) (xrr X1 r0_14) (wp_aload_n dX11_walk_62 rfl rfl (gv10_216 dX11_walk_63 (xsh X1 sh_0) kc1 (wp_iv2 dX11_walk_66 k10_326 q_X4_askerOf (by decide) (xsh X1 sh_74) (by decide) (Nat.le_of_ble_eq_true rfl) ga (wp_iconst (v := -1) dX11_walk_69 rfl ?_)))))))))))))))
          refine wp_icmp_eq dX11_walk_70 rfl (fun c70 => ?_) (fun c70 => absurd c70 (not_not_intro rfl))
          refine wp_aload_n dX11_walk_89 rfl rfl (g10_82 dX11_walk_90 (xsh X1 sh_0) (xrr X1 r0_14) (wp_aload_n dX11_walk_93 rfl rfl (gv10_216 dX11_walk_94 (xsh X1 sh_0) kc1 (wp_iload dX11_walk_97 rfl (wp_iv3 dX11_walk_99 k10_332 q_X4_handHit (by decide) (xsh X1 sh_74) (by decide) (Nat.le_of_ble_eq_true rfl) gh (wp_istore dX11_walk_102 ⟨Nat.le_of_ble_eq_true rfl, Or.inr rfl⟩ rfl (wp_aload_n dX11_walk_104 rfl rfl (g10_92 dX11_walk_105 (xsh X1 sh_0) (xrr X1 r0_17) (wp_aload_n dX11_walk_108 rfl rfl (gv10_216 dX11_walk_109 (xsh X1 sh_0) kc1 (wp_aload_n dX11_walk_112 rfl rfl (g10_82 dX11_walk_113 (xsh X1 sh_0) (xrr X1 r0_14) (wp_iload dX11_walk_116 rfl (wp_iv2 dX11_walk_118 k10_335 q_X4_ownerOf (by decide) (xsh X1 sh_74) (by decide) (Nat.le_of_ble_eq_true rfl) go (wn_iastore dX11_walk_121 (xsh X1 sh_186) rfl (by omega) (by decide) (wp_aload_n dX11_walk_122 rfl rfl (wp_dup dX11_walk_123 rfl (gv10_216 dX11_walk_124 (xsh X1 sh_0) (xi kc1 (Or.inl (by decide))) (wp_iconst (v := nI 1) dX11_walk_127 rfl (wv_iadd dX11_walk_128 (nI_add _ _) (p10_216 dX11_walk_129 (xsh X1 sh_0) (wp_aload_n dX11_walk_132 rfl rfl (g10_82 dX11_walk_133 (xsh X1 sh_0) (xrr X1 r0_14) (gv10_338 dX11_walk_136 (xsh X1 sh_74) ks ?_))))))))))))))))))))))))
          refine wb_if_eq dX11_walk_139 rfl (fun c139 => ?_) (fun c139 => absurd c139 (by decide))
          exact wp_iload_n dX11_walk_154 rfl (wp_iconst (v := nI 1) dX11_walk_155 rfl (wp_iload dX11_walk_156 rfl (wv_ishl dX11_walk_158 (xshl1 (by omega)) (wp_iconst (v := -1) dX11_walk_159 rfl (wp_ixor dX11_walk_160 (wv_iand dX11_walk_161 (xrmb (by omega) hbit) (wp_istore_n dX11_walk_162 ⟨Nat.le_of_ble_eq_true rfl, Or.inr rfl⟩ rfl (wp_aload_n dX11_walk_163 rfl rfl (g10_82 dX11_walk_164 (xsh X1 sh_0) (xrr X1 r0_14) (wp_iload_n dX11_walk_167 rfl (wp_iload_n dX11_walk_168 rfl (wp_iload dX11_walk_169 rfl (wp_aload_n dX11_walk_171 rfl rfl (gv10_216 dX11_walk_172 (xsh X1 sh_0) (xI_same _ _ _ _) (wp_iv5 dX11_walk_175 k10_341 q_X4_nextBegin (by decide) (xsh X1 sh_74) (by decide) (Nat.le_of_ble_eq_true rfl) gn (wp_istore_n dX11_walk_178 ⟨Nat.le_of_ble_eq_true rfl, Or.inr rfl⟩ rfl (wp_goto dX11_walk_179 rfl (lift _ _))))))))))))))))))
