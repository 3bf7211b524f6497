/-! CHANGES: the sums from the first lines on, of the class; changes, the call -/
def xfs (A B : Nat → Nat) (C : Nat → Nat → Nat) : Nat → Nat → Nat
  | 0, 0 => 0
  | 0, j + 1 => min 1000000 (xfs A B C 0 j + B j)
  | i + 1, 0 => min 1000000 (xfs A B C i 0 + A i)
  | i + 1, j + 1 => min (min (min 1000000 (xfs A B C i (j + 1) + A i)) (xfs A B C (i + 1) j + B j)) (xfs A B C i j + C i j)
termination_by i j => (i, j)
theorem xfs_le (A B : Nat → Nat) (C : Nat → Nat → Nat) (i j : Nat) : xfs A B C i j ≤ 1000000 := by
  rcases i with _ | i <;> rcases j with _ | j <;> rw [xfs] <;> omega
theorem xfs_00 (A B : Nat → Nat) (C : Nat → Nat → Nat) : xfs A B C 0 0 = 0 := by rw [xfs]
theorem xfs_0s (A B : Nat → Nat) (C : Nat → Nat → Nat) (j : Nat) : xfs A B C 0 (j + 1) = min 1000000 (xfs A B C 0 j + B j) := by rw [xfs]
theorem xfs_s0 (A B : Nat → Nat) (C : Nat → Nat → Nat) (i : Nat) : xfs A B C (i + 1) 0 = min 1000000 (xfs A B C i 0 + A i) := by rw [xfs]
theorem xfs_ss (A B : Nat → Nat) (C : Nat → Nat → Nat) (i j : Nat) : xfs A B C (i + 1) (j + 1) = min (min (min 1000000 (xfs A B C i (j + 1) + A i)) (xfs A B C (i + 1) j + B j)) (xfs A B C i j + C i j) := by rw [xfs]
def xln (L : List xLn) (l : Nat) : Nat := (xcI (L.getD l (0, 0, []))).length
/-- the CHANGES between two rhymes' first lines -/
def xchs (t1 : Nat → Nat) (L1 : List xLn) (t2 : Nat → Nat) (L2 : List xLn) (i j : Nat) : Nat := xfs (xln L1) (xln L2) (xlc t1 L1 t2 L2) i j
theorem xln_le {t : Nat → Nat} {n : Nat} {L : List xLn} (h : xRok t n L) (hn : n ≤ 240) {l : Nat} (hl : l < L.length) : xln L l ≤ 120 := by
  have := xRok_120 h hn
  have e := xof_succ xcI L l hl
  have := xof_le xcI L (l + 1)
  unfold xln
  omega
theorem xlc_le (t1 t2 : Nat → Nat) (L1 L2 : List xLn) (l m : Nat) : xlc t1 L1 t2 L2 l m ≤ xln L1 l + xln L2 m := xlv_b _ _ _
theorem sf_in {a b n1 n2 : Nat} {t1 t2 : Nat → Nat} {L1 L2 : List xLn} {i d : Nat} (ho : xRo a) (hob : xRo b) (hi : i ≤ L1.length) {Q : Option Value → xS → Prop} : ∀ (jj j : Nat) (S : xS) (y5 : Value), j + jj = L2.length + 1 → XC S → xRV a S n1 t1 L1 → xRV b S n2 t2 L2 → (∀ p q, p < L1.length ∧ q < L2.length → S.2.1 (137 + p) q = nI (xlc t1 L1 t2 L2 p q)) → (∀ p q, (p < i ∧ q ≤ L2.length) ∨ (p = i ∧ q < j) → S.2.1 (154 + p) q = nI (xchs t1 L1 t2 L2 p q)) → (∀ S' y4 y5, xFl (fun i _ => 154 ≤ i ∧ i ≤ 170) S S' → (∀ p q, p < i + 1 ∧ q ≤ L2.length → S'.2.1 (154 + p) q = nI (xchs t1 L1 t2 L2 p q)) → Wp false (d + 2) 0 cX0_sumForward none false 174 [.ref 133, .ref a, .ref b, .int (nI i), y4, y5] [] S' Q) → Wp false (d + 2) 0 cX0_sumForward none false 19 [.ref 133, .ref a, .ref b, .int (nI i), .int (nI j), y5] [] S Q := by
  intro jj
  induction jj with
  | zero =>
    intro j S y5 hj hX hV1 hV2 hC h K
    have hb := (hob.sh hX).1
    have k2 := hV2.2.2.2.2.1
    have h16 := hV2.2.2.2.2.2.2.2.2.1
    have hjj : j = L2.length + 1 := by omega
    subst hjj
    refine wp_iload dX0_sumForward_19 rfl (wp_aload_n dX0_sumForward_21 rfl rfl (gv0_38 dX0_sumForward_22 hb k2 ?_))
    refine wn_icmp_gt dX0_sumForward_25 rfl (by omega) (by omega) (fun c25 => ?_) (fun c25 => absurd c25 (by omega))
    exact K S _ _ (xFl.rf S) (fun p q hq => h p q (by omega))
  | succ jj ih =>
    intro j S y5 hj hX hV1 hV2 hC h K
    have hou := ho.m
    have hobu := hob.m
    have ha := (ho.sh hX).1
    have hb := (hob.sh hX).1
    have k2 := hV2.2.2.2.2.1
    have h16 := hV2.2.2.2.2.2.2.2.2.1
    have h161 := hV1.2.2.2.2.2.2.2.2.1
    have v1 := hV1.2.2.2.2.2.2.1
    have v2 := hV2.2.2.2.2.2.2.1
    have n1 := hV1.2.2.2.2.2.2.2.1
    have n2 := hV2.2.2.2.2.2.2.2.1
    have rr := r153_a hX (show i < 17 by omega)
    have s1 := s153_a hX (show i < 17 by omega)
    have F2 : xFl (fun i' k' => i' = 154 + i ∧ k' = j) S (xSI S (154 + i) j (nI (xchs t1 L1 t2 L2 i j))) := (xFl.rf S).SI ⟨rfl, rfl⟩
    have FF : xFl (fun i _ => 154 ≤ i ∧ i ≤ 170) S (xSI S (154 + i) j (nI (xchs t1 L1 t2 L2 i j))) := F2.mono (fun i k h => by omega)
    have nx {y5 : Value} : Wp false (d + 2) 0 cX0_sumForward none false 19 [.ref 133, .ref a, .ref b, .int (nI i), .int (nI (j + 1)), y5] [] (xSI S (154 + i) j (nI (xchs t1 L1 t2 L2 i j))) Q := by
      refine ih (j + 1) _ y5 (by omega) hX (hV1.fm (FF.m (R := fun _ _ => False)) (fun i k h => by omega)) (hV2.fm (FF.m (R := fun _ _ => False)) (fun i k h => by omega)) (fun p q hq => F2.i (hC p q hq) (by omega)) (fun p q hq => ?_) (fun S' y4 y5 f h' => K S' y4 y5 (FF.tt f) h')
      rcases Decidable.em (p = i ∧ q = j) with w | w
      · rw [w.1, w.2]; exact xI_same _ _ _ _
      · exact F2.i (h p q (by omega)) (by omega)
    rcases i with _ | i
    · rcases j with _ | j
      · have e : xchs t1 L1 t2 L2 0 0 = 0 := xfs_00 _ _ _
        rw [e] at nx
        refine wp_iload dX0_sumForward_19 rfl (wp_aload_n dX0_sumForward_21 rfl rfl (gv0_38 dX0_sumForward_22 hb k2 ?_))
        refine wn_icmp_gt dX0_sumForward_25 rfl (by omega) (by omega) (fun c25 => absurd c25 (by omega)) (fun c25 => ?_)
        refine wp_iload dX0_sumForward_28 rfl (wp_bipush (v := nI 16) dX0_sumForward_30 rfl ?_)
        refine wn_icmp_gt dX0_sumForward_32 rfl (by omega) (by omega) (fun c32 => absurd c32 (by omega)) (fun c32 => ?_)
        refine wp_iload_n dX0_sumForward_35 rfl ?_
        refine wn_if_ne dX0_sumForward_36 rfl (by omega) (fun c36 => absurd c36 (by omega)) (fun c36 => ?_)
        refine wp_iload dX0_sumForward_39 rfl ?_
        refine wn_if_ne dX0_sumForward_41 rfl (by omega) (fun c41 => absurd c41 (by omega)) (fun c41 => ?_)
        refine wp_iconst (v := nI 0) dX0_sumForward_44 rfl (wp_goto dX0_sumForward_45 rfl (wp_istore dX0_sumForward_50 ⟨Nat.le_of_ble_eq_true rfl, Or.inr rfl⟩ rfl (wp_iload_n dX0_sumForward_52 rfl ?_)))
        refine wn_if_le dX0_sumForward_53 rfl (by omega) (fun c53 => ?_) (fun c53 => absurd c53 (by omega))
        refine wp_iload dX0_sumForward_82 rfl ?_
        refine wn_if_le dX0_sumForward_84 rfl (by omega) (fun c84 => ?_) (fun c84 => absurd c84 (by omega))
        refine wp_iload_n dX0_sumForward_114 rfl ?_
        refine wn_if_le dX0_sumForward_115 rfl (by omega) (fun c115 => ?_) (fun c115 => absurd c115 (by omega))
        exact wp_aload_n dX0_sumForward_157 rfl rfl (g0_25 dX0_sumForward_158 (xsh hX sh_133) (xrr hX r133_3) (wp_iload_n dX0_sumForward_161 rfl (wn_aaload dX0_sumForward_162 (xsh hX sh_153) (Or.inr (Or.inr rfl)) (by omega) (by decide) rr (wp_iload dX0_sumForward_163 rfl (wp_iload dX0_sumForward_165 rfl (wn_iastore dX0_sumForward_167 s1 rfl (by omega) (by decide) (wp_iinc dX0_sumForward_168 rfl (nI_1 _) ⟨Nat.le_of_ble_eq_true rfl, Or.inr rfl⟩ rfl (wp_goto dX0_sumForward_171 rfl nx))))))))
      · have gl := c_itemsIn (d + 0) hob hX hV2 (show j < L2.length by omega)
        have bl := xln_le v2 n2 (show j < L2.length by omega)
        have m1 := h 0 j (by omega)
        have b1 := xfs_le (xln L1) (xln L2) (xlc t1 L1 t2 L2) 0 j
        have e : min 1000000 (xchs t1 L1 t2 L2 0 j + xln L2 j) = xchs t1 L1 t2 L2 0 (j + 1) := (xfs_0s _ _ _ _).symm
        unfold xln at bl e
        have b1' : xchs t1 L1 t2 L2 0 j ≤ 1000000 := b1
        refine wp_iload dX0_sumForward_19 rfl (wp_aload_n dX0_sumForward_21 rfl rfl (gv0_38 dX0_sumForward_22 hb k2 ?_))
        refine wn_icmp_gt dX0_sumForward_25 rfl (by omega) (by omega) (fun c25 => absurd c25 (by omega)) (fun c25 => ?_)
        refine wp_iload dX0_sumForward_28 rfl (wp_bipush (v := nI 16) dX0_sumForward_30 rfl ?_)
        refine wn_icmp_gt dX0_sumForward_32 rfl (by omega) (by omega) (fun c32 => absurd c32 (by omega)) (fun c32 => ?_)
        refine wp_iload_n dX0_sumForward_35 rfl ?_
        refine wn_if_ne dX0_sumForward_36 rfl (by omega) (fun c36 => absurd c36 (by omega)) (fun c36 => ?_)
        refine wp_iload dX0_sumForward_39 rfl ?_
        refine wn_if_ne dX0_sumForward_41 rfl (by omega) (fun c41 => ?_) (fun c41 => absurd c41 (by omega))
        refine wp_ldcI (v := nI 1000000) dX0_sumForward_48 k0_81 rfl (wp_istore dX0_sumForward_50 ⟨Nat.le_of_ble_eq_true rfl, Or.inr rfl⟩ rfl (wp_iload_n dX0_sumForward_52 rfl ?_))
        refine wn_if_le dX0_sumForward_53 rfl (by omega) (fun c53 => ?_) (fun c53 => absurd c53 (by omega))
        refine wp_iload dX0_sumForward_82 rfl ?_
        refine wn_if_le dX0_sumForward_84 rfl (by omega) (fun c84 => absurd c84 (by omega)) (fun c84 => ?_)
        refine wp_iload dX0_sumForward_87 rfl (wp_aload_n dX0_sumForward_89 rfl rfl (g0_25 dX0_sumForward_90 (xsh hX sh_133) (xrr hX r133_3) (wp_iload_n dX0_sumForward_93 rfl (wn_aaload dX0_sumForward_94 (xsh hX sh_153) (Or.inr (Or.inr rfl)) (by omega) (by decide) rr (wp_iload dX0_sumForward_95 rfl (wp_iconst (v := nI 1) dX0_sumForward_97 rfl (wv_isub dX0_sumForward_98 (pk_sub (by omega)) (wn_iaload dX0_sumForward_99 s1 rfl (by omega) (by decide) m1 (wp_aload_n dX0_sumForward_100 rfl rfl (wp_iload dX0_sumForward_101 rfl (wp_iconst (v := nI 1) dX0_sumForward_103 rfl (wv_isub dX0_sumForward_104 (pk_sub (by omega)) (wp_iv2 dX0_sumForward_105 k0_74 q_X3_itemsIn (by decide) hb (by decide) (Nat.le_of_ble_eq_true rfl) gl (wv_iadd dX0_sumForward_108 (nI_add _ _) (wn_min dX0_sumForward_109 k0_42 (Nat.le_of_ble_eq_true rfl) (by omega) (by omega) e (wp_istore dX0_sumForward_112 ⟨Nat.le_of_ble_eq_true rfl, Or.inr rfl⟩ rfl (wp_iload_n dX0_sumForward_114 rfl ?_)))))))))))))))))
        refine wn_if_le dX0_sumForward_115 rfl (by omega) (fun c115 => ?_) (fun c115 => absurd c115 (by omega))
        exact wp_aload_n dX0_sumForward_157 rfl rfl (g0_25 dX0_sumForward_158 (xsh hX sh_133) (xrr hX r133_3) (wp_iload_n dX0_sumForward_161 rfl (wn_aaload dX0_sumForward_162 (xsh hX sh_153) (Or.inr (Or.inr rfl)) (by omega) (by decide) rr (wp_iload dX0_sumForward_163 rfl (wp_iload dX0_sumForward_165 rfl (wn_iastore dX0_sumForward_167 s1 rfl (by omega) (by decide) (wp_iinc dX0_sumForward_168 rfl (nI_1 _) ⟨Nat.le_of_ble_eq_true rfl, Or.inr rfl⟩ rfl (wp_goto dX0_sumForward_171 rfl nx))))))))
    · have rr0 := r153_a hX (show i < 17 by omega)
      have s0 := s153_a hX (show i < 17 by omega)
      have gl1 := c_itemsIn (d + 0) ho hX hV1 (show i < L1.length by omega)
      have bl1 := xln_le v1 n1 (show i < L1.length by omega)
      have m2 := h i j (by omega)
      have b2 : xchs t1 L1 t2 L2 i j ≤ 1000000 := xfs_le (xln L1) (xln L2) (xlc t1 L1 t2 L2) i j
      rcases j with _ | j
      · have e : min 1000000 (xchs t1 L1 t2 L2 i 0 + xln L1 i) = xchs t1 L1 t2 L2 (i + 1) 0 := (xfs_s0 _ _ _ _).symm
        unfold xln at bl1 e
        refine wp_iload dX0_sumForward_19 rfl (wp_aload_n dX0_sumForward_21 rfl rfl (gv0_38 dX0_sumForward_22 hb k2 ?_))
        refine wn_icmp_gt dX0_sumForward_25 rfl (by omega) (by omega) (fun c25 => absurd c25 (by omega)) (fun c25 => ?_)
        refine wp_iload dX0_sumForward_28 rfl (wp_bipush (v := nI 16) dX0_sumForward_30 rfl ?_)
        refine wn_icmp_gt dX0_sumForward_32 rfl (by omega) (by omega) (fun c32 => absurd c32 (by omega)) (fun c32 => ?_)
        refine wp_iload_n dX0_sumForward_35 rfl ?_
        refine wn_if_ne dX0_sumForward_36 rfl (by omega) (fun c36 => ?_) (fun c36 => absurd c36 (by omega))
        refine wp_ldcI (v := nI 1000000) dX0_sumForward_48 k0_81 rfl (wp_istore dX0_sumForward_50 ⟨Nat.le_of_ble_eq_true rfl, Or.inr rfl⟩ rfl (wp_iload_n dX0_sumForward_52 rfl ?_))
        refine wn_if_le dX0_sumForward_53 rfl (by omega) (fun c53 => absurd c53 (by omega)) (fun c53 => ?_)
        refine wp_iload dX0_sumForward_56 rfl (wp_aload_n dX0_sumForward_58 rfl rfl (g0_25 dX0_sumForward_59 (xsh hX sh_133) (xrr hX r133_3) (wp_iload_n dX0_sumForward_62 rfl (wp_iconst (v := nI 1) dX0_sumForward_63 rfl (wv_isub dX0_sumForward_64 (pk_sub (by omega)) (wn_aaload dX0_sumForward_65 (xsh hX sh_153) (Or.inr (Or.inr rfl)) (by omega) (by decide) rr0 (wp_iload dX0_sumForward_66 rfl (wn_iaload dX0_sumForward_68 s0 rfl (by omega) (by decide) m2 (wp_aload_n dX0_sumForward_69 rfl rfl (wp_iload_n dX0_sumForward_70 rfl (wp_iconst (v := nI 1) dX0_sumForward_71 rfl (wv_isub dX0_sumForward_72 (pk_sub (by omega)) (wp_iv2 dX0_sumForward_73 k0_74 q_X3_itemsIn (by decide) ha (by decide) (Nat.le_of_ble_eq_true rfl) gl1 (wv_iadd dX0_sumForward_76 (nI_add _ _) (wn_min dX0_sumForward_77 k0_42 (Nat.le_of_ble_eq_true rfl) (by omega) (by omega) e (wp_istore dX0_sumForward_80 ⟨Nat.le_of_ble_eq_true rfl, Or.inr rfl⟩ rfl (wp_iload dX0_sumForward_82 rfl ?_)))))))))))))))))
        refine wn_if_le dX0_sumForward_84 rfl (by omega) (fun c84 => ?_) (fun c84 => absurd c84 (by omega))
        refine wp_iload_n dX0_sumForward_114 rfl ?_
        refine wn_if_le dX0_sumForward_115 rfl (by omega) (fun c115 => absurd c115 (by omega)) (fun c115 => ?_)
        refine wp_iload dX0_sumForward_118 rfl ?_
        refine wn_if_le dX0_sumForward_120 rfl (by omega) (fun c120 => ?_) (fun c120 => absurd c120 (by omega))
        exact wp_aload_n dX0_sumForward_157 rfl rfl (g0_25 dX0_sumForward_158 (xsh hX sh_133) (xrr hX r133_3) (wp_iload_n dX0_sumForward_161 rfl (wn_aaload dX0_sumForward_162 (xsh hX sh_153) (Or.inr (Or.inr rfl)) (by omega) (by decide) rr (wp_iload dX0_sumForward_163 rfl (wp_iload dX0_sumForward_165 rfl (wn_iastore dX0_sumForward_167 s1 rfl (by omega) (by decide) (wp_iinc dX0_sumForward_168 rfl (nI_1 _) ⟨Nat.le_of_ble_eq_true rfl, Or.inr rfl⟩ rfl (wp_goto dX0_sumForward_171 rfl nx))))))))
      · have gl := c_itemsIn (d + 0) hob hX hV2 (show j < L2.length by omega)
        have bl := xln_le v2 n2 (show j < L2.length by omega)
        have m1 := h (i + 1) j (by omega)
        have m0 := h i j (by omega)
        have b1 : xchs t1 L1 t2 L2 (i + 1) j ≤ 1000000 := xfs_le (xln L1) (xln L2) (xlc t1 L1 t2 L2) (i + 1) j
        have b0 : xchs t1 L1 t2 L2 i j ≤ 1000000 := xfs_le (xln L1) (xln L2) (xlc t1 L1 t2 L2) i j
        have cc := hC i j ⟨by omega, by omega⟩
        have cl := xlc_le t1 t2 L1 L2 i j
        have rc := r136_a hX (show i < 16 by omega)
        have sc := s136_a hX (show i < 16 by omega)
        have e : min (min (min 1000000 (xchs t1 L1 t2 L2 i (j + 1) + xln L1 i)) (xchs t1 L1 t2 L2 (i + 1) j + xln L2 j)) (xchs t1 L1 t2 L2 i j + xlc t1 L1 t2 L2 i j) = xchs t1 L1 t2 L2 (i + 1) (j + 1) := (xfs_ss _ _ _ _ _).symm
        unfold xln at bl bl1 e cl
        refine wp_iload dX0_sumForward_19 rfl (wp_aload_n dX0_sumForward_21 rfl rfl (gv0_38 dX0_sumForward_22 hb k2 ?_))
        refine wn_icmp_gt dX0_sumForward_25 rfl (by omega) (by omega) (fun c25 => absurd c25 (by omega)) (fun c25 => ?_)
        refine wp_iload dX0_sumForward_28 rfl (wp_bipush (v := nI 16) dX0_sumForward_30 rfl ?_)
        refine wn_icmp_gt dX0_sumForward_32 rfl (by omega) (by omega) (fun c32 => absurd c32 (by omega)) (fun c32 => ?_)
        refine wp_iload_n dX0_sumForward_35 rfl ?_
        refine wn_if_ne dX0_sumForward_36 rfl (by omega) (fun c36 => ?_) (fun c36 => absurd c36 (by omega))
        refine wp_ldcI (v := nI 1000000) dX0_sumForward_48 k0_81 rfl (wp_istore dX0_sumForward_50 ⟨Nat.le_of_ble_eq_true rfl, Or.inr rfl⟩ rfl (wp_iload_n dX0_sumForward_52 rfl ?_))
        refine wn_if_le dX0_sumForward_53 rfl (by omega) (fun c53 => absurd c53 (by omega)) (fun c53 => ?_)
        refine wp_iload dX0_sumForward_56 rfl (wp_aload_n dX0_sumForward_58 rfl rfl (g0_25 dX0_sumForward_59 (xsh hX sh_133) (xrr hX r133_3) (wp_iload_n dX0_sumForward_62 rfl (wp_iconst (v := nI 1) dX0_sumForward_63 rfl (wv_isub dX0_sumForward_64 (pk_sub (by omega)) (wn_aaload dX0_sumForward_65 (xsh hX sh_153) (Or.inr (Or.inr rfl)) (by omega) (by decide) rr0 (wp_iload dX0_sumForward_66 rfl (wn_iaload dX0_sumForward_68 s0 rfl (by omega) (by decide) m2 (wp_aload_n dX0_sumForward_69 rfl rfl (wp_iload_n dX0_sumForward_70 rfl (wp_iconst (v := nI 1) dX0_sumForward_71 rfl (wv_isub dX0_sumForward_72 (pk_sub (by omega)) (wp_iv2 dX0_sumForward_73 k0_74 q_X3_itemsIn (by decide) ha (by decide) (Nat.le_of_ble_eq_true rfl) gl1 (wv_iadd dX0_sumForward_76 (nI_add _ _) (wn_min dX0_sumForward_77 k0_42 (Nat.le_of_ble_eq_true rfl) (by omega) (by omega) rfl (wp_istore dX0_sumForward_80 ⟨Nat.le_of_ble_eq_true rfl, Or.inr rfl⟩ rfl (wp_iload dX0_sumForward_82 rfl ?_)))))))))))))))))
        refine wn_if_le dX0_sumForward_84 rfl (by omega) (fun c84 => absurd c84 (by omega)) (fun c84 => ?_)
        refine wp_iload dX0_sumForward_87 rfl (wp_aload_n dX0_sumForward_89 rfl rfl (g0_25 dX0_sumForward_90 (xsh hX sh_133) (xrr hX r133_3) (wp_iload_n dX0_sumForward_93 rfl (wn_aaload dX0_sumForward_94 (xsh hX sh_153) (Or.inr (Or.inr rfl)) (by omega) (by decide) rr (wp_iload dX0_sumForward_95 rfl (wp_iconst (v := nI 1) dX0_sumForward_97 rfl (wv_isub dX0_sumForward_98 (pk_sub (by omega)) (wn_iaload dX0_sumForward_99 s1 rfl (by omega) (by decide) m1 (wp_aload_n dX0_sumForward_100 rfl rfl (wp_iload dX0_sumForward_101 rfl (wp_iconst (v := nI 1) dX0_sumForward_103 rfl (wv_isub dX0_sumForward_104 (pk_sub (by omega)) (wp_iv2 dX0_sumForward_105 k0_74 q_X3_itemsIn (by decide) hb (by decide) (Nat.le_of_ble_eq_true rfl) gl (wv_iadd dX0_sumForward_108 (nI_add _ _) (wn_min dX0_sumForward_109 k0_42 (Nat.le_of_ble_eq_true rfl) (by omega) (by omega) rfl (wp_istore dX0_sumForward_112 ⟨Nat.le_of_ble_eq_true rfl, Or.inr rfl⟩ rfl (wp_iload_n dX0_sumForward_114 rfl ?_)))))))))))))))))
        refine wn_if_le dX0_sumForward_115 rfl (by omega) (fun c115 => absurd c115 (by omega)) (fun c115 => ?_)
        refine wp_iload dX0_sumForward_118 rfl ?_
        refine wn_if_le dX0_sumForward_120 rfl (by omega) (fun c120 => absurd c120 (by omega)) (fun c120 => ?_)
        exact wp_iload dX0_sumForward_123 rfl (wp_aload_n dX0_sumForward_125 rfl rfl (g0_25 dX0_sumForward_126 (xsh hX sh_133) (xrr hX r133_3) (wp_iload_n dX0_sumForward_129 rfl (wp_iconst (v := nI 1) dX0_sumForward_130 rfl (wv_isub dX0_sumForward_131 (pk_sub (by omega)) (wn_aaload dX0_sumForward_132 (xsh hX sh_153) (Or.inr (Or.inr rfl)) (by omega) (by decide) rr0 (wp_iload dX0_sumForward_133 rfl (wp_iconst (v := nI 1) dX0_sumForward_135 rfl (wv_isub dX0_sumForward_136 (pk_sub (by omega)) (wn_iaload dX0_sumForward_137 s0 rfl (by omega) (by decide) m0 (wp_aload_n dX0_sumForward_138 rfl rfl (g0_22 dX0_sumForward_139 (xsh hX sh_133) (xrr hX r133_2) (wp_iload_n dX0_sumForward_142 rfl (wp_iconst (v := nI 1) dX0_sumForward_143 rfl (wv_isub dX0_sumForward_144 (pk_sub (by omega)) (wn_aaload dX0_sumForward_145 (xsh hX sh_136) (Or.inr (Or.inr rfl)) (by omega) (by decide) rc (wp_iload dX0_sumForward_146 rfl (wp_iconst (v := nI 1) dX0_sumForward_148 rfl (wv_isub dX0_sumForward_149 (pk_sub (by omega)) (wn_iaload dX0_sumForward_150 sc rfl (by omega) (by decide) cc (wv_iadd dX0_sumForward_151 (nI_add _ _) (wn_min dX0_sumForward_152 k0_42 (Nat.le_of_ble_eq_true rfl) (by omega) (by omega) e (wp_istore dX0_sumForward_155 ⟨Nat.le_of_ble_eq_true rfl, Or.inr rfl⟩ rfl (wp_aload_n dX0_sumForward_157 rfl rfl (g0_25 dX0_sumForward_158 (xsh hX sh_133) (xrr hX r133_3) (wp_iload_n dX0_sumForward_161 rfl (wn_aaload dX0_sumForward_162 (xsh hX sh_153) (Or.inr (Or.inr rfl)) (by omega) (by decide) rr (wp_iload dX0_sumForward_163 rfl (wp_iload dX0_sumForward_165 rfl (wn_iastore dX0_sumForward_167 s1 rfl (by omega) (by decide) (wp_iinc dX0_sumForward_168 rfl (nI_1 _) ⟨Nat.le_of_ble_eq_true rfl, Or.inr rfl⟩ rfl (wp_goto dX0_sumForward_171 rfl nx))))))))))))))))))))))))))))))))
theorem sf_out {a b n1 n2 : Nat} {t1 t2 : Nat → Nat} {L1 L2 : List xLn} {d : Nat} (ho : xRo a) (hob : xRo b) : ∀ (jj i : Nat) (S : xS) (y4 y5 : Value), i + jj = L1.length + 1 → XC S → xRV a S n1 t1 L1 → xRV b S n2 t2 L2 → (∀ p q, p < L1.length ∧ q < L2.length → S.2.1 (137 + p) q = nI (xlc t1 L1 t2 L2 p q)) → (∀ p q, p < i ∧ q ≤ L2.length → S.2.1 (154 + p) q = nI (xchs t1 L1 t2 L2 p q)) → Wp false (d + 2) 0 cX0_sumForward none false 2 [.ref 133, .ref a, .ref b, .int (nI i), y4, y5] [] S (fun r S' => r = none ∧ xFl (fun i _ => 154 ≤ i ∧ i ≤ 170) S S' ∧ (∀ p q, p ≤ L1.length ∧ q ≤ L2.length → S'.2.1 (154 + p) q = nI (xchs t1 L1 t2 L2 p q))) := by
  intro jj
  induction jj with
  | zero =>
    intro i S y4 y5 hi hX hV1 hV2 hC h
    have ha := (ho.sh hX).1
    have k1 := hV1.2.2.2.2.1
    have h16 := hV1.2.2.2.2.2.2.2.2.1
    have hii : i = L1.length + 1 := by omega
    subst hii
    refine wp_iload_n dX0_sumForward_2 rfl (wp_aload_n dX0_sumForward_3 rfl rfl (gv0_38 dX0_sumForward_4 ha k1 ?_))
    refine wn_icmp_gt dX0_sumForward_7 rfl (by omega) (by omega) (fun c7 => ?_) (fun c7 => absurd c7 (by omega))
    exact wp_return dX0_sumForward_180 rfl ⟨rfl, xFl.rf S, fun p q hq => h p q (by omega)⟩
  | succ jj ih =>
    intro i S y4 y5 hi hX hV1 hV2 hC h
    have hou := ho.m
    have hobu := hob.m
    have ha := (ho.sh hX).1
    have k1 := hV1.2.2.2.2.1
    have h16 := hV1.2.2.2.2.2.2.2.2.1
    refine wp_iload_n dX0_sumForward_2 rfl (wp_aload_n dX0_sumForward_3 rfl rfl (gv0_38 dX0_sumForward_4 ha k1 ?_))
    refine wn_icmp_gt dX0_sumForward_7 rfl (by omega) (by omega) (fun c7 => absurd c7 (by omega)) (fun c7 => ?_)
    refine wp_iload_n dX0_sumForward_10 rfl (wp_bipush (v := nI 16) dX0_sumForward_11 rfl ?_)
    refine wn_icmp_gt dX0_sumForward_13 rfl (by omega) (by omega) (fun c13 => absurd c13 (by omega)) (fun c13 => ?_)
    refine wp_iconst (v := nI 0) dX0_sumForward_16 rfl (wp_istore dX0_sumForward_17 ⟨Nat.le_of_ble_eq_true rfl, Or.inr rfl⟩ rfl ?_)
    refine sf_in ho hob (show i ≤ L1.length by omega) (L2.length + 1) 0 S _ (Nat.zero_add _) hX hV1 hV2 hC (fun p q hq => h p q (by omega)) (fun S1 y4 y5 f1 h1 => ?_)
    have X1 := f1.XC hX
    refine wp_iinc dX0_sumForward_174 rfl (nI_1 _) ⟨Nat.le_of_ble_eq_true rfl, Or.inr rfl⟩ rfl (wp_goto dX0_sumForward_177 rfl ?_)
    refine (ih (i + 1) S1 _ _ (by omega) X1 (hV1.fm (f1.m (R := fun _ _ => False)) (fun i k h => by omega)) (hV2.fm (f1.m (R := fun _ _ => False)) (fun i k h => by omega)) (fun p q hq => f1.i (hC p q hq) (by have := hV1.2.2.2.2.2.2.2.2.1; omega)) h1).mono ?_
    rintro r S' ⟨z1, z2, z3⟩
    exact ⟨z1, f1.tt z2, z3⟩
theorem c_between {a b n1 n2 : Nat} {t1 t2 : Nat → Nat} {L1 L2 : List xLn} (d : Nat) (ho : xRo a) (hob : xRo b) {S : xS} (hX : XC S) (hV1 : xRV a S n1 t1 L1) (hV2 : xRV b S n2 t2 L2) : ∃ S', xcall false (d + 5) j_X0_between [.ref 133, .ref a, .ref b] S (some (.int (nI (xchs t1 L1 t2 L2 L1.length L2.length)))) S' ∧ xFl (fun i _ => i = 171 ∨ (137 ≤ i ∧ i ≤ 152) ∨ (154 ≤ i ∧ i ≤ 170)) S S' := by
  have hou := ho.m
  have hobu := hob.m
  have h16 := hV1.2.2.2.2.2.2.2.2.1
  have h162 := hV2.2.2.2.2.2.2.2.2.1
  obtain ⟨S1, g1, f1, c1⟩ := c_weighLines d ho hob hX hV1 hV2
  have X1 := f1.XC hX
  have V1 := hV1.fm (f1.m (R := fun _ _ => False)) (fun i k h => by omega)
  have V2 := hV2.fm (f1.m (R := fun _ _ => False)) (fun i k h => by omega)
  obtain ⟨r, S2, g2, hr2, f2, z2⟩ := xcall_some (al := false) (d := d + 4) (ls := [.ref 133, .ref a, .ref b, .float 0, .float 0, .float 0]) (S := S1) (as := [.ref 133, .ref a, .ref b]) q_X0_sumForward (by decide) rfl (Nat.le_of_ble_eq_true rfl) rfl
    (P := fun r S' => r = none ∧ xFl (fun i _ => 154 ≤ i ∧ i ≤ 170) S1 S' ∧ (∀ p q, p ≤ L1.length ∧ q ≤ L2.length → S'.2.1 (154 + p) q = nI (xchs t1 L1 t2 L2 p q))) (by
      exact wp_iconst (v := nI 0) dX0_sumForward_0 rfl (wp_istore_n dX0_sumForward_1 ⟨Nat.le_of_ble_eq_true rfl, Or.inr rfl⟩ rfl (sf_out (d := d + 2) ho hob (L1.length + 1) 0 S1 _ _ (Nat.zero_add _) X1 V1 V2 c1 (fun p q hq => absurd hq.1 (Nat.not_lt_zero p)))))
  subst hr2
  have X2 := f2.XC X1
  have W1 := V1.fm (f2.m (R := fun _ _ => False)) (fun i k h => by omega)
  have W2 := V2.fm (f2.m (R := fun _ _ => False)) (fun i k h => by omega)
  have ha2 := (ho.sh X2).1
  have hb2 := (hob.sh X2).1
  have k1 := W1.2.2.2.2.1
  have k2 := W2.2.2.2.2.1
  have rr := r153_a X2 (show L1.length < 17 by omega)
  have ss := s153_a X2 (show L1.length < 17 by omega)
  have m := z2 L1.length L2.length ⟨Nat.le_refl _, Nat.le_refl _⟩
  refine ⟨S2, ?_, (f1.mono (fun i k h => by omega)).tt (f2.mono (fun i k h => by omega))⟩
  refine xcall_intro (ls := [.ref 133, .ref a, .ref b]) q_X0_between (by decide) rfl (Nat.le_of_ble_eq_true rfl) rfl ?_
  exact wp_aload_n dX0_between_0 rfl rfl (wp_aload_n dX0_between_1 rfl rfl (wp_aload_n dX0_between_2 rfl rfl (wp_iv3 dX0_between_3 k0_60 q_X0_weighLines (by decide) (xsh hX sh_133) (by decide) (Nat.le_of_ble_eq_true rfl) g1 (wp_aload_n dX0_between_6 rfl rfl (wp_aload_n dX0_between_7 rfl rfl (wp_aload_n dX0_between_8 rfl rfl (wp_iv3 dX0_between_9 k0_64 q_X0_sumForward (by decide) (xsh X1 sh_133) (by decide) (Nat.le_of_ble_eq_true rfl) g2 (wp_aload_n dX0_between_12 rfl rfl (g0_25 dX0_between_13 (xsh X2 sh_133) (xrr X2 r133_3) (wp_aload_n dX0_between_16 rfl rfl (gv0_38 dX0_between_17 ha2 k1 (wp_bipush (v := nI 16) dX0_between_20 rfl (wn_min dX0_between_22 k0_42 (Nat.le_of_ble_eq_true rfl) (by omega) (by omega) (Nat.min_eq_left (by omega)) (wn_aaload dX0_between_25 (xsh X2 sh_153) (Or.inr (Or.inr rfl)) (by omega) (by decide) rr (wp_aload_n dX0_between_26 rfl rfl (gv0_38 dX0_between_27 hb2 k2 (wp_bipush (v := nI 16) dX0_between_30 rfl (wn_min dX0_between_32 k0_42 (Nat.le_of_ble_eq_true rfl) (by omega) (by omega) (Nat.min_eq_left (by omega)) (wn_iaload dX0_between_35 ss rfl (by omega) (by decide) m (wp_ireturn dX0_between_36 rfl rfl ⟨rfl, rfl⟩))))))))))))))))))))
theorem c_changes_no1 {sv tv : Int32} {r2 : Value} (hr2 : xisref r2 = true) (d : Nat) {S : xS} (hX : XC S) (g1 : xcall false (d + 5) j_X11_rhymeIn [.ref 0, .int sv] S (some .null) S) (g2 : xcall false (d + 5) j_X11_rhymeIn [.ref 0, .int tv] S (some r2) S) : xcall false (d + 6) j_X11_changes [.ref 0, .int sv, .int tv] S (some (.int (-1))) S := by
  refine xcall_intro (ls := [.ref 0, .int sv, .int tv, .float 0, .float 0]) q_X11_changes (by decide) rfl (Nat.le_of_ble_eq_true rfl) rfl ?_
  exact wp_aload_n dX11_changes_0 rfl rfl (wp_iload_n dX11_changes_1 rfl (wp_iv2 dX11_changes_2 k10_155 q_X11_rhymeIn (by decide) (xsh hX sh_0) (by decide) (Nat.le_of_ble_eq_true rfl) g1 (wp_astore_n dX11_changes_5 rfl ⟨Nat.le_of_ble_eq_true rfl, Or.inr rfl⟩ rfl (wp_aload_n dX11_changes_6 rfl rfl (wp_iload_n dX11_changes_7 rfl (wp_iv2 dX11_changes_8 k10_155 q_X11_rhymeIn (by decide) (xsh hX sh_0) (by decide) (Nat.le_of_ble_eq_true rfl) g2 (wp_astore dX11_changes_11 hr2 ⟨Nat.le_of_ble_eq_true rfl, Or.inr rfl⟩ rfl (wp_aload_n dX11_changes_13 rfl rfl (wp_ifnull_N dX11_changes_14 rfl (wp_iconst (v := -1) dX11_changes_22 rfl (wp_goto dX11_changes_23 rfl (wp_ireturn dX11_changes_36 rfl rfl ⟨rfl, rfl⟩))))))))))))
theorem c_changes_no2 {sv tv : Int32} {a : Nat} (d : Nat) {S : xS} (hX : XC S) (g1 : xcall false (d + 5) j_X11_rhymeIn [.ref 0, .int sv] S (some (.ref a)) S) (g2 : xcall false (d + 5) j_X11_rhymeIn [.ref 0, .int tv] S (some .null) S) : xcall false (d + 6) j_X11_changes [.ref 0, .int sv, .int tv] S (some (.int (-1))) S := by
  refine xcall_intro (ls := [.ref 0, .int sv, .int tv, .float 0, .float 0]) q_X11_changes (by decide) rfl (Nat.le_of_ble_eq_true rfl) rfl ?_
  exact wp_aload_n dX11_changes_0 rfl rfl (wp_iload_n dX11_changes_1 rfl (wp_iv2 dX11_changes_2 k10_155 q_X11_rhymeIn (by decide) (xsh hX sh_0) (by decide) (Nat.le_of_ble_eq_true rfl) g1 (wp_astore_n dX11_changes_5 rfl ⟨Nat.le_of_ble_eq_true rfl, Or.inr rfl⟩ rfl (wp_aload_n dX11_changes_6 rfl rfl (wp_iload_n dX11_changes_7 rfl (wp_iv2 dX11_changes_8 k10_155 q_X11_rhymeIn (by decide) (xsh hX sh_0) (by decide) (Nat.le_of_ble_eq_true rfl) g2 (wp_astore dX11_changes_11 rfl ⟨Nat.le_of_ble_eq_true rfl, Or.inr rfl⟩ rfl (wp_aload_n dX11_changes_13 rfl rfl (wp_ifnull_R dX11_changes_14 rfl (wp_aload dX11_changes_17 rfl rfl (wp_ifnonnull_N dX11_changes_19 rfl (wp_iconst (v := -1) dX11_changes_22 rfl (wp_goto dX11_changes_23 rfl (wp_ireturn dX11_changes_36 rfl rfl ⟨rfl, rfl⟩))))))))))))))
theorem c_changes {sv tv : Int32} {a b n1 n2 : Nat} {t1 t2 : Nat → Nat} {L1 L2 : List xLn} (d : Nat) (ho : xRo a) (hob : xRo b) {S : xS} (hX : XC S) (hV1 : xRV a S n1 t1 L1) (hV2 : xRV b S n2 t2 L2) (g1 : xcall false (d + 5) j_X11_rhymeIn [.ref 0, .int sv] S (some (.ref a)) S) (g2 : xcall false (d + 5) j_X11_rhymeIn [.ref 0, .int tv] S (some (.ref b)) S) : ∃ S', xcall false (d + 6) j_X11_changes [.ref 0, .int sv, .int tv] S (some (.int (nI (xchs t1 L1 t2 L2 L1.length L2.length)))) S' ∧ xFl (fun i _ => i = 171 ∨ (137 ≤ i ∧ i ≤ 152) ∨ (154 ≤ i ∧ i ≤ 170)) S S' := by
  obtain ⟨S1, g3, f1⟩ := c_between d ho hob hX hV1 hV2
  refine ⟨S1, ?_, f1⟩
  refine xcall_intro (ls := [.ref 0, .int sv, .int tv, .float 0, .float 0]) q_X11_changes (by decide) rfl (Nat.le_of_ble_eq_true rfl) rfl ?_
  exact wp_aload_n dX11_changes_0 rfl rfl (wp_iload_n dX11_changes_1 rfl (wp_iv2 dX11_changes_2 k10_155 q_X11_rhymeIn (by decide) (xsh hX sh_0) (by decide) (Nat.le_of_ble_eq_true rfl) g1 (wp_astore_n dX11_changes_5 rfl ⟨Nat.le_of_ble_eq_true rfl, Or.inr rfl⟩ rfl (wp_aload_n dX11_changes_6 rfl rfl (wp_iload_n dX11_changes_7 rfl (wp_iv2 dX11_changes_8 k10_155 q_X11_rhymeIn (by decide) (xsh hX sh_0) (by decide) (Nat.le_of_ble_eq_true rfl) g2 (wp_astore dX11_changes_11 rfl ⟨Nat.le_of_ble_eq_true rfl, Or.inr rfl⟩ rfl (wp_aload_n dX11_changes_13 rfl rfl (wp_ifnull_R dX11_changes_14 rfl (wp_aload dX11_changes_17 rfl rfl (wp_ifnonnull_R dX11_changes_19 rfl (wp_aload_n dX11_changes_26 rfl rfl (g10_86 dX11_changes_27 (xsh hX sh_0) (xrr hX r0_16) (wp_aload_n dX11_changes_30 rfl rfl (wp_aload dX11_changes_31 rfl rfl (wp_iv3 dX11_changes_33 k10_279 q_X0_between (by decide) (xsh hX sh_133) (by decide) (Nat.le_of_ble_eq_true rfl) g3 (wp_ireturn dX11_changes_36 rfl rfl ⟨rfl, rfl⟩)))))))))))))))))
