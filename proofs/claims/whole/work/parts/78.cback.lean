/-! mixed of the class: the sums from the last lines on, the least ones -/
/-- the least of f 0 to f k -/
def xmn (f : Nat → Nat) : Nat → Nat
  | 0 => f 0
  | k + 1 => min (xmn f k) (f (k + 1))
theorem xmn_le (f : Nat → Nat) : ∀ (k j : Nat), j ≤ k → xmn f k ≤ f j
  | 0, j, h => by rw [show j = 0 by omega]; exact Nat.le_refl _
  | k + 1, j, h => by
    have := xmn_le f k
    rw [xmn]
    rcases Nat.lt_or_ge k j with w | w
    · rw [show j = k + 1 by omega]; omega
    · have := this j w; omega
theorem xmn_ex (f : Nat → Nat) : ∀ (k : Nat), ∃ j, j ≤ k ∧ xmn f k = f j
  | 0 => ⟨0, Nat.le_refl _, rfl⟩
  | k + 1 => by
    obtain ⟨j, h1, h2⟩ := xmn_ex f k
    rw [xmn]
    rcases Nat.lt_or_ge (f (k + 1)) (xmn f k) with w | w
    · exact ⟨k + 1, Nat.le_refl _, by omega⟩
    · exact ⟨j, by omega, by omega⟩
theorem xmn_rev (f : Nat → Nat) (m : Nat) : xmn (fun j => f (m - j)) m = xmn f m := by
  obtain ⟨j, h1, h2⟩ := xmn_ex (fun j => f (m - j)) m
  obtain ⟨i, h3, h4⟩ := xmn_ex f m
  have h5 : xmn (fun j => f (m - j)) m ≤ f i := by
    have h := xmn_le (fun j => f (m - j)) m (m - i) (by omega)
    change _ ≤ f (m - (m - i)) at h
    rw [show m - (m - i) = i by omega] at h
    exact h
  have h6 := xmn_le f m (m - j) (by omega)
  have h7 : xmn (fun j => f (m - j)) m = f (m - j) := h2
  omega
theorem xmn_congr {f g : Nat → Nat} : ∀ {k : Nat}, (∀ j, j ≤ k → f j = g j) → xmn f k = xmn g k
  | 0, h => h 0 (Nat.le_refl _)
  | k + 1, h => by rw [xmn, xmn, xmn_congr (fun j hj => h j (by omega)), h (k + 1) (Nat.le_refl _)]
/-- the least CHANGES from any first lines of the elder to the child's first i; from any last lines to its last i -/
def xah (t1 : Nat → Nat) (L1 : List xLn) (t2 : Nat → Nat) (L2 : List xLn) (i : Nat) : Nat := xmn (fun j => xsb false t1 L1 t2 L2 j i) L1.length
def xbh (t1 : Nat → Nat) (L1 : List xLn) (t2 : Nat → Nat) (L2 : List xLn) (i : Nat) : Nat := xmn (fun j => xsb true t1 L1 t2 L2 j i) L1.length
theorem xsb_le (b : Bool) (t1 : Nat → Nat) (L1 : List xLn) (t2 : Nat → Nat) (L2 : List xLn) (i j : Nat) : xsb b t1 L1 t2 L2 i j ≤ 1000000 := xfs_le _ _ _ _ _
theorem xah_le (t1 : Nat → Nat) (L1 : List xLn) (t2 : Nat → Nat) (L2 : List xLn) (i : Nat) : xah t1 L1 t2 L2 i ≤ 1000000 := Nat.le_trans (xmn_le _ _ 0 (Nat.zero_le _)) (xsb_le _ _ _ _ _ _ _)
theorem xbh_le (t1 : Nat → Nat) (L1 : List xLn) (t2 : Nat → Nat) (L2 : List xLn) (i : Nat) : xbh t1 L1 t2 L2 i ≤ 1000000 := Nat.le_trans (xmn_le _ _ 0 (Nat.zero_le _)) (xsb_le _ _ _ _ _ _ _)
def xdn (k : Nat) : Int32 := nI k - nI 1
theorem xdn_s (k : Nat) : xdn (k + 1) = nI k := pk_sub (Nat.le_add_left 1 k)
theorem xdn_0 : xdn 0 < 0 := by decide
theorem xdn_i (k : Nat) : nI k + Int32.ofInt (-1) = xdn k := by
  unfold xdn
  rw [Int32.sub_eq_add_neg]
  rfl
theorem xsb_1 (t1 : Nat → Nat) (L1 : List xLn) (t2 : Nat → Nat) (L2 : List xLn) {i : Nat} (hi : i < L1.length) : xsb true t1 L1 t2 L2 (L1.length - i) (L2.length - L2.length) = min 1000000 (xsb true t1 L1 t2 L2 (L1.length - (i + 1)) (L2.length - L2.length) + xln L1 i) := by
  rw [show L1.length - i = (L1.length - (i + 1)) + 1 by omega, Nat.sub_self]
  refine (xfs_s0 (fun i => xln L1 (xtr true L1.length i)) (fun j => xln L2 (xtr true L2.length j)) (fun i j => xlc t1 L1 t2 L2 (xtr true L1.length i) (xtr true L2.length j)) _).trans ?_
  show min 1000000 (_ + xln L1 (L1.length - (L1.length - (i + 1) + 1))) = _
  rw [show L1.length - (L1.length - (i + 1) + 1) = i by omega]
  rfl
theorem xsb_2 (t1 : Nat → Nat) (L1 : List xLn) (t2 : Nat → Nat) (L2 : List xLn) {j : Nat} (hj : j < L2.length) : xsb true t1 L1 t2 L2 (L1.length - L1.length) (L2.length - j) = min 1000000 (xsb true t1 L1 t2 L2 (L1.length - L1.length) (L2.length - (j + 1)) + xln L2 j) := by
  rw [show L2.length - j = (L2.length - (j + 1)) + 1 by omega, Nat.sub_self]
  refine (xfs_0s (fun i => xln L1 (xtr true L1.length i)) (fun j => xln L2 (xtr true L2.length j)) (fun i j => xlc t1 L1 t2 L2 (xtr true L1.length i) (xtr true L2.length j)) _).trans ?_
  show min 1000000 (_ + xln L2 (L2.length - (L2.length - (j + 1) + 1))) = _
  rw [show L2.length - (L2.length - (j + 1) + 1) = j by omega]
  rfl
theorem xsb_3 (t1 : Nat → Nat) (L1 : List xLn) (t2 : Nat → Nat) (L2 : List xLn) {i j : Nat} (hi : i < L1.length) (hj : j < L2.length) : xsb true t1 L1 t2 L2 (L1.length - i) (L2.length - j) = min (min (min 1000000 (xsb true t1 L1 t2 L2 (L1.length - (i + 1)) (L2.length - j) + xln L1 i)) (xsb true t1 L1 t2 L2 (L1.length - i) (L2.length - (j + 1)) + xln L2 j)) (xsb true t1 L1 t2 L2 (L1.length - (i + 1)) (L2.length - (j + 1)) + xlc t1 L1 t2 L2 i j) := by
  obtain ⟨p, hp⟩ : ∃ p, p = L1.length - (i + 1) := ⟨_, rfl⟩
  obtain ⟨q, hq⟩ : ∃ q, q = L2.length - (j + 1) := ⟨_, rfl⟩
  rw [show L1.length - i = p + 1 by omega, show L2.length - j = q + 1 by omega, ← hp, ← hq]
  refine (xfs_ss (fun i => xln L1 (xtr true L1.length i)) (fun j => xln L2 (xtr true L2.length j)) (fun i j => xlc t1 L1 t2 L2 (xtr true L1.length i) (xtr true L2.length j)) p q).trans ?_
  show min (min (min 1000000 (_ + xln L1 (L1.length - (p + 1)))) (_ + xln L2 (L2.length - (q + 1)))) (_ + xlc t1 L1 t2 L2 (L1.length - (p + 1)) (L2.length - (q + 1))) = _
  rw [show L1.length - (p + 1) = i by omega, show L2.length - (q + 1) = j by omega]
  rfl
theorem sw_in {a b n1 n2 : Nat} {t1 t2 : Nat → Nat} {L1 L2 : List xLn} {i d : Nat} (ho : xRo a) (hob : xRo b) (hi : i ≤ L1.length) {Q : Option Value → xS → Prop} : ∀ (k : Nat) (S : xS) (y7 : Value), k ≤ L2.length + 1 → XC S → xRV a S n1 t1 L1 → xRV b S n2 t2 L2 → (∀ p q, p < L1.length ∧ q < L2.length → S.2.1 (137 + p) q = nI (xlc t1 L1 t2 L2 p q)) → (∀ p q, p ≤ L1.length → q ≤ L2.length → i < p ∨ (p = i ∧ k ≤ q) → S.2.1 (154 + p) q = nI (xsb true t1 L1 t2 L2 (L1.length - p) (L2.length - q))) → (∀ S' y6 y7, xFl (fun i _ => 154 ≤ i ∧ i ≤ 170) S S' → (∀ p q, p ≤ L1.length → q ≤ L2.length → i ≤ p → S'.2.1 (154 + p) q = nI (xsb true t1 L1 t2 L2 (L1.length - p) (L2.length - q))) → Wp false (d + 2) 0 cX0_sumBackward none false 187 [.ref 133, .ref a, .ref b, .int (nI L1.length), .int (nI L2.length), .int (nI i), y6, y7] [] S' Q) → Wp false (d + 2) 0 cX0_sumBackward none false 33 [.ref 133, .ref a, .ref b, .int (nI L1.length), .int (nI L2.length), .int (nI i), .int (xdn k), y7] [] S Q := by
  intro k
  induction k with
  | zero =>
    intro S y7 hk hX hV1 hV2 hC h K
    refine wp_iload dX0_sumBackward_33 rfl ?_
    refine wp_if_lt dX0_sumBackward_35 rfl (fun c35 => ?_) (fun c35 => absurd c35 (not_not_intro xdn_0))
    exact K S _ _ (xFl.rf S) (fun p q hp hq w => h p q hp hq (by omega))
  | succ j ih =>
    intro S y7 hk hX hV1 hV2 hC h K
    rw [xdn_s]
    have hou := ho.m
    have hobu := hob.m
    have ha := (ho.sh hX).1
    have hb := (hob.sh hX).1
    have h16 := hV2.2.2.2.2.2.2.2.2.1
    have h161 := hV1.2.2.2.2.2.2.2.2.1
    have v1 := hV1.2.2.2.2.2.2.1
    have v2 := hV2.2.2.2.2.2.2.1
    have n1 := hV1.2.2.2.2.2.2.2.1
    have n2 := hV2.2.2.2.2.2.2.2.1
    have rr := r153_a hX (show i < 17 by omega)
    have s1 := s153_a hX (show i < 17 by omega)
    have F2 : xFl (fun i' k' => i' = 154 + i ∧ k' = j) S (xSI S (154 + i) j (nI (xsb true t1 L1 t2 L2 (L1.length - i) (L2.length - j)))) := (xFl.rf S).SI ⟨rfl, rfl⟩
    have FF : xFl (fun i _ => 154 ≤ i ∧ i ≤ 170) S (xSI S (154 + i) j (nI (xsb true t1 L1 t2 L2 (L1.length - i) (L2.length - j)))) := F2.mono (fun i k h => by omega)
    have nx {y7 : Value} : Wp false (d + 2) 0 cX0_sumBackward none false 33 [.ref 133, .ref a, .ref b, .int (nI L1.length), .int (nI L2.length), .int (nI i), .int (xdn j), y7] [] (xSI S (154 + i) j (nI (xsb true t1 L1 t2 L2 (L1.length - i) (L2.length - j)))) Q := by
      refine ih _ y7 (by omega) hX (hV1.fm (FF.m (R := fun _ _ => False)) (fun i k h => by omega)) (hV2.fm (FF.m (R := fun _ _ => False)) (fun i k h => by omega)) (fun p q hq => F2.i (hC p q hq) (by omega)) (fun p q hp hq w2 => ?_) (fun S' y4 y5 f h' => K S' y4 y5 (FF.tt f) h')
      rcases Decidable.em (p = i ∧ q = j) with w | w
      · rw [w.1, w.2]; exact xI_same _ _ _ _
      · exact F2.i (h p q hp hq (by omega)) (by omega)
    rcases Nat.lt_or_ge i L1.length with wi | wi
    · have rr0 := r153_a hX (show i + 1 < 17 by omega)
      have s0 := s153_a hX (show i + 1 < 17 by omega)
      have gl1 := c_itemsIn (d + 0) ho hX hV1 wi
      have bl1 := xln_le v1 n1 wi
      have m2 := h (i + 1) j (by omega) (by omega) (by omega)
      have b2 : xsb true t1 L1 t2 L2 (L1.length - (i + 1)) (L2.length - j) ≤ 1000000 := xsb_le _ _ _ _ _ _ _
      rcases Nat.lt_or_ge j L2.length with wj | wj
      · have gl := c_itemsIn (d + 0) hob hX hV2 wj
        have bl := xln_le v2 n2 wj
        have m1 := h i (j + 1) (by omega) (by omega) (by omega)
        have m0 := h (i + 1) (j + 1) (by omega) (by omega) (by omega)
        have b1 : xsb true t1 L1 t2 L2 (L1.length - i) (L2.length - (j + 1)) ≤ 1000000 := xsb_le _ _ _ _ _ _ _
        have b0 : xsb true t1 L1 t2 L2 (L1.length - (i + 1)) (L2.length - (j + 1)) ≤ 1000000 := xsb_le _ _ _ _ _ _ _
        have cc := hC i j ⟨wi, wj⟩
        have cl := xlc_le t1 t2 L1 L2 i j
        have rc := r136_a hX (show i < 16 by omega)
        have sc := s136_a hX (show i < 16 by omega)
        have e := (xsb_3 t1 L1 t2 L2 wi wj).symm
        unfold xln at bl bl1 e cl
        refine wp_iload dX0_sumBackward_33 rfl ?_
        refine wn_if_lt dX0_sumBackward_35 rfl (by omega) ?_
        refine wp_iload dX0_sumBackward_38 rfl (wp_iload_n dX0_sumBackward_40 rfl ?_)
        refine wn_icmp_ne dX0_sumBackward_41 rfl (by omega) (by omega) (fun c41 => ?_) (fun c41 => absurd c41 (by omega))
        refine wp_ldcI (v := nI 1000000) dX0_sumBackward_55 k0_81 rfl (wp_istore dX0_sumBackward_57 ⟨Nat.le_of_ble_eq_true rfl, Or.inr rfl⟩ rfl (wp_iload dX0_sumBackward_59 rfl (wp_iload_n dX0_sumBackward_61 rfl ?_)))
        refine wn_icmp_ge dX0_sumBackward_62 rfl (by omega) (by omega) (fun c62 => absurd c62 (by omega)) (fun c62 => ?_)
        refine wp_iload dX0_sumBackward_65 rfl (wp_aload_n dX0_sumBackward_67 rfl rfl (g0_25 dX0_sumBackward_68 (xsh hX sh_133) (xrr hX r133_3) (wp_iload dX0_sumBackward_71 rfl (wp_iconst (v := nI 1) dX0_sumBackward_73 rfl (wv_iadd dX0_sumBackward_74 (nI_add _ _) (wn_aaload dX0_sumBackward_75 (xsh hX sh_153) (Or.inr (Or.inr rfl)) (by omega) (by decide) rr0 (wp_iload dX0_sumBackward_76 rfl (wn_iaload dX0_sumBackward_78 s0 rfl (by omega) (by decide) m2 (wp_aload_n dX0_sumBackward_79 rfl rfl (wp_iload dX0_sumBackward_80 rfl (wp_iv2 dX0_sumBackward_82 k0_74 q_X3_itemsIn (by decide) ha (by decide) (Nat.le_of_ble_eq_true rfl) gl1 (wv_iadd dX0_sumBackward_85 (nI_add _ _) (wn_min dX0_sumBackward_86 k0_42 (Nat.le_of_ble_eq_true rfl) (by omega) (by omega) rfl (wp_istore dX0_sumBackward_89 ⟨Nat.le_of_ble_eq_true rfl, Or.inr rfl⟩ rfl (wp_iload dX0_sumBackward_91 rfl (wp_iload dX0_sumBackward_93 rfl ?_))))))))))))))))
        refine wn_icmp_ge dX0_sumBackward_95 rfl (by omega) (by omega) (fun c95 => absurd c95 (by omega)) (fun c95 => ?_)
        refine wp_iload dX0_sumBackward_98 rfl (wp_aload_n dX0_sumBackward_100 rfl rfl (g0_25 dX0_sumBackward_101 (xsh hX sh_133) (xrr hX r133_3) (wp_iload dX0_sumBackward_104 rfl (wn_aaload dX0_sumBackward_106 (xsh hX sh_153) (Or.inr (Or.inr rfl)) (by omega) (by decide) rr (wp_iload dX0_sumBackward_107 rfl (wp_iconst (v := nI 1) dX0_sumBackward_109 rfl (wv_iadd dX0_sumBackward_110 (nI_add _ _) (wn_iaload dX0_sumBackward_111 s1 rfl (by omega) (by decide) m1 (wp_aload_n dX0_sumBackward_112 rfl rfl (wp_iload dX0_sumBackward_113 rfl (wp_iv2 dX0_sumBackward_115 k0_74 q_X3_itemsIn (by decide) hb (by decide) (Nat.le_of_ble_eq_true rfl) gl (wv_iadd dX0_sumBackward_118 (nI_add _ _) (wn_min dX0_sumBackward_119 k0_42 (Nat.le_of_ble_eq_true rfl) (by omega) (by omega) rfl (wp_istore dX0_sumBackward_122 ⟨Nat.le_of_ble_eq_true rfl, Or.inr rfl⟩ rfl (wp_iload dX0_sumBackward_124 rfl (wp_iload_n dX0_sumBackward_126 rfl ?_))))))))))))))))
        refine wn_icmp_ge dX0_sumBackward_127 rfl (by omega) (by omega) (fun c127 => absurd c127 (by omega)) (fun c127 => ?_)
        refine wp_iload dX0_sumBackward_130 rfl (wp_iload dX0_sumBackward_132 rfl ?_)
        refine wn_icmp_ge dX0_sumBackward_134 rfl (by omega) (by omega) (fun c134 => absurd c134 (by omega)) (fun c134 => ?_)
        exact wp_iload dX0_sumBackward_137 rfl (wp_aload_n dX0_sumBackward_139 rfl rfl (g0_25 dX0_sumBackward_140 (xsh hX sh_133) (xrr hX r133_3) (wp_iload dX0_sumBackward_143 rfl (wp_iconst (v := nI 1) dX0_sumBackward_145 rfl (wv_iadd dX0_sumBackward_146 (nI_add _ _) (wn_aaload dX0_sumBackward_147 (xsh hX sh_153) (Or.inr (Or.inr rfl)) (by omega) (by decide) rr0 (wp_iload dX0_sumBackward_148 rfl (wp_iconst (v := nI 1) dX0_sumBackward_150 rfl (wv_iadd dX0_sumBackward_151 (nI_add _ _) (wn_iaload dX0_sumBackward_152 s0 rfl (by omega) (by decide) m0 (wp_aload_n dX0_sumBackward_153 rfl rfl (g0_22 dX0_sumBackward_154 (xsh hX sh_133) (xrr hX r133_2) (wp_iload dX0_sumBackward_157 rfl (wn_aaload dX0_sumBackward_159 (xsh hX sh_136) (Or.inr (Or.inr rfl)) (by omega) (by decide) rc (wp_iload dX0_sumBackward_160 rfl (wn_iaload dX0_sumBackward_162 sc rfl (by omega) (by decide) cc (wv_iadd dX0_sumBackward_163 (nI_add _ _) (wn_min dX0_sumBackward_164 k0_42 (Nat.le_of_ble_eq_true rfl) (by omega) (by omega) e (wp_istore dX0_sumBackward_167 ⟨Nat.le_of_ble_eq_true rfl, Or.inr rfl⟩ rfl (wp_aload_n dX0_sumBackward_169 rfl rfl (g0_25 dX0_sumBackward_170 (xsh hX sh_133) (xrr hX r133_3) (wp_iload dX0_sumBackward_173 rfl (wn_aaload dX0_sumBackward_175 (xsh hX sh_153) (Or.inr (Or.inr rfl)) (by omega) (by decide) rr (wp_iload dX0_sumBackward_176 rfl (wp_iload dX0_sumBackward_178 rfl (wn_iastore dX0_sumBackward_180 s1 rfl (by omega) (by decide) (wp_iinc dX0_sumBackward_181 rfl (xdn_i _) ⟨Nat.le_of_ble_eq_true rfl, Or.inr rfl⟩ rfl (wp_goto dX0_sumBackward_184 rfl nx))))))))))))))))))))))))))))
      · have ej : j = L2.length := by omega
        subst ej
        have e := (xsb_1 t1 L1 t2 L2 wi).symm
        unfold xln at bl1 e
        refine wp_iload dX0_sumBackward_33 rfl ?_
        refine wn_if_lt dX0_sumBackward_35 rfl (by omega) ?_
        refine wp_iload dX0_sumBackward_38 rfl (wp_iload_n dX0_sumBackward_40 rfl ?_)
        refine wn_icmp_ne dX0_sumBackward_41 rfl (by omega) (by omega) (fun c41 => ?_) (fun c41 => absurd c41 (by omega))
        refine wp_ldcI (v := nI 1000000) dX0_sumBackward_55 k0_81 rfl (wp_istore dX0_sumBackward_57 ⟨Nat.le_of_ble_eq_true rfl, Or.inr rfl⟩ rfl (wp_iload dX0_sumBackward_59 rfl (wp_iload_n dX0_sumBackward_61 rfl ?_)))
        refine wn_icmp_ge dX0_sumBackward_62 rfl (by omega) (by omega) (fun c62 => absurd c62 (by omega)) (fun c62 => ?_)
        refine wp_iload dX0_sumBackward_65 rfl (wp_aload_n dX0_sumBackward_67 rfl rfl (g0_25 dX0_sumBackward_68 (xsh hX sh_133) (xrr hX r133_3) (wp_iload dX0_sumBackward_71 rfl (wp_iconst (v := nI 1) dX0_sumBackward_73 rfl (wv_iadd dX0_sumBackward_74 (nI_add _ _) (wn_aaload dX0_sumBackward_75 (xsh hX sh_153) (Or.inr (Or.inr rfl)) (by omega) (by decide) rr0 (wp_iload dX0_sumBackward_76 rfl (wn_iaload dX0_sumBackward_78 s0 rfl (by omega) (by decide) m2 (wp_aload_n dX0_sumBackward_79 rfl rfl (wp_iload dX0_sumBackward_80 rfl (wp_iv2 dX0_sumBackward_82 k0_74 q_X3_itemsIn (by decide) ha (by decide) (Nat.le_of_ble_eq_true rfl) gl1 (wv_iadd dX0_sumBackward_85 (nI_add _ _) (wn_min dX0_sumBackward_86 k0_42 (Nat.le_of_ble_eq_true rfl) (by omega) (by omega) e (wp_istore dX0_sumBackward_89 ⟨Nat.le_of_ble_eq_true rfl, Or.inr rfl⟩ rfl (wp_iload dX0_sumBackward_91 rfl (wp_iload dX0_sumBackward_93 rfl ?_))))))))))))))))
        refine wn_icmp_ge dX0_sumBackward_95 rfl (by omega) (by omega) (fun c95 => ?_) (fun c95 => absurd c95 (by omega))
        refine wp_iload dX0_sumBackward_124 rfl (wp_iload_n dX0_sumBackward_126 rfl ?_)
        refine wn_icmp_ge dX0_sumBackward_127 rfl (by omega) (by omega) (fun c127 => absurd c127 (by omega)) (fun c127 => ?_)
        refine wp_iload dX0_sumBackward_130 rfl (wp_iload dX0_sumBackward_132 rfl ?_)
        refine wn_icmp_ge dX0_sumBackward_134 rfl (by omega) (by omega) (fun c134 => ?_) (fun c134 => absurd c134 (by omega))
        exact wp_aload_n dX0_sumBackward_169 rfl rfl (g0_25 dX0_sumBackward_170 (xsh hX sh_133) (xrr hX r133_3) (wp_iload dX0_sumBackward_173 rfl (wn_aaload dX0_sumBackward_175 (xsh hX sh_153) (Or.inr (Or.inr rfl)) (by omega) (by decide) rr (wp_iload dX0_sumBackward_176 rfl (wp_iload dX0_sumBackward_178 rfl (wn_iastore dX0_sumBackward_180 s1 rfl (by omega) (by decide) (wp_iinc dX0_sumBackward_181 rfl (xdn_i _) ⟨Nat.le_of_ble_eq_true rfl, Or.inr rfl⟩ rfl (wp_goto dX0_sumBackward_184 rfl nx))))))))
    · have ei : i = L1.length := by omega
      subst ei
      rcases Nat.lt_or_ge j L2.length with wj | wj
      · have gl := c_itemsIn (d + 0) hob hX hV2 wj
        have bl := xln_le v2 n2 wj
        have m1 := h L1.length (j + 1) (by omega) (by omega) (by omega)
        have b1 : xsb true t1 L1 t2 L2 (L1.length - L1.length) (L2.length - (j + 1)) ≤ 1000000 := xsb_le _ _ _ _ _ _ _
        have e := (xsb_2 t1 L1 t2 L2 wj).symm
        unfold xln at bl e
        refine wp_iload dX0_sumBackward_33 rfl ?_
        refine wn_if_lt dX0_sumBackward_35 rfl (by omega) ?_
        refine wp_iload dX0_sumBackward_38 rfl (wp_iload_n dX0_sumBackward_40 rfl ?_)
        refine wn_icmp_ne dX0_sumBackward_41 rfl (by omega) (by omega) (fun c41 => absurd c41 (by omega)) (fun c41 => ?_)
        refine wp_iload dX0_sumBackward_44 rfl (wp_iload dX0_sumBackward_46 rfl ?_)
        refine wn_icmp_ne dX0_sumBackward_48 rfl (by omega) (by omega) (fun c48 => ?_) (fun c48 => absurd c48 (by omega))
        refine wp_ldcI (v := nI 1000000) dX0_sumBackward_55 k0_81 rfl (wp_istore dX0_sumBackward_57 ⟨Nat.le_of_ble_eq_true rfl, Or.inr rfl⟩ rfl (wp_iload dX0_sumBackward_59 rfl (wp_iload_n dX0_sumBackward_61 rfl ?_)))
        refine wn_icmp_ge dX0_sumBackward_62 rfl (by omega) (by omega) (fun c62 => ?_) (fun c62 => absurd c62 (by omega))
        refine wp_iload dX0_sumBackward_91 rfl (wp_iload dX0_sumBackward_93 rfl ?_)
        refine wn_icmp_ge dX0_sumBackward_95 rfl (by omega) (by omega) (fun c95 => absurd c95 (by omega)) (fun c95 => ?_)
        refine wp_iload dX0_sumBackward_98 rfl (wp_aload_n dX0_sumBackward_100 rfl rfl (g0_25 dX0_sumBackward_101 (xsh hX sh_133) (xrr hX r133_3) (wp_iload dX0_sumBackward_104 rfl (wn_aaload dX0_sumBackward_106 (xsh hX sh_153) (Or.inr (Or.inr rfl)) (by omega) (by decide) rr (wp_iload dX0_sumBackward_107 rfl (wp_iconst (v := nI 1) dX0_sumBackward_109 rfl (wv_iadd dX0_sumBackward_110 (nI_add _ _) (wn_iaload dX0_sumBackward_111 s1 rfl (by omega) (by decide) m1 (wp_aload_n dX0_sumBackward_112 rfl rfl (wp_iload dX0_sumBackward_113 rfl (wp_iv2 dX0_sumBackward_115 k0_74 q_X3_itemsIn (by decide) hb (by decide) (Nat.le_of_ble_eq_true rfl) gl (wv_iadd dX0_sumBackward_118 (nI_add _ _) (wn_min dX0_sumBackward_119 k0_42 (Nat.le_of_ble_eq_true rfl) (by omega) (by omega) e (wp_istore dX0_sumBackward_122 ⟨Nat.le_of_ble_eq_true rfl, Or.inr rfl⟩ rfl (wp_iload dX0_sumBackward_124 rfl (wp_iload_n dX0_sumBackward_126 rfl ?_))))))))))))))))
        refine wn_icmp_ge dX0_sumBackward_127 rfl (by omega) (by omega) (fun c127 => ?_) (fun c127 => absurd c127 (by omega))
        exact wp_aload_n dX0_sumBackward_169 rfl rfl (g0_25 dX0_sumBackward_170 (xsh hX sh_133) (xrr hX r133_3) (wp_iload dX0_sumBackward_173 rfl (wn_aaload dX0_sumBackward_175 (xsh hX sh_153) (Or.inr (Or.inr rfl)) (by omega) (by decide) rr (wp_iload dX0_sumBackward_176 rfl (wp_iload dX0_sumBackward_178 rfl (wn_iastore dX0_sumBackward_180 s1 rfl (by omega) (by decide) (wp_iinc dX0_sumBackward_181 rfl (xdn_i _) ⟨Nat.le_of_ble_eq_true rfl, Or.inr rfl⟩ rfl (wp_goto dX0_sumBackward_184 rfl nx))))))))
      · have ej : j = L2.length := by omega
        subst ej
        have e : xsb true t1 L1 t2 L2 (L1.length - L1.length) (L2.length - L2.length) = 0 := by rw [Nat.sub_self, Nat.sub_self]; exact xfs_00 _ _ _
        rw [e] at nx
        refine wp_iload dX0_sumBackward_33 rfl ?_
        refine wn_if_lt dX0_sumBackward_35 rfl (by omega) ?_
        refine wp_iload dX0_sumBackward_38 rfl (wp_iload_n dX0_sumBackward_40 rfl ?_)
        refine wn_icmp_ne dX0_sumBackward_41 rfl (by omega) (by omega) (fun c41 => absurd c41 (by omega)) (fun c41 => ?_)
        refine wp_iload dX0_sumBackward_44 rfl (wp_iload dX0_sumBackward_46 rfl ?_)
        refine wn_icmp_ne dX0_sumBackward_48 rfl (by omega) (by omega) (fun c48 => absurd c48 (by omega)) (fun c48 => ?_)
        refine wp_iconst (v := nI 0) dX0_sumBackward_51 rfl (wp_goto dX0_sumBackward_52 rfl (wp_istore dX0_sumBackward_57 ⟨Nat.le_of_ble_eq_true rfl, Or.inr rfl⟩ rfl (wp_iload dX0_sumBackward_59 rfl (wp_iload_n dX0_sumBackward_61 rfl ?_))))
        refine wn_icmp_ge dX0_sumBackward_62 rfl (by omega) (by omega) (fun c62 => ?_) (fun c62 => absurd c62 (by omega))
        refine wp_iload dX0_sumBackward_91 rfl (wp_iload dX0_sumBackward_93 rfl ?_)
        refine wn_icmp_ge dX0_sumBackward_95 rfl (by omega) (by omega) (fun c95 => ?_) (fun c95 => absurd c95 (by omega))
        refine wp_iload dX0_sumBackward_124 rfl (wp_iload_n dX0_sumBackward_126 rfl ?_)
        refine wn_icmp_ge dX0_sumBackward_127 rfl (by omega) (by omega) (fun c127 => ?_) (fun c127 => absurd c127 (by omega))
        exact wp_aload_n dX0_sumBackward_169 rfl rfl (g0_25 dX0_sumBackward_170 (xsh hX sh_133) (xrr hX r133_3) (wp_iload dX0_sumBackward_173 rfl (wn_aaload dX0_sumBackward_175 (xsh hX sh_153) (Or.inr (Or.inr rfl)) (by omega) (by decide) rr (wp_iload dX0_sumBackward_176 rfl (wp_iload dX0_sumBackward_178 rfl (wn_iastore dX0_sumBackward_180 s1 rfl (by omega) (by decide) (wp_iinc dX0_sumBackward_181 rfl (xdn_i _) ⟨Nat.le_of_ble_eq_true rfl, Or.inr rfl⟩ rfl (wp_goto dX0_sumBackward_184 rfl nx))))))))
theorem sw_out {a b n1 n2 : Nat} {t1 t2 : Nat → Nat} {L1 L2 : List xLn} {d : Nat} (ho : xRo a) (hob : xRo b) : ∀ (k : Nat) (S : xS) (y6 y7 : Value), k ≤ L1.length + 1 → XC S → xRV a S n1 t1 L1 → xRV b S n2 t2 L2 → (∀ p q, p < L1.length ∧ q < L2.length → S.2.1 (137 + p) q = nI (xlc t1 L1 t2 L2 p q)) → (∀ p q, p ≤ L1.length → q ≤ L2.length → k ≤ p → S.2.1 (154 + p) q = nI (xsb true t1 L1 t2 L2 (L1.length - p) (L2.length - q))) → Wp false (d + 2) 0 cX0_sumBackward none false 24 [.ref 133, .ref a, .ref b, .int (nI L1.length), .int (nI L2.length), .int (xdn k), y6, y7] [] S (fun r S' => r = none ∧ xFl (fun i _ => 154 ≤ i ∧ i ≤ 170) S S' ∧ (∀ p q, p ≤ L1.length → q ≤ L2.length → True → S'.2.1 (154 + p) q = nI (xsb true t1 L1 t2 L2 (L1.length - p) (L2.length - q)))) := by
  intro k
  induction k with
  | zero =>
    intro S y6 y7 hk hX hV1 hV2 hC h
    refine wp_iload dX0_sumBackward_24 rfl ?_
    refine wp_if_lt dX0_sumBackward_26 rfl (fun c26 => ?_) (fun c26 => absurd c26 (not_not_intro xdn_0))
    exact wp_return dX0_sumBackward_193 rfl ⟨rfl, xFl.rf S, fun p q hp hq _ => h p q hp hq (by omega)⟩
  | succ i ih =>
    intro S y6 y7 hk hX hV1 hV2 hC h
    rw [xdn_s]
    have hou := ho.m
    have hobu := hob.m
    have h161 := hV1.2.2.2.2.2.2.2.2.1
    have h162 := hV2.2.2.2.2.2.2.2.2.1
    have g := fun K => sw_in (d := d) ho hob (show i ≤ L1.length by omega) (L2.length + 1) S y7 (Nat.le_refl _) hX hV1 hV2 hC (fun p q hp hq w => h p q hp hq (by omega)) (Q := (fun r S' => r = none ∧ xFl (fun i _ => 154 ≤ i ∧ i ≤ 170) S S' ∧ (∀ p q, p ≤ L1.length → q ≤ L2.length → True → S'.2.1 (154 + p) q = nI (xsb true t1 L1 t2 L2 (L1.length - p) (L2.length - q))))) K
    rw [xdn_s] at g
    refine wp_iload dX0_sumBackward_24 rfl ?_
    refine wn_if_lt dX0_sumBackward_26 rfl (by omega) ?_
    refine wp_iload dX0_sumBackward_29 rfl (wp_istore dX0_sumBackward_31 ⟨Nat.le_of_ble_eq_true rfl, Or.inr rfl⟩ rfl ?_)
    refine g (fun S1 y6 y7 f1 h1 => ?_)
    have X1 := f1.XC hX
    refine wp_iinc dX0_sumBackward_187 rfl (xdn_i _) ⟨Nat.le_of_ble_eq_true rfl, Or.inr rfl⟩ rfl (wp_goto dX0_sumBackward_190 rfl ?_)
    refine (ih S1 _ _ (by omega) X1 (hV1.fm (f1.m (R := fun _ _ => False)) (fun i k h => by omega)) (hV2.fm (f1.m (R := fun _ _ => False)) (fun i k h => by omega)) (fun p q hq => f1.i (hC p q hq) (by omega)) (fun p q hp hq w => h1 p q hp hq (by omega))).mono ?_
    rintro r S' ⟨z1, z2, z3⟩
    exact ⟨z1, f1.tt z2, z3⟩
theorem c_sumBackward {a b n1 n2 : Nat} {t1 t2 : Nat → Nat} {L1 L2 : List xLn} (d : Nat) (ho : xRo a) (hob : xRo b) {S : xS} (hX : XC S) (hV1 : xRV a S n1 t1 L1) (hV2 : xRV b S n2 t2 L2) (hC : (∀ p q, p < L1.length ∧ q < L2.length → S.2.1 (137 + p) q = nI (xlc t1 L1 t2 L2 p q))) : ∃ S', xcall false (d + 2) j_X0_sumBackward [.ref 133, .ref a, .ref b] S none S' ∧ xFl (fun i _ => 154 ≤ i ∧ i ≤ 170) S S' ∧ (∀ p q, p ≤ L1.length → q ≤ L2.length → True → S'.2.1 (154 + p) q = nI (xsb true t1 L1 t2 L2 (L1.length - p) (L2.length - q))) := by
  have ha := (ho.sh hX).1
  have hb := (hob.sh hX).1
  have k1 := hV1.2.2.2.2.1
  have k2 := hV2.2.2.2.2.1
  have h16 := hV1.2.2.2.2.2.2.2.2.1
  have h162 := hV2.2.2.2.2.2.2.2.2.1
  have g := sw_out (d := d) ho hob (L1.length + 1) S (.float 0) (.float 0) (Nat.le_refl _) hX hV1 hV2 hC (fun p q hp hq w => absurd w (by omega))
  rw [xdn_s] at g
  obtain ⟨r, S', g1, rfl, z1, z2⟩ := xcall_some (al := false) (d := d + 2) (ls := [.ref 133, .ref a, .ref b, .float 0, .float 0, .float 0, .float 0, .float 0]) (S := S) (as := [.ref 133, .ref a, .ref b]) q_X0_sumBackward (by decide) rfl (Nat.le_of_ble_eq_true rfl) rfl
    (P := fun r S' => r = none ∧ xFl (fun i _ => 154 ≤ i ∧ i ≤ 170) S S' ∧ (∀ p q, p ≤ L1.length → q ≤ L2.length → True → S'.2.1 (154 + p) q = nI (xsb true t1 L1 t2 L2 (L1.length - p) (L2.length - q)))) (by
      exact wp_aload_n dX0_sumBackward_0 rfl rfl (gv0_38 dX0_sumBackward_1 ha k1 (wp_bipush (v := nI 16) dX0_sumBackward_4 rfl (wn_min dX0_sumBackward_6 k0_42 (Nat.le_of_ble_eq_true rfl) (by omega) (by omega) (Nat.min_eq_left (by omega)) (wp_istore_n dX0_sumBackward_9 ⟨Nat.le_of_ble_eq_true rfl, Or.inr rfl⟩ rfl (wp_aload_n dX0_sumBackward_10 rfl rfl (gv0_38 dX0_sumBackward_11 hb k2 (wp_bipush (v := nI 16) dX0_sumBackward_14 rfl (wn_min dX0_sumBackward_16 k0_42 (Nat.le_of_ble_eq_true rfl) (by omega) (by omega) (Nat.min_eq_left (by omega)) (wp_istore dX0_sumBackward_19 ⟨Nat.le_of_ble_eq_true rfl, Or.inr rfl⟩ rfl (wp_iload_n dX0_sumBackward_21 rfl (wp_istore dX0_sumBackward_22 ⟨Nat.le_of_ble_eq_true rfl, Or.inr rfl⟩ rfl g))))))))))))
  exact ⟨S', g1, z1, z2⟩
