/-! CHANGES: the items of two lines, and all lines, of the class -/
/-- the CHANGES from one line's items to another's -/
def xlch (t1 : Nat → Nat) (c1 : List xIt) (t2 : Nat → Nat) (c2 : List xIt) : Nat := xlv (fun p q => xsmi t1 (c1.getD p (0, 0, 0)) t2 (c2.getD q (0, 0, 0))) c1.length c2.length
def xlc (t1 : Nat → Nat) (L1 : List xLn) (t2 : Nat → Nat) (L2 : List xLn) (l m : Nat) : Nat := xlch t1 (xcI (L1.getD l (0, 0, []))) t2 (xcI (L2.getD m (0, 0, [])))
theorem r136_a {S : xS} (hX : XC S) {i : Nat} (hi : i < 16) : S.2.2.1 136 i = some (137 + i) := by
  rcases (show i = 0 ∨ i = 1 ∨ i = 2 ∨ i = 3 ∨ i = 4 ∨ i = 5 ∨ i = 6 ∨ i = 7 ∨ i = 8 ∨ i = 9 ∨ i = 10 ∨ i = 11 ∨ i = 12 ∨ i = 13 ∨ i = 14 ∨ i = 15 by omega) with rfl | rfl | rfl | rfl | rfl | rfl | rfl | rfl | rfl | rfl | rfl | rfl | rfl | rfl | rfl | rfl
  · exact xrr hX r136_0
  · exact xrr hX r136_1
  · exact xrr hX r136_2
  · exact xrr hX r136_3
  · exact xrr hX r136_4
  · exact xrr hX r136_5
  · exact xrr hX r136_6
  · exact xrr hX r136_7
  · exact xrr hX r136_8
  · exact xrr hX r136_9
  · exact xrr hX r136_10
  · exact xrr hX r136_11
  · exact xrr hX r136_12
  · exact xrr hX r136_13
  · exact xrr hX r136_14
  · exact xrr hX r136_15
theorem s136_a {S : xS} (hX : XC S) {i : Nat} (hi : i < 16) : S.1[137 + i]? = some (20, 16) := by
  rcases (show i = 0 ∨ i = 1 ∨ i = 2 ∨ i = 3 ∨ i = 4 ∨ i = 5 ∨ i = 6 ∨ i = 7 ∨ i = 8 ∨ i = 9 ∨ i = 10 ∨ i = 11 ∨ i = 12 ∨ i = 13 ∨ i = 14 ∨ i = 15 by omega) with rfl | rfl | rfl | rfl | rfl | rfl | rfl | rfl | rfl | rfl | rfl | rfl | rfl | rfl | rfl | rfl
  · exact xsh hX sh_137
  · exact xsh hX sh_138
  · exact xsh hX sh_139
  · exact xsh hX sh_140
  · exact xsh hX sh_141
  · exact xsh hX sh_142
  · exact xsh hX sh_143
  · exact xsh hX sh_144
  · exact xsh hX sh_145
  · exact xsh hX sh_146
  · exact xsh hX sh_147
  · exact xsh hX sh_148
  · exact xsh hX sh_149
  · exact xsh hX sh_150
  · exact xsh hX sh_151
  · exact xsh hX sh_152
theorem r153_a {S : xS} (hX : XC S) {i : Nat} (hi : i < 17) : S.2.2.1 153 i = some (154 + i) := by
  rcases (show i = 0 ∨ i = 1 ∨ i = 2 ∨ i = 3 ∨ i = 4 ∨ i = 5 ∨ i = 6 ∨ i = 7 ∨ i = 8 ∨ i = 9 ∨ i = 10 ∨ i = 11 ∨ i = 12 ∨ i = 13 ∨ i = 14 ∨ i = 15 ∨ i = 16 by omega) with rfl | rfl | rfl | rfl | rfl | rfl | rfl | rfl | rfl | rfl | rfl | rfl | rfl | rfl | rfl | rfl | rfl
  · exact xrr hX r153_0
  · exact xrr hX r153_1
  · exact xrr hX r153_2
  · exact xrr hX r153_3
  · exact xrr hX r153_4
  · exact xrr hX r153_5
  · exact xrr hX r153_6
  · exact xrr hX r153_7
  · exact xrr hX r153_8
  · exact xrr hX r153_9
  · exact xrr hX r153_10
  · exact xrr hX r153_11
  · exact xrr hX r153_12
  · exact xrr hX r153_13
  · exact xrr hX r153_14
  · exact xrr hX r153_15
  · exact xrr hX r153_16
theorem s153_a {S : xS} (hX : XC S) {i : Nat} (hi : i < 17) : S.1[154 + i]? = some (20, 17) := by
  rcases (show i = 0 ∨ i = 1 ∨ i = 2 ∨ i = 3 ∨ i = 4 ∨ i = 5 ∨ i = 6 ∨ i = 7 ∨ i = 8 ∨ i = 9 ∨ i = 10 ∨ i = 11 ∨ i = 12 ∨ i = 13 ∨ i = 14 ∨ i = 15 ∨ i = 16 by omega) with rfl | rfl | rfl | rfl | rfl | rfl | rfl | rfl | rfl | rfl | rfl | rfl | rfl | rfl | rfl | rfl | rfl
  · exact xsh hX sh_154
  · exact xsh hX sh_155
  · exact xsh hX sh_156
  · exact xsh hX sh_157
  · exact xsh hX sh_158
  · exact xsh hX sh_159
  · exact xsh hX sh_160
  · exact xsh hX sh_161
  · exact xsh hX sh_162
  · exact xsh hX sh_163
  · exact xsh hX sh_164
  · exact xsh hX sh_165
  · exact xsh hX sh_166
  · exact xsh hX sh_167
  · exact xsh hX sh_168
  · exact xsh hX sh_169
  · exact xsh hX sh_170
theorem ic_out {a b n1 n2 : Nat} {t1 t2 : Nat → Nat} {L1 L2 : List xLn} {l m d : Nat} (ho : xRo a) (hob : xRo b) (hl : l < L1.length) (hm : m < L2.length) : ∀ (j i : Nat) (S : xS) (y8 y9 y10 : Value), i + j = (xcI (L1.getD l (0, 0, []))).length → XC S → xRV a S n1 t1 L1 → xRV b S n2 t2 L2 → (∀ q, q ≤ (xcI (L2.getD m (0, 0, []))).length → S.2.1 171 q = nI (xlv (fun p q => xsmi t1 ((xcI (L1.getD l (0, 0, []))).getD p (0, 0, 0)) t2 ((xcI (L2.getD m (0, 0, []))).getD q (0, 0, 0))) i q)) → Wp false (d + 3) 0 cX0_itemChanges (some .int) false 58 [.ref 133, .ref a, .int (nI l), .ref b, .int (nI m), .int (nI (xof xcI L2 m)), .int (nI (xcI (L2.getD m (0, 0, []))).length), .int (nI (xof xcI L1 l + i)), y8, y9, y10] [] S (fun r S' => r = some (.int (nI (xlc t1 L1 t2 L2 l m))) ∧ xFl (fun i _ => i = 171) S S') := by
  intro j
  induction j with
  | zero =>
    intro i S y8 y9 y10 hi hX hV1 hV2 h
    have hii : i = (xcI (L1.getD l (0, 0, []))).length := by omega
    subst hii
    have ha := (ho.sh hX).1
    have e := xof_succ xcI L1 l hl
    have hle := xof_le xcI L1 (l + 1)
    have h120 := xRok_120 hV1.2.2.2.2.2.2.1 hV1.2.2.2.2.2.2.2.1
    have e2 := xof_succ xcI L2 m hm
    have hle2 := xof_le xcI L2 (m + 1)
    have h1202 := xRok_120 hV2.2.2.2.2.2.2.1 hV2.2.2.2.2.2.2.2.1
    have gf := c_firstItem (d + 2) ho hX hV1 (l := l + 1) (by omega)
    have r0 := h _ (Nat.le_refl _)
    refine wp_iload dX0_itemChanges_58 rfl (wp_aload_n dX0_itemChanges_60 rfl rfl (wp_iload_n dX0_itemChanges_61 rfl (wp_iconst (v := nI 1) dX0_itemChanges_62 rfl (wv_iadd dX0_itemChanges_63 (nI_add _ _) (wp_iv2 dX0_itemChanges_64 k0_71 q_X3_firstItem (by decide) ha (by decide) (Nat.le_of_ble_eq_true rfl) gf ?_)))))
    refine wn_icmp_ge dX0_itemChanges_67 rfl (by omega) (by omega) (fun c67 => ?_) (fun c67 => absurd c67 (by omega))
    exact wp_aload_n dX0_itemChanges_179 rfl rfl (g0_28 dX0_itemChanges_180 (xsh hX sh_133) (xrr hX r133_4) (wp_iload dX0_itemChanges_183 rfl (wn_iaload dX0_itemChanges_185 (xsh hX sh_171) rfl (by omega) (by decide) r0 (wp_ireturn dX0_itemChanges_186 rfl rfl ⟨rfl, xFl.rf S⟩))))
  | succ j ih =>
    intro i S y8 y9 y10 hi hX hV1 hV2 h
    have hou := ho.m
    have hobu := hob.m
    have ha := (ho.sh hX).1
    have e := xof_succ xcI L1 l hl
    have hle := xof_le xcI L1 (l + 1)
    have h120 := xRok_120 hV1.2.2.2.2.2.2.1 hV1.2.2.2.2.2.2.2.1
    have gf := c_firstItem (d + 2) ho hX hV1 (l := l + 1) (by omega)
    have r0 := h 0 (Nat.zero_le _)
    rw [xlv_s0] at r0
    have F1 : xFl (fun i _ => i = 171) S (xSI S 171 0 (nI (i + 1))) := (xFl.rf S).SI rfl
    have es0 := xlv_s0 (fun p q => xsmi t1 ((xcI (L1.getD l (0, 0, []))).getD p (0, 0, 0)) t2 ((xcI (L2.getD m (0, 0, []))).getD q (0, 0, 0))) i
    refine wp_iload dX0_itemChanges_58 rfl (wp_aload_n dX0_itemChanges_60 rfl rfl (wp_iload_n dX0_itemChanges_61 rfl (wp_iconst (v := nI 1) dX0_itemChanges_62 rfl (wv_iadd dX0_itemChanges_63 (nI_add _ _) (wp_iv2 dX0_itemChanges_64 k0_71 q_X3_firstItem (by decide) ha (by decide) (Nat.le_of_ble_eq_true rfl) gf ?_)))))
    refine wn_icmp_ge dX0_itemChanges_67 rfl (by omega) (by omega) (fun c67 => absurd c67 (by omega)) (fun c67 => ?_)
    refine wp_aload_n dX0_itemChanges_70 rfl rfl (g0_28 dX0_itemChanges_71 (xsh hX sh_133) (xrr hX r133_4) (wp_iconst (v := nI 0) dX0_itemChanges_74 rfl (wn_iaload dX0_itemChanges_75 (xsh hX sh_171) rfl (by omega) (by decide) r0 (wp_istore dX0_itemChanges_76 ⟨Nat.le_of_ble_eq_true rfl, Or.inr rfl⟩ rfl (wp_aload_n dX0_itemChanges_78 rfl rfl (g0_28 dX0_itemChanges_79 (xsh hX sh_133) (xrr hX r133_4) (wp_iconst (v := nI 0) dX0_itemChanges_82 rfl (wp_dup2 dX0_itemChanges_83 ⟨rfl, rfl⟩ (wn_iaload dX0_itemChanges_84 (xsh hX sh_171) rfl (by omega) (by decide) r0 (wp_iconst (v := nI 1) dX0_itemChanges_85 rfl (wv_iadd dX0_itemChanges_86 (nI_add _ _) (wn_iastore dX0_itemChanges_87 (xsh hX sh_171) rfl (by omega) (by decide) (wp_iconst (v := nI 1) dX0_itemChanges_88 rfl (wp_istore dX0_itemChanges_89 ⟨Nat.le_of_ble_eq_true rfl, Or.inr rfl⟩ rfl ?_))))))))))))))
    refine wp_locals (ls' := [.ref 133, .ref a, .int (nI l), .ref b, .int (nI m), .int (nI (xof xcI L2 m)), .int (nI (xcI (L2.getD m (0, 0, []))).length), .int (nI (xof xcI L1 l + i)), .int (nI (xlv (fun p q => xsmi t1 ((xcI (L1.getD l (0, 0, []))).getD p (0, 0, 0)) t2 ((xcI (L2.getD m (0, 0, []))).getD q (0, 0, 0))) i 0)), .int (nI (0 + 1)), y10]) (by rw [es0]; rfl) ?_
    refine ic_in ho hob hl hm (show i < (xcI (L1.getD l (0, 0, []))).length by omega) _ 0 _ _ (Nat.zero_add _) hX (hV1.fm (F1.m (R := fun _ _ => False)) (fun i k h => by omega)) (hV2.fm (F1.m (R := fun _ _ => False)) (fun i k h => by omega)) (fun q hq => ?_) (fun S2 y8 y9 y10 f2 h2 => ?_)
    · rcases Nat.lt_or_ge 0 q with w | w
      · rw [if_neg (by omega)]
        exact xi (h q hq) (Or.inr (by omega))
      · have : q = 0 := by omega
        subst this
        rw [if_pos (Nat.le_refl _), xlv_s0]
        exact xI_same _ _ _ _
    · have X2 := f2.XC (F1.XC hX)
      have F2 := F1.tt f2
      refine wp_iinc dX0_itemChanges_173 rfl (nI_1 _) ⟨Nat.le_of_ble_eq_true rfl, Or.inr rfl⟩ rfl (wp_goto dX0_itemChanges_176 rfl ?_)
      refine (ih (i + 1) S2 _ _ _ (by omega) X2 (hV1.fm (F2.m (R := fun _ _ => False)) (fun i k h => by omega)) (hV2.fm (F2.m (R := fun _ _ => False)) (fun i k h => by omega)) h2).mono ?_
      rintro r S' ⟨z1, z2⟩
      exact ⟨z1, F2.tt z2⟩
theorem c_itemChanges {a b n1 n2 : Nat} {t1 t2 : Nat → Nat} {L1 L2 : List xLn} {l m : Nat} (d : Nat) (ho : xRo a) (hob : xRo b) {S : xS} (hX : XC S) (hV1 : xRV a S n1 t1 L1) (hV2 : xRV b S n2 t2 L2) (hl : l < L1.length) (hm : m < L2.length) : ∃ S', xcall false (d + 3) j_X0_itemChanges [.ref 133, .ref a, .int (nI l), .ref b, .int (nI m)] S (some (.int (nI (xlc t1 L1 t2 L2 l m)))) S' ∧ xFl (fun i _ => i = 171) S S' := by
  have hou := ho.m
  have hobu := hob.m
  have ha := (ho.sh hX).1
  have hb := (hob.sh hX).1
  have g1 := c_firstItem (d + 2) hob hX hV2 (l := m) (by omega)
  have g2 := c_itemsIn (d + 1) hob hX hV2 hm
  have h120 := xRok_120 hV2.2.2.2.2.2.2.1 hV2.2.2.2.2.2.2.2.1
  have e2 := xof_succ xcI L2 m hm
  have hle2 := xof_le xcI L2 (m + 1)
  have key : ∃ r S', xcall false (d + 3) j_X0_itemChanges [.ref 133, .ref a, .int (nI l), .ref b, .int (nI m)] S r S' ∧ (r = some (.int (nI (xlc t1 L1 t2 L2 l m))) ∧ xFl (fun i _ => i = 171) S S') := by
    refine xcall_some (ls := [.ref 133, .ref a, .int (nI l), .ref b, .int (nI m), .float 0, .float 0, .float 0, .float 0, .float 0, .float 0]) q_X0_itemChanges (by decide) rfl (Nat.le_of_ble_eq_true rfl) rfl ?_
    refine wp_aload_n dX0_itemChanges_0 rfl rfl (wp_iload dX0_itemChanges_1 rfl (wp_iv2 dX0_itemChanges_3 k0_71 q_X3_firstItem (by decide) hb (by decide) (Nat.le_of_ble_eq_true rfl) g1 (wp_istore dX0_itemChanges_6 ⟨Nat.le_of_ble_eq_true rfl, Or.inr rfl⟩ rfl (wp_aload_n dX0_itemChanges_8 rfl rfl (wp_iload dX0_itemChanges_9 rfl (wp_iv2 dX0_itemChanges_11 k0_74 q_X3_itemsIn (by decide) hb (by decide) (Nat.le_of_ble_eq_true rfl) g2 (wp_aload_n dX0_itemChanges_14 rfl rfl (g0_28 dX0_itemChanges_15 (xsh hX sh_133) (xrr hX r133_4) (wp_alen (v := nI 121) dX0_itemChanges_18 (xsh hX sh_171) ⟨by decide, by decide⟩ rfl (wp_iconst (v := nI 1) dX0_itemChanges_19 rfl (wv_isub dX0_itemChanges_20 (pk_sub (by omega)) (wn_min dX0_itemChanges_21 k0_42 (Nat.le_of_ble_eq_true rfl) (by omega) (by omega) (Nat.min_eq_left (by omega)) (wp_istore dX0_itemChanges_24 ⟨Nat.le_of_ble_eq_true rfl, Or.inr rfl⟩ rfl (wp_iconst (v := nI 0) dX0_itemChanges_26 rfl (wp_istore dX0_itemChanges_27 ⟨Nat.le_of_ble_eq_true rfl, Or.inr rfl⟩ rfl ?_)))))))))))))))
    refine ic_init (by omega) _ 0 S (Nat.zero_add _) hX (fun q hq => absurd hq (Nat.not_lt_zero q)) (fun S1 f1 h1 => ?_)
    have X1 := f1.XC hX
    have V1 := hV1.fm (f1.m (R := fun _ _ => False)) (fun i k h => by omega)
    have V2 := hV2.fm (f1.m (R := fun _ _ => False)) (fun i k h => by omega)
    have g3 := c_firstItem (d + 2) ho X1 V1 (l := l) (by omega)
    have ha1 := (ho.sh X1).1
    refine wp_aload_n dX0_itemChanges_51 rfl rfl (wp_iload_n dX0_itemChanges_52 rfl (wp_iv2 dX0_itemChanges_53 k0_71 q_X3_firstItem (by decide) ha1 (by decide) (Nat.le_of_ble_eq_true rfl) g3 (wp_istore dX0_itemChanges_56 ⟨Nat.le_of_ble_eq_true rfl, Or.inr rfl⟩ rfl ?_)))
    refine (ic_out ho hob hl hm _ 0 S1 _ _ _ (Nat.zero_add _) X1 V1 V2 (fun q hq => by rw [xlv_0]; exact h1 q hq)).mono ?_
    rintro r S' ⟨z1, z2⟩
    exact ⟨z1, f1.tt z2⟩
  obtain ⟨r, S', g, rfl, z⟩ := key
  exact ⟨S', g, z⟩
theorem wl_in {a b n1 n2 : Nat} {t1 t2 : Nat → Nat} {L1 L2 : List xLn} {l d : Nat} (ho : xRo a) (hob : xRo b) (hl : l < L1.length) {Q : Option Value → xS → Prop} : ∀ (j q : Nat) (S : xS), q + j = L2.length → XC S → xRV a S n1 t1 L1 → xRV b S n2 t2 L2 → (∀ p q', (p < l ∧ q' < L2.length) ∨ (p = l ∧ q' < q) → S.2.1 (137 + p) q' = nI (xlc t1 L1 t2 L2 p q')) → (∀ S' y4, xFl (fun i _ => i = 171 ∨ (137 ≤ i ∧ i ≤ 152)) S S' → (∀ p q, p < l + 1 ∧ q < L2.length → S'.2.1 (137 + p) q = nI (xlc t1 L1 t2 L2 p q)) → Wp false (d + 4) 0 cX0_weighLines none false 59 [.ref 133, .ref a, .ref b, .int (nI l), y4] [] S' Q) → Wp false (d + 4) 0 cX0_weighLines none false 19 [.ref 133, .ref a, .ref b, .int (nI l), .int (nI q)] [] S Q := by
  intro j
  induction j with
  | zero =>
    intro k S hk hX hV1 hV2 h K
    have hb := (hob.sh hX).1
    have k2 := hV2.2.2.2.2.1
    have h16 := hV2.2.2.2.2.2.2.2.2.1
    have hkk : k = L2.length := by omega
    subst hkk
    refine wp_iload dX0_weighLines_19 rfl (wp_aload_n dX0_weighLines_21 rfl rfl (gv0_38 dX0_weighLines_22 hb k2 ?_))
    refine wn_icmp_ge dX0_weighLines_25 rfl (by omega) (by omega) (fun c25 => ?_) (fun c25 => absurd c25 (by omega))
    exact K S _ (xFl.rf S) (fun p q hq => h p q (by omega))
  | succ j ih =>
    intro k S hk hX hV1 hV2 h K
    have hou := ho.m
    have hobu := hob.m
    have hb := (hob.sh hX).1
    have k2 := hV2.2.2.2.2.1
    have h16 := hV2.2.2.2.2.2.2.2.2.1
    have h161 := hV1.2.2.2.2.2.2.2.2.1
    obtain ⟨S1, g1, f1⟩ := c_itemChanges d ho hob hX hV1 hV2 hl (show k < L2.length by omega)
    have X1 := f1.XC hX
    have rr := r136_a hX (show l < 16 by omega)
    have ss := s136_a X1 (show l < 16 by omega)
    have F2 : xFl (fun i k' => i = 137 + l ∧ k' = k) S1 (xSI S1 (137 + l) k (nI (xlc t1 L1 t2 L2 l k))) := (xFl.rf S1).SI ⟨rfl, rfl⟩
    have FF : xFl (fun i _ => i = 171 ∨ (137 ≤ i ∧ i ≤ 152)) S (xSI S1 (137 + l) k (nI (xlc t1 L1 t2 L2 l k))) := (f1.mono (fun i k h => Or.inl h)).tt (F2.mono (fun i k h => Or.inr (by omega)))
    refine wp_iload dX0_weighLines_19 rfl (wp_aload_n dX0_weighLines_21 rfl rfl (gv0_38 dX0_weighLines_22 hb k2 ?_))
    refine wn_icmp_ge dX0_weighLines_25 rfl (by omega) (by omega) (fun c25 => absurd c25 (by omega)) (fun c25 => ?_)
    refine wp_iload dX0_weighLines_28 rfl (wp_bipush (v := nI 16) dX0_weighLines_30 rfl ?_)
    refine wn_icmp_ge dX0_weighLines_32 rfl (by omega) (by omega) (fun c32 => absurd c32 (by omega)) (fun c32 => ?_)
    refine wp_aload_n dX0_weighLines_35 rfl rfl (g0_22 dX0_weighLines_36 (xsh hX sh_133) (xrr hX r133_2) (wp_iload_n dX0_weighLines_39 rfl (wn_aaload dX0_weighLines_40 (xsh hX sh_136) (Or.inr (Or.inr rfl)) (by omega) (by decide) rr (wp_iload dX0_weighLines_41 rfl (wp_aload_n dX0_weighLines_43 rfl rfl (wp_aload_n dX0_weighLines_44 rfl rfl (wp_iload_n dX0_weighLines_45 rfl (wp_aload_n dX0_weighLines_46 rfl rfl (wp_iload dX0_weighLines_47 rfl (wp_iv5 dX0_weighLines_49 k0_67 q_X0_itemChanges (by decide) (xsh hX sh_133) (by decide) (Nat.le_of_ble_eq_true rfl) g1 (wn_iastore dX0_weighLines_52 ss rfl (by omega) (by decide) (wp_iinc dX0_weighLines_53 rfl (nI_1 _) ⟨Nat.le_of_ble_eq_true rfl, Or.inr rfl⟩ rfl (wp_goto dX0_weighLines_56 rfl ?_)))))))))))))
    refine ih (k + 1) _ (by omega) X1 (hV1.fm (FF.m (R := fun _ _ => False)) (fun i k h => by omega)) (hV2.fm (FF.m (R := fun _ _ => False)) (fun i k h => by omega)) (fun p q hq => ?_) (fun S' y4 f h' => K S' y4 (FF.tt f) h')
    rcases Decidable.em (p = l ∧ q = k) with w | w
    · rw [w.1, w.2]; exact xI_same _ _ _ _
    · exact F2.i (f1.i (h p q (by omega)) (by omega)) (by omega)
theorem wl_out {a b n1 n2 : Nat} {t1 t2 : Nat → Nat} {L1 L2 : List xLn} {d : Nat} (ho : xRo a) (hob : xRo b) : ∀ (j l : Nat) (S : xS) (y4 : Value), l + j = L1.length → XC S → xRV a S n1 t1 L1 → xRV b S n2 t2 L2 → (∀ p q, p < l ∧ q < L2.length → S.2.1 (137 + p) q = nI (xlc t1 L1 t2 L2 p q)) → Wp false (d + 4) 0 cX0_weighLines none false 2 [.ref 133, .ref a, .ref b, .int (nI l), y4] [] S (fun r S' => r = none ∧ xFl (fun i _ => i = 171 ∨ (137 ≤ i ∧ i ≤ 152)) S S' ∧ (∀ p q, p < L1.length ∧ q < L2.length → S'.2.1 (137 + p) q = nI (xlc t1 L1 t2 L2 p q))) := by
  intro j
  induction j with
  | zero =>
    intro l S y4 hl hX hV1 hV2 h
    have ha := (ho.sh hX).1
    have k1 := hV1.2.2.2.2.1
    have h16 := hV1.2.2.2.2.2.2.2.2.1
    have hll : l = L1.length := by omega
    subst hll
    refine wp_iload_n dX0_weighLines_2 rfl (wp_aload_n dX0_weighLines_3 rfl rfl (gv0_38 dX0_weighLines_4 ha k1 ?_))
    refine wn_icmp_ge dX0_weighLines_7 rfl (by omega) (by omega) (fun c7 => ?_) (fun c7 => absurd c7 (by omega))
    exact wp_return dX0_weighLines_65 rfl ⟨rfl, xFl.rf S, h⟩
  | succ j ih =>
    intro l S y4 hl hX hV1 hV2 h
    have hou := ho.m
    have hobu := hob.m
    have ha := (ho.sh hX).1
    have k1 := hV1.2.2.2.2.1
    have h16 := hV1.2.2.2.2.2.2.2.2.1
    refine wp_iload_n dX0_weighLines_2 rfl (wp_aload_n dX0_weighLines_3 rfl rfl (gv0_38 dX0_weighLines_4 ha k1 ?_))
    refine wn_icmp_ge dX0_weighLines_7 rfl (by omega) (by omega) (fun c7 => absurd c7 (by omega)) (fun c7 => ?_)
    refine wp_iload_n dX0_weighLines_10 rfl (wp_bipush (v := nI 16) dX0_weighLines_11 rfl ?_)
    refine wn_icmp_ge dX0_weighLines_13 rfl (by omega) (by omega) (fun c13 => absurd c13 (by omega)) (fun c13 => ?_)
    refine wp_iconst (v := nI 0) dX0_weighLines_16 rfl (wp_istore dX0_weighLines_17 ⟨Nat.le_of_ble_eq_true rfl, Or.inr rfl⟩ rfl ?_)
    refine wl_in ho hob (show l < L1.length by omega) L2.length 0 S (Nat.zero_add _) hX hV1 hV2 (fun p q hq => h p q (by omega)) (fun S1 y4 f1 h1 => ?_)
    have X1 := f1.XC hX
    refine wp_iinc dX0_weighLines_59 rfl (nI_1 _) ⟨Nat.le_of_ble_eq_true rfl, Or.inr rfl⟩ rfl (wp_goto dX0_weighLines_62 rfl ?_)
    refine (ih (l + 1) S1 _ (by omega) X1 (hV1.fm (f1.m (R := fun _ _ => False)) (fun i k h => by omega)) (hV2.fm (f1.m (R := fun _ _ => False)) (fun i k h => by omega)) h1).mono ?_
    rintro r S' ⟨z1, z2, z3⟩
    exact ⟨z1, f1.tt z2, z3⟩
theorem c_weighLines {a b n1 n2 : Nat} {t1 t2 : Nat → Nat} {L1 L2 : List xLn} (d : Nat) (ho : xRo a) (hob : xRo b) {S : xS} (hX : XC S) (hV1 : xRV a S n1 t1 L1) (hV2 : xRV b S n2 t2 L2) : ∃ S', xcall false (d + 4) j_X0_weighLines [.ref 133, .ref a, .ref b] S none S' ∧ xFl (fun i _ => i = 171 ∨ (137 ≤ i ∧ i ≤ 152)) S S' ∧ (∀ p q, p < L1.length ∧ q < L2.length → S'.2.1 (137 + p) q = nI (xlc t1 L1 t2 L2 p q)) := by
  have key : ∃ r S', xcall false (d + 4) j_X0_weighLines [.ref 133, .ref a, .ref b] S r S' ∧ (r = none ∧ xFl (fun i _ => i = 171 ∨ (137 ≤ i ∧ i ≤ 152)) S S' ∧ (∀ p q, p < L1.length ∧ q < L2.length → S'.2.1 (137 + p) q = nI (xlc t1 L1 t2 L2 p q))) := by
    refine xcall_some (ls := [.ref 133, .ref a, .ref b, .float 0, .float 0]) q_X0_weighLines (by decide) rfl (Nat.le_of_ble_eq_true rfl) rfl ?_
    exact wp_iconst (v := nI 0) dX0_weighLines_0 rfl (wp_istore_n dX0_weighLines_1 ⟨Nat.le_of_ble_eq_true rfl, Or.inr rfl⟩ rfl (wl_out ho hob L1.length 0 S _ (Nat.zero_add _) hX hV1 hV2 (fun p q hq => absurd hq.1 (Nat.not_lt_zero p))))
  obtain ⟨r, S', g, rfl, z⟩ := key
  exact ⟨S', g, z⟩
