/-! mixed of the class: takeLeast, weighParts -/
theorem r172_a {S : xS} (hX : XC S) {i : Nat} (hi : i < 6) : S.2.2.1 172 i = some (173 + i) := by
  rcases (show i = 0 ∨ i = 1 ∨ i = 2 ∨ i = 3 ∨ i = 4 ∨ i = 5 by omega) with rfl | rfl | rfl | rfl | rfl | rfl
  · exact xrr hX r172_0
  · exact xrr hX r172_1
  · exact xrr hX r172_2
  · exact xrr hX r172_3
  · exact xrr hX r172_4
  · exact xrr hX r172_5
theorem r179_a {S : xS} (hX : XC S) {i : Nat} (hi : i < 6) : S.2.2.1 179 i = some (180 + i) := by
  rcases (show i = 0 ∨ i = 1 ∨ i = 2 ∨ i = 3 ∨ i = 4 ∨ i = 5 by omega) with rfl | rfl | rfl | rfl | rfl | rfl
  · exact xrr hX r179_0
  · exact xrr hX r179_1
  · exact xrr hX r179_2
  · exact xrr hX r179_3
  · exact xrr hX r179_4
  · exact xrr hX r179_5
theorem s172_a {S : xS} (hX : XC S) {i : Nat} (hi : i < 6) : S.1[173 + i]? = some (20, 17) := by
  rcases (show i = 0 ∨ i = 1 ∨ i = 2 ∨ i = 3 ∨ i = 4 ∨ i = 5 by omega) with rfl | rfl | rfl | rfl | rfl | rfl
  · exact xsh hX sh_173
  · exact xsh hX sh_174
  · exact xsh hX sh_175
  · exact xsh hX sh_176
  · exact xsh hX sh_177
  · exact xsh hX sh_178
theorem s179_a {S : xS} (hX : XC S) {i : Nat} (hi : i < 6) : S.1[180 + i]? = some (20, 17) := by
  rcases (show i = 0 ∨ i = 1 ∨ i = 2 ∨ i = 3 ∨ i = 4 ∨ i = 5 by omega) with rfl | rfl | rfl | rfl | rfl | rfl
  · exact xsh hX sh_180
  · exact xsh hX sh_181
  · exact xsh hX sh_182
  · exact xsh hX sh_183
  · exact xsh hX sh_184
  · exact xsh hX sh_185
theorem c_sumForward {a b n1 n2 : Nat} {t1 t2 : Nat → Nat} {L1 L2 : List xLn} (d : Nat) (ho : xRo a) (hob : xRo b) {S : xS} (hX : XC S) (hV1 : xRV a S n1 t1 L1) (hV2 : xRV b S n2 t2 L2) (hC : (∀ p q, p < L1.length ∧ q < L2.length → S.2.1 (137 + p) q = nI (xlc t1 L1 t2 L2 p q))) : ∃ S', xcall false (d + 2) j_X0_sumForward [.ref 133, .ref a, .ref b] S none S' ∧ xFl (fun i _ => 154 ≤ i ∧ i ≤ 170) S S' ∧ (∀ p q, p ≤ L1.length ∧ q ≤ L2.length → S'.2.1 (154 + p) q = nI (xchs t1 L1 t2 L2 p q)) := by
  obtain ⟨r, S2, g2, rfl, f2, z2⟩ := xcall_some (al := false) (d := d + 2) (ls := [.ref 133, .ref a, .ref b, .float 0, .float 0, .float 0]) (S := S) (as := [.ref 133, .ref a, .ref b]) q_X0_sumForward (by decide) rfl (Nat.le_of_ble_eq_true rfl) rfl
    (P := fun r S' => r = none ∧ xFl (fun i _ => 154 ≤ i ∧ i ≤ 170) S S' ∧ (∀ p q, p ≤ L1.length ∧ q ≤ L2.length → S'.2.1 (154 + p) q = nI (xchs t1 L1 t2 L2 p q))) (by
      exact wp_iconst (v := nI 0) dX0_sumForward_0 rfl (wp_istore_n dX0_sumForward_1 ⟨Nat.le_of_ble_eq_true rfl, Or.inr rfl⟩ rfl (sf_out (d := d) ho hob (L1.length + 1) 0 S _ _ (Nat.zero_add _) hX hV1 hV2 hC (fun p q hq => absurd hq.1 (Nat.not_lt_zero p)))))
  exact ⟨S2, g2, f2, z2⟩
theorem tl_in {a b c : Nat} {V : Nat → Nat → Nat} {m n i d : Nat} (hm : m ≤ 16) (hi : i ≤ n) (hn : n ≤ 16) (hv : ∀ p q, V p q ≤ 1000000) (hc1 : 173 ≤ c) (hac : a < 100) {Q : Option Value → xS → Prop} : ∀ (r j : Nat) (S : xS), j + r = m → XC S → S.1[c]? = some (20, 17) → S.1[a]? = some (3, 15) → S.2.1 a 7 = nI m → (∀ p q, p ≤ m → q ≤ n → S.2.1 (154 + p) q = nI (V p q)) → S.2.1 c i = nI (xmn (fun j => V j i) j) → (∀ S' y5, xFl (fun i' k' => i' = c ∧ k' = i) S S' → S'.2.1 c i = nI (xmn (fun j => V j i) m) → Wp false (d + 1) 0 cX0_takeLeast none false 78 [.ref 133, .ref a, .ref b, .ref c, .int (nI i), y5] [] S' Q) → Wp false (d + 1) 0 cX0_takeLeast none false 35 [.ref 133, .ref a, .ref b, .ref c, .int (nI i), .int (nI (j + 1))] [] S Q := by
  intro r
  induction r with
  | zero =>
    intro j S hj hX hc ha k1 hQ h K
    have hjj : j = m := by omega
    subst hjj
    refine wp_iload dX0_takeLeast_35 rfl (wp_aload_n dX0_takeLeast_37 rfl rfl (gv0_38 dX0_takeLeast_38 ha k1 ?_))
    refine wn_icmp_gt dX0_takeLeast_41 rfl (by omega) (by omega) (fun c41 => ?_) (fun c41 => absurd c41 (by omega))
    exact K S _ (xFl.rf S) h
  | succ r ih =>
    intro j S hj hX hc ha k1 hQ h K
    have rr := r153_a hX (show j + 1 < 17 by omega)
    have s1 := s153_a hX (show j + 1 < 17 by omega)
    have e := hQ (j + 1) i (by omega) hi
    have bv := hv (j + 1) i
    have bm : (xmn (fun j => V j i) j) ≤ 1000000 := Nat.le_trans (xmn_le (fun j => V j i) j 0 (Nat.zero_le _)) (hv 0 i)
    have F0 : xFl (fun i' k' => i' = c ∧ k' = i) S (xSI S c i (nI (xmn (fun j => V j i) (j + 1)))) := (xFl.rf S).SI ⟨rfl, rfl⟩
    refine wp_iload dX0_takeLeast_35 rfl (wp_aload_n dX0_takeLeast_37 rfl rfl (gv0_38 dX0_takeLeast_38 ha k1 ?_))
    refine wn_icmp_gt dX0_takeLeast_41 rfl (by omega) (by omega) (fun c41 => absurd c41 (by omega)) (fun c41 => ?_)
    refine wp_iload dX0_takeLeast_44 rfl (wp_bipush (v := nI 16) dX0_takeLeast_46 rfl ?_)
    refine wn_icmp_gt dX0_takeLeast_48 rfl (by omega) (by omega) (fun c48 => absurd c48 (by omega)) (fun c48 => ?_)
    exact wp_aload_n dX0_takeLeast_51 rfl rfl (wp_iload dX0_takeLeast_52 rfl (wp_aload_n dX0_takeLeast_54 rfl rfl (wp_iload dX0_takeLeast_55 rfl (wn_iaload dX0_takeLeast_57 hc rfl (by omega) (by decide) h (wp_aload_n dX0_takeLeast_58 rfl rfl (g0_25 dX0_takeLeast_59 (xsh hX sh_133) (xrr hX r133_3) (wp_iload dX0_takeLeast_62 rfl (wn_aaload dX0_takeLeast_64 (xsh hX sh_153) (Or.inr (Or.inr rfl)) (by omega) (by decide) rr (wp_iload dX0_takeLeast_65 rfl (wn_iaload dX0_takeLeast_67 s1 rfl (by omega) (by decide) e (wn_min dX0_takeLeast_68 k0_42 (Nat.le_of_ble_eq_true rfl) (by omega) (by omega) rfl (wn_iastore dX0_takeLeast_71 hc rfl (by omega) (by decide) (wp_iinc dX0_takeLeast_72 rfl (nI_1 _) ⟨Nat.le_of_ble_eq_true rfl, Or.inr rfl⟩ rfl (wp_goto dX0_takeLeast_75 rfl (ih (j + 1) _ (by omega) hX hc ha (F0.i k1 (by omega)) (fun p q hp hq => F0.i (hQ p q hp hq) (by omega)) (xI_same _ _ _ _) (fun S' y5 f h' => K S' y5 (F0.tt f) h'))))))))))))))))
theorem tl_out {a b c : Nat} {V : Nat → Nat → Nat} {m n d : Nat} (hm : m ≤ 16) (hn : n ≤ 16) (hv : ∀ p q, V p q ≤ 1000000) (hc1 : 173 ≤ c) (hac : a < 100) (hbc : b < 100) : ∀ (r i : Nat) (S : xS) (y5 : Value), i + r = n + 1 → XC S → S.1[c]? = some (20, 17) → S.1[a]? = some (3, 15) → S.2.1 a 7 = nI m → S.1[b]? = some (3, 15) → S.2.1 b 7 = nI n → (∀ p q, p ≤ m → q ≤ n → S.2.1 (154 + p) q = nI (V p q)) → (∀ q, q < i → S.2.1 c q = nI (xmn (fun j => V j q) m)) → Wp false (d + 1) 0 cX0_takeLeast none false 3 [.ref 133, .ref a, .ref b, .ref c, .int (nI i), y5] [] S (fun r S' => r = none ∧ xFl (fun i' _ => i' = c) S S' ∧ ∀ q, q ≤ n → S'.2.1 c q = nI (xmn (fun j => V j q) m)) := by
  intro r
  induction r with
  | zero =>
    intro i S y5 hi hX hc ha k1 hb k2 hQ h
    have hii : i = n + 1 := by omega
    subst hii
    refine wp_iload dX0_takeLeast_3 rfl (wp_aload_n dX0_takeLeast_5 rfl rfl (gv0_38 dX0_takeLeast_6 hb k2 ?_))
    refine wn_icmp_gt dX0_takeLeast_9 rfl (by omega) (by omega) (fun c9 => ?_) (fun c9 => absurd c9 (by omega))
    exact wp_return dX0_takeLeast_84 rfl ⟨rfl, xFl.rf S, fun q hq => h q (by omega)⟩
  | succ r ih =>
    intro i S y5 hi hX hc ha k1 hb k2 hQ h
    have rr := xrr hX r153_0
    have s1 : S.1[154]? = some (20, 17) := xsh hX sh_154
    have e : S.2.1 154 i = nI (V 0 i) := hQ 0 i (by omega) (by omega)
    have F0 : xFl (fun i' k' => i' = c ∧ k' = i) S (xSI S c i (nI (V 0 i))) := (xFl.rf S).SI ⟨rfl, rfl⟩
    refine wp_iload dX0_takeLeast_3 rfl (wp_aload_n dX0_takeLeast_5 rfl rfl (gv0_38 dX0_takeLeast_6 hb k2 ?_))
    refine wn_icmp_gt dX0_takeLeast_9 rfl (by omega) (by omega) (fun c9 => absurd c9 (by omega)) (fun c9 => ?_)
    refine wp_iload dX0_takeLeast_12 rfl (wp_aload_n dX0_takeLeast_14 rfl rfl (wp_alen (v := nI 17) dX0_takeLeast_15 hc ⟨by decide, by decide⟩ rfl ?_))
    refine wn_icmp_ge dX0_takeLeast_16 rfl (by omega) (by omega) (fun c16 => absurd c16 (by omega)) (fun c16 => ?_)
    refine wp_aload_n dX0_takeLeast_19 rfl rfl (wp_iload dX0_takeLeast_20 rfl (wp_aload_n dX0_takeLeast_22 rfl rfl (g0_25 dX0_takeLeast_23 (xsh hX sh_133) (xrr hX r133_3) (wp_iconst (v := nI 0) dX0_takeLeast_26 rfl (wn_aaload dX0_takeLeast_27 (xsh hX sh_153) (Or.inr (Or.inr rfl)) (by omega) (by decide) rr (wp_iload dX0_takeLeast_28 rfl (wn_iaload dX0_takeLeast_30 (xsh hX sh_154) rfl (by omega) (by decide) e (wn_iastore dX0_takeLeast_31 hc rfl (by omega) (by decide) (wp_iconst (v := nI 1) dX0_takeLeast_32 rfl (wp_istore dX0_takeLeast_33 ⟨Nat.le_of_ble_eq_true rfl, Or.inr rfl⟩ rfl ?_))))))))))
    refine tl_in hm (show i ≤ n by omega) hn hv hc1 hac m 0 _ (Nat.zero_add _) hX hc ha (F0.i k1 (by omega)) (fun p q hp hq => F0.i (hQ p q hp hq) (by omega)) (xI_same _ _ _ _) (fun S1 y5 f1 h1 => ?_)
    have F1 := F0.tt f1
    have X1 := F1.XC hX
    refine wp_iinc dX0_takeLeast_78 rfl (nI_1 _) ⟨Nat.le_of_ble_eq_true rfl, Or.inr rfl⟩ rfl (wp_goto dX0_takeLeast_81 rfl ?_)
    refine (ih (i + 1) S1 _ (by omega) X1 (F1.sh hc) (F1.sh ha) (F1.i k1 (by omega)) (F1.sh hb) (F1.i k2 (by omega)) (fun p q hp hq => F1.i (hQ p q hp hq) (by omega)) (fun q hq => ?_)).mono ?_
    · rcases Nat.lt_or_ge q i with w | w
      · exact F1.i (h q w) (by omega)
      · rw [show q = i by omega]; exact h1
    rintro r S' ⟨z1, z2, z3⟩
    exact ⟨z1, (F1.mono (fun i k h => h.1)).tt z2, z3⟩
theorem c_takeLeast {a b c : Nat} {V : Nat → Nat → Nat} {m n : Nat} (d : Nat) (ho : xRo a) (hob : xRo b) (hm : m ≤ 16) (hn : n ≤ 16) (hv : ∀ p q, V p q ≤ 1000000) (hc1 : 173 ≤ c) {S : xS} (hX : XC S) (hc : S.1[c]? = some (20, 17)) (k1 : S.2.1 a 7 = nI m) (k2 : S.2.1 b 7 = nI n) (hQ : (∀ p q, p ≤ m → q ≤ n → S.2.1 (154 + p) q = nI (V p q))) : ∃ S', xcall false (d + 1) j_X0_takeLeast [.ref 133, .ref a, .ref b, .ref c] S none S' ∧ xFl (fun i' _ => i' = c) S S' ∧ ∀ q, q ≤ n → S'.2.1 c q = nI (xmn (fun j => V j q) m) := by
  have hou := ho.m
  have hobu := hob.m
  have ha := (ho.sh hX).1
  have hb := (hob.sh hX).1
  obtain ⟨r, S', g, rfl, z⟩ := xcall_some (al := false) (d := d + 1) (ls := [.ref 133, .ref a, .ref b, .ref c, .float 0, .float 0]) (S := S) (as := [.ref 133, .ref a, .ref b, .ref c]) q_X0_takeLeast (by decide) rfl (Nat.le_of_ble_eq_true rfl) rfl
    (P := fun r S' => r = none ∧ xFl (fun i' _ => i' = c) S S' ∧ ∀ q, q ≤ n → S'.2.1 c q = nI (xmn (fun j => V j q) m)) (by
      exact wp_iconst (v := nI 0) dX0_takeLeast_0 rfl (wp_istore dX0_takeLeast_1 ⟨Nat.le_of_ble_eq_true rfl, Or.inr rfl⟩ rfl (tl_out hm hn hv hc1 (by omega) (by omega) (n + 1) 0 S _ (Nat.zero_add _) hX hc ha k1 hb k2 hQ (fun q hq => absurd hq (Nat.not_lt_zero q)))))
  exact ⟨S', g, z⟩
theorem c_weighParts {a b n1 n2 : Nat} {t1 t2 : Nat → Nat} {L1 L2 : List xLn} {s : Nat} (hs : s < 6) (d : Nat) (ho : xRo a) (hob : xRo b) {S : xS} (hX : XC S) (hV1 : xRV a S n1 t1 L1) (hV2 : xRV b S n2 t2 L2) : ∃ S', xcall false (d + 5) j_X0_weighParts [.ref 133, .int (nI s), .ref a, .ref b] S none S' ∧ xFl (fun i _ => i = 171 ∨ (137 ≤ i ∧ i ≤ 152) ∨ (154 ≤ i ∧ i ≤ 170) ∨ i = 173 + s ∨ i = 180 + s) S S' ∧ (∀ i, i ≤ L2.length → S'.2.1 (173 + s) i = nI (xah t1 L1 t2 L2 i) ∧ S'.2.1 (180 + s) i = nI (xbh t1 L1 t2 L2 (L2.length - i))) := by
  have hou := ho.m
  have hobu := hob.m
  have h16 := hV1.2.2.2.2.2.2.2.2.1
  have h162 := hV2.2.2.2.2.2.2.2.2.1
  have gs := c_isSlot (nI s) (d + 4) S
  rw [xsl_n (by omega), decide_eq_true hs] at gs
  obtain ⟨S1, g1, f1, c1⟩ := c_weighLines d ho hob hX hV1 hV2
  have X1 := f1.XC hX
  have V1 := hV1.fm (f1.m (R := fun _ _ => False)) (fun i k h => by omega)
  have V2 := hV2.fm (f1.m (R := fun _ _ => False)) (fun i k h => by omega)
  obtain ⟨S2, g2, f2, c2⟩ := c_sumForward (d + 2) ho hob X1 V1 V2 c1
  have X2 := f2.XC X1
  have U1 := V1.fm (f2.m (R := fun _ _ => False)) (fun i k h => by omega)
  have U2 := V2.fm (f2.m (R := fun _ _ => False)) (fun i k h => by omega)
  have c12 : (∀ p q, p < L1.length ∧ q < L2.length → S2.2.1 (137 + p) q = nI (xlc t1 L1 t2 L2 p q)) := fun p q hq => f2.i (c1 p q hq) (by omega)
  obtain ⟨S3, g3, f3, c3⟩ := c_takeLeast (c := 173 + s) (V := fun p q => xchs t1 L1 t2 L2 p q) (d + 3) ho hob h16 h162 (fun p q => xfs_le _ _ _ _ _) (by omega) X2 (s172_a X2 hs) U1.2.2.2.2.1 U2.2.2.2.2.1 (fun p q hp hq => c2 p q ⟨hp, hq⟩)
  have X3 := f3.XC X2
  have W1 := U1.fm (f3.m (R := fun _ _ => False)) (fun i k h => by omega)
  have W2 := U2.fm (f3.m (R := fun _ _ => False)) (fun i k h => by omega)
  have c13 : (∀ p q, p < L1.length ∧ q < L2.length → S3.2.1 (137 + p) q = nI (xlc t1 L1 t2 L2 p q)) := fun p q hq => f3.i (c12 p q hq) (by omega)
  obtain ⟨S4, g4, f4, c4⟩ := c_sumBackward (d + 2) ho hob X3 W1 W2 c13
  have X4 := f4.XC X3
  have Y1 := W1.fm (f4.m (R := fun _ _ => False)) (fun i k h => by omega)
  have Y2 := W2.fm (f4.m (R := fun _ _ => False)) (fun i k h => by omega)
  obtain ⟨S5, g5, f5, c5⟩ := c_takeLeast (c := 180 + s) (V := fun p q => xsb true t1 L1 t2 L2 (L1.length - p) (L2.length - q)) (d + 3) ho hob h16 h162 (fun p q => xsb_le _ _ _ _ _ _ _) (by omega) X4 (s179_a X4 hs) Y1.2.2.2.2.1 Y2.2.2.2.2.1 (fun p q hp hq => c4 p q hp hq trivial)
  have ra := r172_a X2 hs
  have rb := r179_a X4 hs
  refine ⟨S5, ?_, (((((f1.mono (fun i k h => by omega)).tt (f2.mono (fun i k h => by omega))).tt (f3.mono (fun i k h => by omega))).tt (f4.mono (fun i k h => by omega))).tt (f5.mono (fun i k h => by omega))), fun i hi => ⟨f5.i (f4.i (c3 i hi) (by omega)) (by omega), ?_⟩⟩
  · refine xcall_intro (ls := [.ref 133, .int (nI s), .ref a, .ref b]) q_X0_weighParts (by decide) rfl (Nat.le_of_ble_eq_true rfl) rfl ?_
    refine wp_iload_n dX0_weighParts_0 rfl (wp_is1 dX0_weighParts_1 k0_82 q_X11_isSlot (by decide) (Nat.le_of_ble_eq_true rfl) gs ?_)
    refine wb_if_ne dX0_weighParts_4 rfl (fun c4 => ?_) (fun c4 => absurd c4 (by decide))
    exact wp_aload_n dX0_weighParts_8 rfl rfl (wp_aload_n dX0_weighParts_9 rfl rfl (wp_aload_n dX0_weighParts_10 rfl rfl (wp_iv3 dX0_weighParts_11 k0_60 q_X0_weighLines (by decide) (xsh hX sh_133) (by decide) (Nat.le_of_ble_eq_true rfl) g1 (wp_aload_n dX0_weighParts_14 rfl rfl (wp_aload_n dX0_weighParts_15 rfl rfl (wp_aload_n dX0_weighParts_16 rfl rfl (wp_iv3 dX0_weighParts_17 k0_64 q_X0_sumForward (by decide) (xsh X1 sh_133) (by decide) (Nat.le_of_ble_eq_true rfl) g2 (wp_aload_n dX0_weighParts_20 rfl rfl (wp_aload_n dX0_weighParts_21 rfl rfl (wp_aload_n dX0_weighParts_22 rfl rfl (wp_aload_n dX0_weighParts_23 rfl rfl (g0_32 dX0_weighParts_24 (xsh X2 sh_133) (xrr X2 r133_5) (wp_iload_n dX0_weighParts_27 rfl (wn_aaload dX0_weighParts_28 (xsh X2 sh_172) (Or.inr (Or.inr rfl)) (by omega) (by decide) ra (wp_iv4 dX0_weighParts_29 k0_86 q_X0_takeLeast (by decide) (xsh X2 sh_133) (by decide) (Nat.le_of_ble_eq_true rfl) g3 (wp_aload_n dX0_weighParts_32 rfl rfl (wp_aload_n dX0_weighParts_33 rfl rfl (wp_aload_n dX0_weighParts_34 rfl rfl (wp_iv3 dX0_weighParts_35 k0_90 q_X0_sumBackward (by decide) (xsh X3 sh_133) (by decide) (Nat.le_of_ble_eq_true rfl) g4 (wp_aload_n dX0_weighParts_38 rfl rfl (wp_aload_n dX0_weighParts_39 rfl rfl (wp_aload_n dX0_weighParts_40 rfl rfl (wp_aload_n dX0_weighParts_41 rfl rfl (g0_35 dX0_weighParts_42 (xsh X4 sh_133) (xrr X4 r133_6) (wp_iload_n dX0_weighParts_45 rfl (wn_aaload dX0_weighParts_46 (xsh X4 sh_179) (Or.inr (Or.inr rfl)) (by omega) (by decide) rb (wp_iv4 dX0_weighParts_47 k0_86 q_X0_takeLeast (by decide) (xsh X4 sh_133) (by decide) (Nat.le_of_ble_eq_true rfl) g5 (wp_return dX0_weighParts_50 rfl ⟨rfl, rfl⟩))))))))))))))))))))))))))))
  · rw [c5 i hi]
    congr 1
    exact xmn_rev (fun j => xsb true t1 L1 t2 L2 j (L2.length - i)) L1.length
