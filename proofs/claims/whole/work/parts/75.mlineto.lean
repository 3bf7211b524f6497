/-! CHANGES: lineTo of the reference -/
theorem lt_a {x1 x2 x3 x4 x5 : Value} {w d : Nat} (hw : w ≤ 120) {Q : Option Value → xS → Prop} : ∀ (r j : Nat) (S : xS) (y8 : Value), j + r = w + 1 → XC S → (∀ q, q < j → S.2.1 222 q = nI q) → (∀ S' y7, xFl (fun i _ => i = 222) S S' → (∀ q, q ≤ w → S'.2.1 222 q = nI q) → Wp false (d + 1) 11 cX12_lineTo (some .int) false 42 [.ref 187, x1, x2, x3, x4, x5, .int (nI w), y7, y8] [] S' Q) → Wp false (d + 1) 11 cX12_lineTo (some .int) false 20 [.ref 187, x1, x2, x3, x4, x5, .int (nI w), .int (nI j), y8] [] S Q := by
  intro r
  induction r with
  | zero =>
    intro j S y8 hj hX h K
    have hjj : j = w + 1 := by omega
    subst hjj
    refine wp_iload dX12_lineTo_20 rfl (wp_iload dX12_lineTo_22 rfl ?_)
    refine wn_icmp_gt dX12_lineTo_24 rfl (by omega) (by omega) (fun c24 => ?_) (fun c24 => absurd c24 (by omega))
    exact K S _ (xFl.rf S) (fun q hq => h q (by omega))
  | succ r ih =>
    intro j S y8 hj hX h K
    refine wp_iload dX12_lineTo_20 rfl (wp_iload dX12_lineTo_22 rfl ?_)
    refine wn_icmp_gt dX12_lineTo_24 rfl (by omega) (by omega) (fun c24 => absurd c24 (by omega)) (fun c24 => ?_)
    refine wp_aload_n dX12_lineTo_27 rfl rfl (g11_361 dX12_lineTo_28 (xsh hX sh_187) (xrr hX r187_75) (wp_iload dX12_lineTo_31 rfl (wp_iload dX12_lineTo_33 rfl (wn_iastore dX12_lineTo_35 (xsh hX sh_222) rfl (by omega) (by decide) (wp_iinc dX12_lineTo_36 rfl (nI_1 _) ⟨Nat.le_of_ble_eq_true rfl, Or.inr rfl⟩ rfl (wp_goto dX12_lineTo_39 rfl ?_))))))
    have F0 : xFl (fun i' k' => i' = 222 ∧ k' = j) S (xSI S 222 j (nI j)) := (xFl.rf S).SI ⟨rfl, rfl⟩
    refine ih (j + 1) _ y8 (by omega) hX (fun q hq => ?_) (fun S' y7 f h' => K S' y7 ((F0.mono (fun i k h => h.1)).tt f) h')
    rcases Nat.lt_or_ge q j with w | w
    · exact F0.i (h q w) (by omega)
    · rw [show q = j by omega]; exact xI_same _ _ _ _
theorem lt_c {x1 x2 x3 x4 x5 : Value} {x7 : Int32} {w d : Nat} {g : Nat → Nat} (hw : w ≤ 120) {Q : Option Value → xS → Prop} : ∀ (r j : Nat) (S : xS), j + r = w + 1 → XC S → (∀ q, q < j → S.2.1 222 q = nI (g q)) → (∀ q, q ≤ w → S.2.1 223 q = nI (g q)) → (∀ S' y8, xFl (fun i _ => i = 222) S S' → (∀ q, q ≤ w → S'.2.1 222 q = nI (g q)) → Wp false (d + 1) 11 cX12_lineTo (some .int) false 171 [.ref 187, x1, x2, x3, x4, x5, .int (nI w), .int x7, y8] [] S' Q) → Wp false (d + 1) 11 cX12_lineTo (some .int) false 144 [.ref 187, x1, x2, x3, x4, x5, .int (nI w), .int x7, .int (nI j)] [] S Q := by
  intro r
  induction r with
  | zero =>
    intro j S hj hX h h3 K
    have hjj : j = w + 1 := by omega
    subst hjj
    refine wp_iload dX12_lineTo_144 rfl (wp_iload dX12_lineTo_146 rfl ?_)
    refine wn_icmp_gt dX12_lineTo_148 rfl (by omega) (by omega) (fun c148 => ?_) (fun c148 => absurd c148 (by omega))
    exact K S _ (xFl.rf S) (fun q hq => h q (by omega))
  | succ r ih =>
    intro j S hj hX h h3 K
    have hg := h3 j (by omega)
    refine wp_iload dX12_lineTo_144 rfl (wp_iload dX12_lineTo_146 rfl ?_)
    refine wn_icmp_gt dX12_lineTo_148 rfl (by omega) (by omega) (fun c148 => absurd c148 (by omega)) (fun c148 => ?_)
    refine wp_aload_n dX12_lineTo_151 rfl rfl (g11_361 dX12_lineTo_152 (xsh hX sh_187) (xrr hX r187_75) (wp_iload dX12_lineTo_155 rfl (wp_aload_n dX12_lineTo_157 rfl rfl (g11_364 dX12_lineTo_158 (xsh hX sh_187) (xrr hX r187_76) (wp_iload dX12_lineTo_161 rfl (wn_iaload dX12_lineTo_163 (xsh hX sh_223) rfl (by omega) (by decide) hg (wn_iastore dX12_lineTo_164 (xsh hX sh_222) rfl (by omega) (by decide) (wp_iinc dX12_lineTo_165 rfl (nI_1 _) ⟨Nat.le_of_ble_eq_true rfl, Or.inr rfl⟩ rfl (wp_goto dX12_lineTo_168 rfl ?_)))))))))
    have F0 : xFl (fun i' k' => i' = 222 ∧ k' = j) S (xSI S 222 j (nI (g j))) := (xFl.rf S).SI ⟨rfl, rfl⟩
    refine ih (j + 1) _ (by omega) hX (fun q hq => ?_) (fun q hq => F0.i (h3 q hq) (by omega)) (fun S' y8 f h' => K S' y8 ((F0.mono (fun i k h => h.1)).tt f) h')
    rcases Nat.lt_or_ge q j with w | w
    · exact F0.i (h q w) (by omega)
    · rw [show q = j by omega]; exact xI_same _ _ _ _
theorem lt_b {n1 n2 s1 s2 : Nat} {t1 t2 : Nat → Nat} {L1 L2 : List xLn} {n w l m : Nat} {d : Nat} (hs1 : s1 < 6) (hs2 : s2 < 6) (ok1 : xRok t1 n1 L1) (ok2 : xRok t2 n2 L2) (hn1 : n1 ≤ 240) (hn2 : n2 ≤ 240) (hm1 : (L1.flatMap xmit).length ≤ 121) (hm2 : (L2.flatMap xmit).length ≤ 121) (h161 : L1.length ≤ 16) (h162 : L2.length ≤ 16) (hl : l < L1.length) (hm : m < L2.length) (en : n = (xcI (L1.getD l (0, 0, []))).length) (ew : w = (xcI (L2.getD m (0, 0, []))).length) (bn : n ≤ 120) (bw : w ≤ 120) {Q : Option Value → xS → Prop} {i : Nat} (hi : i < n) : ∀ (r j : Nat) (S : xS), (j + 1) + r = w + 1 → XC S → xRM s1 S n1 t1 L1 → xRM s2 S n2 t2 L2 → (∀ q, q ≤ w → S.2.1 222 q = nI (xlv (fun p q => xsmi t1 ((xcI (L1.getD l (0, 0, []))).getD p (0, 0, 0)) t2 ((xcI (L2.getD m (0, 0, []))).getD q (0, 0, 0))) i q)) → (∀ q, q < j + 1 → S.2.1 223 q = nI (xlv (fun p q => xsmi t1 ((xcI (L1.getD l (0, 0, []))).getD p (0, 0, 0)) t2 ((xcI (L2.getD m (0, 0, []))).getD q (0, 0, 0))) (i + 1) q)) → (∀ S' y8, xFl (fun i _ => i = 223) S S' → (∀ q, q ≤ w → S'.2.1 223 q = nI (xlv (fun p q => xsmi t1 ((xcI (L1.getD l (0, 0, []))).getD p (0, 0, 0)) t2 ((xcI (L2.getD m (0, 0, []))).getD q (0, 0, 0))) (i + 1) q)) → Wp false (d + 1) 11 cX12_lineTo (some .int) false 141 [.ref 187, .int (nI s1), .int (nI l), .int (nI s2), .int (nI m), .int (nI n), .int (nI w), .int (nI (i + 1)), y8] [] S' Q) → Wp false (d + 1) 11 cX12_lineTo (some .int) false 63 [.ref 187, .int (nI s1), .int (nI l), .int (nI s2), .int (nI m), .int (nI n), .int (nI w), .int (nI (i + 1)), .int (nI (j + 1))] [] S Q := by
  intro r
  induction r with
  | zero =>
    intro j S hj hX hM1 hM2 h2 h3 K
    have hjj : j = w := by omega
    subst hjj
    refine wp_iload dX12_lineTo_63 rfl (wp_iload dX12_lineTo_65 rfl ?_)
    refine wn_icmp_gt dX12_lineTo_67 rfl (by omega) (by omega) (fun c67 => ?_) (fun c67 => absurd c67 (by omega))
    exact K S _ (xFl.rf S) (fun q hq => h3 q (by omega))
  | succ r ih =>
    intro j S hj hX hM1 hM2 h2 h3 K
    have a1 := h2 (j + 1) (by omega)
    have a2 := h3 j (by omega)
    have a3 := h2 j (by omega)
    have v1 := xlv_b (fun p q => xsmi t1 ((xcI (L1.getD l (0, 0, []))).getD p (0, 0, 0)) t2 ((xcI (L2.getD m (0, 0, []))).getD q (0, 0, 0))) i (j + 1)
    have v2 := xlv_b (fun p q => xsmi t1 ((xcI (L1.getD l (0, 0, []))).getD p (0, 0, 0)) t2 ((xcI (L2.getD m (0, 0, []))).getD q (0, 0, 0))) (i + 1) j
    have v3 := xlv_b (fun p q => xsmi t1 ((xcI (L1.getD l (0, 0, []))).getD p (0, 0, 0)) t2 ((xcI (L2.getD m (0, 0, []))).getD q (0, 0, 0))) i j
    have e := xlv_ss (fun p q => xsmi t1 ((xcI (L1.getD l (0, 0, []))).getD p (0, 0, 0)) t2 ((xcI (L2.getD m (0, 0, []))).getD q (0, 0, 0))) i j
    have gs := m_isSame (i := i) (j := j) (d + 0) hs1 hs2 ok1 ok2 hn1 hn2 hm1 hm2 h161 h162 hX hM1 hM2 hl hm (by omega) (by omega)
    have F0 : xFl (fun i' k' => i' = 223 ∧ k' = j + 1) S (xSI S 223 (j + 1) (nI (xlv (fun p q => xsmi t1 ((xcI (L1.getD l (0, 0, []))).getD p (0, 0, 0)) t2 ((xcI (L2.getD m (0, 0, []))).getD q (0, 0, 0))) (i + 1) (j + 1)))) := (xFl.rf S).SI ⟨rfl, rfl⟩
    have nx : Wp false (d + 1) 11 cX12_lineTo (some .int) false 63 [.ref 187, .int (nI s1), .int (nI l), .int (nI s2), .int (nI m), .int (nI n), .int (nI w), .int (nI (i + 1)), .int (nI (j + 1 + 1))] [] (xSI S 223 (j + 1) (nI (xlv (fun p q => xsmi t1 ((xcI (L1.getD l (0, 0, []))).getD p (0, 0, 0)) t2 ((xcI (L2.getD m (0, 0, []))).getD q (0, 0, 0))) (i + 1) (j + 1)))) Q := by
      refine ih (j + 1) _ (by omega) hX (hM1.fr F0 (fun i k h => by omega)) (hM2.fr F0 (fun i k h => by omega)) (fun q hq => F0.i (h2 q hq) (by omega)) (fun q hq => ?_) (fun S' y8 f h' => K S' y8 ((F0.mono (fun i k h => h.1)).tt f) h')
      rcases Nat.lt_or_ge q (j + 1) with w | w
      · exact F0.i (h3 q w) (by omega)
      · rw [show q = j + 1 by omega]; exact xI_same _ _ _ _
    cases hb : xsmi t1 ((xcI (L1.getD l (0, 0, []))).getD i (0, 0, 0)) t2 ((xcI (L2.getD m (0, 0, []))).getD j (0, 0, 0)) with
    | true =>
      rw [hb] at gs e
      have gl := m_least (S := S) (xlv (fun p q => xsmi t1 ((xcI (L1.getD l (0, 0, []))).getD p (0, 0, 0)) t2 ((xcI (L2.getD m (0, 0, []))).getD q (0, 0, 0))) i (j + 1) + 1) (xlv (fun p q => xsmi t1 ((xcI (L1.getD l (0, 0, []))).getD p (0, 0, 0)) t2 ((xcI (L2.getD m (0, 0, []))).getD q (0, 0, 0))) (i + 1) j + 1) (xlv (fun p q => xsmi t1 ((xcI (L1.getD l (0, 0, []))).getD p (0, 0, 0)) t2 ((xcI (L2.getD m (0, 0, []))).getD q (0, 0, 0))) i j + 0) (d + 0) (by omega) (by omega) (by omega)
      rw [show min (min (xlv (fun p q => xsmi t1 ((xcI (L1.getD l (0, 0, []))).getD p (0, 0, 0)) t2 ((xcI (L2.getD m (0, 0, []))).getD q (0, 0, 0))) i (j + 1) + 1) (xlv (fun p q => xsmi t1 ((xcI (L1.getD l (0, 0, []))).getD p (0, 0, 0)) t2 ((xcI (L2.getD m (0, 0, []))).getD q (0, 0, 0))) (i + 1) j + 1)) (xlv (fun p q => xsmi t1 ((xcI (L1.getD l (0, 0, []))).getD p (0, 0, 0)) t2 ((xcI (L2.getD m (0, 0, []))).getD q (0, 0, 0))) i j + 0) = xlv (fun p q => xsmi t1 ((xcI (L1.getD l (0, 0, []))).getD p (0, 0, 0)) t2 ((xcI (L2.getD m (0, 0, []))).getD q (0, 0, 0))) (i + 1) (j + 1) by rw [e, if_pos rfl]; omega] at gl
      refine wp_iload dX12_lineTo_63 rfl (wp_iload dX12_lineTo_65 rfl ?_)
      refine wn_icmp_gt dX12_lineTo_67 rfl (by omega) (by omega) (fun c67 => absurd c67 (by omega)) (fun c67 => ?_)
      refine wp_aload_n dX12_lineTo_70 rfl rfl (g11_364 dX12_lineTo_71 (xsh hX sh_187) (xrr hX r187_76) (wp_iload dX12_lineTo_74 rfl (wp_aload_n dX12_lineTo_76 rfl rfl (g11_361 dX12_lineTo_77 (xsh hX sh_187) (xrr hX r187_75) (wp_iload dX12_lineTo_80 rfl (wn_iaload dX12_lineTo_82 (xsh hX sh_222) rfl (by omega) (by decide) a1 (wp_iconst (v := nI 1) dX12_lineTo_83 rfl (wv_iadd dX12_lineTo_84 (nI_add _ _) (wp_aload_n dX12_lineTo_85 rfl rfl (g11_364 dX12_lineTo_86 (xsh hX sh_187) (xrr hX r187_76) (wp_iload dX12_lineTo_89 rfl (wp_iconst (v := nI 1) dX12_lineTo_91 rfl (wv_isub dX12_lineTo_92 (pk_sub (by omega)) (wn_iaload dX12_lineTo_93 (xsh hX sh_223) rfl (by omega) (by decide) a2 (wp_iconst (v := nI 1) dX12_lineTo_94 rfl (wv_iadd dX12_lineTo_95 (nI_add _ _) (wp_aload_n dX12_lineTo_96 rfl rfl (g11_361 dX12_lineTo_97 (xsh hX sh_187) (xrr hX r187_75) (wp_iload dX12_lineTo_100 rfl (wp_iconst (v := nI 1) dX12_lineTo_102 rfl (wv_isub dX12_lineTo_103 (pk_sub (by omega)) (wn_iaload dX12_lineTo_104 (xsh hX sh_222) rfl (by omega) (by decide) a3 (wp_aload_n dX12_lineTo_105 rfl rfl (wp_iload_n dX12_lineTo_106 rfl (wp_iload_n dX12_lineTo_107 rfl (wp_iload dX12_lineTo_108 rfl (wp_iconst (v := nI 1) dX12_lineTo_110 rfl (wv_isub dX12_lineTo_111 (pk_sub (by omega)) (wp_iload_n dX12_lineTo_112 rfl (wp_iload dX12_lineTo_113 rfl (wp_iload dX12_lineTo_115 rfl (wp_iconst (v := nI 1) dX12_lineTo_117 rfl (wv_isub dX12_lineTo_118 (pk_sub (by omega)) (wp_iv7 dX12_lineTo_119 k11_530 q_X12_isSame (by decide) (xsh hX sh_187) (by decide) (Nat.le_of_ble_eq_true rfl) gs ?_))))))))))))))))))))))))))))))))))
      refine wb_if_eq dX12_lineTo_122 rfl (fun c122 => absurd c122 (by decide)) (fun c122 => ?_)
      exact wp_iconst (v := nI 0) dX12_lineTo_125 rfl (wp_goto dX12_lineTo_126 rfl (wv_iadd dX12_lineTo_130 (nI_add _ _) (wp_is3 dX12_lineTo_131 k11_534 q_X12_least (by decide) (Nat.le_of_ble_eq_true rfl) gl (wn_iastore dX12_lineTo_134 (xsh hX sh_223) rfl (by omega) (by decide) (wp_iinc dX12_lineTo_135 rfl (nI_1 _) ⟨Nat.le_of_ble_eq_true rfl, Or.inr rfl⟩ rfl (wp_goto dX12_lineTo_138 rfl nx))))))
    | false =>
      rw [hb] at gs e
      have gl := m_least (S := S) (xlv (fun p q => xsmi t1 ((xcI (L1.getD l (0, 0, []))).getD p (0, 0, 0)) t2 ((xcI (L2.getD m (0, 0, []))).getD q (0, 0, 0))) i (j + 1) + 1) (xlv (fun p q => xsmi t1 ((xcI (L1.getD l (0, 0, []))).getD p (0, 0, 0)) t2 ((xcI (L2.getD m (0, 0, []))).getD q (0, 0, 0))) (i + 1) j + 1) (xlv (fun p q => xsmi t1 ((xcI (L1.getD l (0, 0, []))).getD p (0, 0, 0)) t2 ((xcI (L2.getD m (0, 0, []))).getD q (0, 0, 0))) i j + 1) (d + 0) (by omega) (by omega) (by omega)
      rw [show min (min (xlv (fun p q => xsmi t1 ((xcI (L1.getD l (0, 0, []))).getD p (0, 0, 0)) t2 ((xcI (L2.getD m (0, 0, []))).getD q (0, 0, 0))) i (j + 1) + 1) (xlv (fun p q => xsmi t1 ((xcI (L1.getD l (0, 0, []))).getD p (0, 0, 0)) t2 ((xcI (L2.getD m (0, 0, []))).getD q (0, 0, 0))) (i + 1) j + 1)) (xlv (fun p q => xsmi t1 ((xcI (L1.getD l (0, 0, []))).getD p (0, 0, 0)) t2 ((xcI (L2.getD m (0, 0, []))).getD q (0, 0, 0))) i j + 1) = xlv (fun p q => xsmi t1 ((xcI (L1.getD l (0, 0, []))).getD p (0, 0, 0)) t2 ((xcI (L2.getD m (0, 0, []))).getD q (0, 0, 0))) (i + 1) (j + 1) by rw [e, if_neg (by decide)]; omega] at gl
      refine wp_iload dX12_lineTo_63 rfl (wp_iload dX12_lineTo_65 rfl ?_)
      refine wn_icmp_gt dX12_lineTo_67 rfl (by omega) (by omega) (fun c67 => absurd c67 (by omega)) (fun c67 => ?_)
      refine wp_aload_n dX12_lineTo_70 rfl rfl (g11_364 dX12_lineTo_71 (xsh hX sh_187) (xrr hX r187_76) (wp_iload dX12_lineTo_74 rfl (wp_aload_n dX12_lineTo_76 rfl rfl (g11_361 dX12_lineTo_77 (xsh hX sh_187) (xrr hX r187_75) (wp_iload dX12_lineTo_80 rfl (wn_iaload dX12_lineTo_82 (xsh hX sh_222) rfl (by omega) (by decide) a1 (wp_iconst (v := nI 1) dX12_lineTo_83 rfl (wv_iadd dX12_lineTo_84 (nI_add _ _) (wp_aload_n dX12_lineTo_85 rfl rfl (g11_364 dX12_lineTo_86 (xsh hX sh_187) (xrr hX r187_76) (wp_iload dX12_lineTo_89 rfl (wp_iconst (v := nI 1) dX12_lineTo_91 rfl (wv_isub dX12_lineTo_92 (pk_sub (by omega)) (wn_iaload dX12_lineTo_93 (xsh hX sh_223) rfl (by omega) (by decide) a2 (wp_iconst (v := nI 1) dX12_lineTo_94 rfl (wv_iadd dX12_lineTo_95 (nI_add _ _) (wp_aload_n dX12_lineTo_96 rfl rfl (g11_361 dX12_lineTo_97 (xsh hX sh_187) (xrr hX r187_75) (wp_iload dX12_lineTo_100 rfl (wp_iconst (v := nI 1) dX12_lineTo_102 rfl (wv_isub dX12_lineTo_103 (pk_sub (by omega)) (wn_iaload dX12_lineTo_104 (xsh hX sh_222) rfl (by omega) (by decide) a3 (wp_aload_n dX12_lineTo_105 rfl rfl (wp_iload_n dX12_lineTo_106 rfl (wp_iload_n dX12_lineTo_107 rfl (wp_iload dX12_lineTo_108 rfl (wp_iconst (v := nI 1) dX12_lineTo_110 rfl (wv_isub dX12_lineTo_111 (pk_sub (by omega)) (wp_iload_n dX12_lineTo_112 rfl (wp_iload dX12_lineTo_113 rfl (wp_iload dX12_lineTo_115 rfl (wp_iconst (v := nI 1) dX12_lineTo_117 rfl (wv_isub dX12_lineTo_118 (pk_sub (by omega)) (wp_iv7 dX12_lineTo_119 k11_530 q_X12_isSame (by decide) (xsh hX sh_187) (by decide) (Nat.le_of_ble_eq_true rfl) gs ?_))))))))))))))))))))))))))))))))))
      refine wb_if_eq dX12_lineTo_122 rfl (fun c122 => ?_) (fun c122 => absurd c122 (by decide))
      exact wp_iconst (v := nI 1) dX12_lineTo_129 rfl (wv_iadd dX12_lineTo_130 (nI_add _ _) (wp_is3 dX12_lineTo_131 k11_534 q_X12_least (by decide) (Nat.le_of_ble_eq_true rfl) gl (wn_iastore dX12_lineTo_134 (xsh hX sh_223) rfl (by omega) (by decide) (wp_iinc dX12_lineTo_135 rfl (nI_1 _) ⟨Nat.le_of_ble_eq_true rfl, Or.inr rfl⟩ rfl (wp_goto dX12_lineTo_138 rfl nx)))))
theorem lt_out {n1 n2 s1 s2 : Nat} {t1 t2 : Nat → Nat} {L1 L2 : List xLn} {n w l m : Nat} {d : Nat} (hs1 : s1 < 6) (hs2 : s2 < 6) (ok1 : xRok t1 n1 L1) (ok2 : xRok t2 n2 L2) (hn1 : n1 ≤ 240) (hn2 : n2 ≤ 240) (hm1 : (L1.flatMap xmit).length ≤ 121) (hm2 : (L2.flatMap xmit).length ≤ 121) (h161 : L1.length ≤ 16) (h162 : L2.length ≤ 16) (hl : l < L1.length) (hm : m < L2.length) (en : n = (xcI (L1.getD l (0, 0, []))).length) (ew : w = (xcI (L2.getD m (0, 0, []))).length) (bn : n ≤ 120) (bw : w ≤ 120) : ∀ (r i : Nat) (S : xS) (y8 : Value), i + r = n → XC S → xRM s1 S n1 t1 L1 → xRM s2 S n2 t2 L2 → (∀ q, q ≤ w → S.2.1 222 q = nI (xlv (fun p q => xsmi t1 ((xcI (L1.getD l (0, 0, []))).getD p (0, 0, 0)) t2 ((xcI (L2.getD m (0, 0, []))).getD q (0, 0, 0))) i q)) → Wp false (d + 1) 11 cX12_lineTo (some .int) false 45 [.ref 187, .int (nI s1), .int (nI l), .int (nI s2), .int (nI m), .int (nI n), .int (nI w), .int (nI (i + 1)), y8] [] S (fun r S' => r = some (.int (nI (xlv (fun p q => xsmi t1 ((xcI (L1.getD l (0, 0, []))).getD p (0, 0, 0)) t2 ((xcI (L2.getD m (0, 0, []))).getD q (0, 0, 0))) n w))) ∧ xFl (fun i _ => i = 222 ∨ i = 223) S S') := by
  intro r
  induction r with
  | zero =>
    intro i S y8 hi hX hM1 hM2 h2
    have hii : i = n := by omega
    subst hii
    have a1 := h2 w (Nat.le_refl _)
    refine wp_iload dX12_lineTo_45 rfl (wp_iload dX12_lineTo_47 rfl ?_)
    refine wn_icmp_gt dX12_lineTo_49 rfl (by omega) (by omega) (fun c49 => ?_) (fun c49 => absurd c49 (by omega))
    exact wp_aload_n dX12_lineTo_177 rfl rfl (g11_361 dX12_lineTo_178 (xsh hX sh_187) (xrr hX r187_75) (wp_iload dX12_lineTo_181 rfl (wn_iaload dX12_lineTo_183 (xsh hX sh_222) rfl (by omega) (by decide) a1 (wp_ireturn dX12_lineTo_184 rfl rfl ⟨rfl, xFl.rf S⟩))))
  | succ r ih =>
    intro i S y8 hi hX hM1 hM2 h2
    have F0 : xFl (fun i' k' => i' = 223 ∧ k' = 0) S (xSI S 223 0 (nI (i + 1))) := (xFl.rf S).SI ⟨rfl, rfl⟩
    refine wp_iload dX12_lineTo_45 rfl (wp_iload dX12_lineTo_47 rfl ?_)
    refine wn_icmp_gt dX12_lineTo_49 rfl (by omega) (by omega) (fun c49 => absurd c49 (by omega)) (fun c49 => ?_)
    refine wp_aload_n dX12_lineTo_52 rfl rfl (g11_364 dX12_lineTo_53 (xsh hX sh_187) (xrr hX r187_76) (wp_iconst (v := nI 0) dX12_lineTo_56 rfl (wp_iload dX12_lineTo_57 rfl (wn_iastore dX12_lineTo_59 (xsh hX sh_223) rfl (by omega) (by decide) (wp_iconst (v := nI 1) dX12_lineTo_60 rfl (wp_istore dX12_lineTo_61 ⟨Nat.le_of_ble_eq_true rfl, Or.inr rfl⟩ rfl ?_))))))
    refine lt_b hs1 hs2 ok1 ok2 hn1 hn2 hm1 hm2 h161 h162 hl hm en ew bn bw (show i < n by omega) w 0 _ (by omega) hX (hM1.fr F0 (fun i k h => by omega)) (hM2.fr F0 (fun i k h => by omega)) (fun q hq => F0.i (h2 q hq) (by omega)) (fun q hq => ?_) (fun S1 y8 f1 h1 => ?_)
    · rw [show q = 0 by omega, xlv_s0]; exact xI_same _ _ _ _
    have F1 := (F0.mono (fun i k h => h.1)).tt f1
    have X1 := F1.XC hX
    refine wp_iconst (v := nI 0) dX12_lineTo_141 rfl (wp_istore dX12_lineTo_142 ⟨Nat.le_of_ble_eq_true rfl, Or.inr rfl⟩ rfl ?_)
    refine lt_c bw (w + 1) 0 S1 (Nat.zero_add _) X1 (fun q hq => absurd hq (Nat.not_lt_zero q)) h1 (fun S2 y8 f2 h2' => ?_)
    have F2 : xFl (fun i _ => i = 222 ∨ i = 223) S S2 := (F1.mono (fun i k h => Or.inr h)).tt (f2.mono (fun i k h => Or.inl h))
    refine wp_iinc dX12_lineTo_171 rfl (nI_1 _) ⟨Nat.le_of_ble_eq_true rfl, Or.inr rfl⟩ rfl (wp_goto dX12_lineTo_174 rfl ?_)
    refine (ih (i + 1) S2 _ (by omega) (F2.XC hX) (hM1.fr F2 (fun i k h => by omega)) (hM2.fr F2 (fun i k h => by omega)) h2').mono ?_
    rintro r S' ⟨z1, z2⟩
    exact ⟨z1, F2.tt z2⟩
theorem m_lineTo {n1 n2 s1 s2 : Nat} {t1 t2 : Nat → Nat} {L1 L2 : List xLn} {l m : Nat} (d : Nat) (hs1 : s1 < 6) (hs2 : s2 < 6) (ok1 : xRok t1 n1 L1) (ok2 : xRok t2 n2 L2) (hn1 : n1 ≤ 240) (hn2 : n2 ≤ 240) (hm1 : (L1.flatMap xmit).length ≤ 121) (hm2 : (L2.flatMap xmit).length ≤ 121) (h161 : L1.length ≤ 16) (h162 : L2.length ≤ 16) {S : xS} (hX : XC S) (hM1 : xRM s1 S n1 t1 L1) (hM2 : xRM s2 S n2 t2 L2) (hl : l < L1.length) (hm : m < L2.length) : ∃ S', xcall false (d + 1) j_X12_lineTo [.ref 187, .int (nI s1), .int (nI l), .int (nI s2), .int (nI m)] S (some (.int (nI (xlc t1 L1 t2 L2 l m)))) S' ∧ xFl (fun i _ => i = 222 ∨ i = 223) S S' := by
  have g1 := m_itemsOf (d + 0) hs1 hX hM1 ok1 hm1 hl h161
  have g2 := m_itemsOf (d + 0) hs2 hX hM2 ok2 hm2 hm h162
  have b1 := xln_le ok1 hn1 hl
  have b2 := xln_le ok2 hn2 hm
  have key : ∃ r S', xcall false (d + 1) j_X12_lineTo [.ref 187, .int (nI s1), .int (nI l), .int (nI s2), .int (nI m)] S r S' ∧ (r = some (.int (nI (xlc t1 L1 t2 L2 l m))) ∧ xFl (fun i _ => i = 222 ∨ i = 223) S S') := by
    refine xcall_some (ls := [.ref 187, .int (nI s1), .int (nI l), .int (nI s2), .int (nI m), .float 0, .float 0, .float 0, .float 0]) q_X12_lineTo (by decide) rfl (Nat.le_of_ble_eq_true rfl) rfl ?_
    refine wp_aload_n dX12_lineTo_0 rfl rfl (wp_iload_n dX12_lineTo_1 rfl (wp_iload_n dX12_lineTo_2 rfl (wp_iv3 dX12_lineTo_3 k11_527 q_X12_itemsOf (by decide) (xsh hX sh_187) (by decide) (Nat.le_of_ble_eq_true rfl) g1 (wp_istore dX12_lineTo_6 ⟨Nat.le_of_ble_eq_true rfl, Or.inr rfl⟩ rfl (wp_aload_n dX12_lineTo_8 rfl rfl (wp_iload_n dX12_lineTo_9 rfl (wp_iload dX12_lineTo_10 rfl (wp_iv3 dX12_lineTo_12 k11_527 q_X12_itemsOf (by decide) (xsh hX sh_187) (by decide) (Nat.le_of_ble_eq_true rfl) g2 (wp_istore dX12_lineTo_15 ⟨Nat.le_of_ble_eq_true rfl, Or.inr rfl⟩ rfl (wp_iconst (v := nI 0) dX12_lineTo_17 rfl (wp_istore dX12_lineTo_18 ⟨Nat.le_of_ble_eq_true rfl, Or.inr rfl⟩ rfl ?_)))))))))))
    refine lt_a b2 _ 0 S _ (Nat.zero_add _) hX (fun q hq => absurd hq (Nat.not_lt_zero q)) (fun S1 y7 f1 h1 => ?_)
    have X1 := f1.XC hX
    refine wp_iconst (v := nI 1) dX12_lineTo_42 rfl (wp_istore dX12_lineTo_43 ⟨Nat.le_of_ble_eq_true rfl, Or.inr rfl⟩ rfl ?_)
    refine (lt_out hs1 hs2 ok1 ok2 hn1 hn2 hm1 hm2 h161 h162 hl hm rfl rfl b1 b2 (xln L1 l) 0 S1 _ (Nat.zero_add _) X1 (hM1.fr f1 (fun i k h => by omega)) (hM2.fr f1 (fun i k h => by omega)) (fun q hq => by rw [xlv_0]; exact h1 q hq)).mono ?_
    rintro r S' ⟨z1, z2⟩
    exact ⟨z1, (f1.mono (fun i k h => Or.inl h)).tt z2⟩
  obtain ⟨r, S', g, rfl, z⟩ := key
  exact ⟨S', g, z⟩
