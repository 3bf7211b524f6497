/-! alike, the calls -/
theorem c_alike_no1 {sv tv : Int32} {r2 : Value} (hr2 : xisref r2 = true) (d : Nat) {S : xS} (hX : XC S) (g1 : xcall false (d + 4) j_X11_rhymeIn [.ref 0, .int sv] S (some .null) S) (g2 : xcall false (d + 4) j_X11_rhymeIn [.ref 0, .int tv] S (some r2) S) : xcall false (d + 5) j_X11_alike [.ref 0, .int sv, .int tv] S (some (.int (-1))) S := by
  refine xcall_intro (ls := [.ref 0, .int sv, .int tv, .float 0, .float 0]) q_X11_alike (by decide) rfl (Nat.le_of_ble_eq_true rfl) rfl ?_
  exact wp_aload_n dX11_alike_0 rfl rfl (wp_iload_n dX11_alike_1 rfl (wp_iv2 dX11_alike_2 k10_155 q_X11_rhymeIn (by decide) (xsh hX sh_0) (by decide) (Nat.le_of_ble_eq_true rfl) g1 (wp_astore_n dX11_alike_5 rfl ⟨Nat.le_of_ble_eq_true rfl, Or.inr rfl⟩ rfl (wp_aload_n dX11_alike_6 rfl rfl (wp_iload_n dX11_alike_7 rfl (wp_iv2 dX11_alike_8 k10_155 q_X11_rhymeIn (by decide) (xsh hX sh_0) (by decide) (Nat.le_of_ble_eq_true rfl) g2 (wp_astore dX11_alike_11 hr2 ⟨Nat.le_of_ble_eq_true rfl, Or.inr rfl⟩ rfl (wp_aload_n dX11_alike_13 rfl rfl (wp_ifnull_N dX11_alike_14 rfl (wp_iconst (v := -1) dX11_alike_22 rfl (wp_goto dX11_alike_23 rfl (wp_ireturn dX11_alike_40 rfl rfl ⟨rfl, rfl⟩))))))))))))
theorem c_alike_no2 {sv tv : Int32} {a : Nat} (d : Nat) {S : xS} (hX : XC S) (g1 : xcall false (d + 4) j_X11_rhymeIn [.ref 0, .int sv] S (some (.ref a)) S) (g2 : xcall false (d + 4) j_X11_rhymeIn [.ref 0, .int tv] S (some .null) S) : xcall false (d + 5) j_X11_alike [.ref 0, .int sv, .int tv] S (some (.int (-1))) S := by
  refine xcall_intro (ls := [.ref 0, .int sv, .int tv, .float 0, .float 0]) q_X11_alike (by decide) rfl (Nat.le_of_ble_eq_true rfl) rfl ?_
  exact wp_aload_n dX11_alike_0 rfl rfl (wp_iload_n dX11_alike_1 rfl (wp_iv2 dX11_alike_2 k10_155 q_X11_rhymeIn (by decide) (xsh hX sh_0) (by decide) (Nat.le_of_ble_eq_true rfl) g1 (wp_astore_n dX11_alike_5 rfl ⟨Nat.le_of_ble_eq_true rfl, Or.inr rfl⟩ rfl (wp_aload_n dX11_alike_6 rfl rfl (wp_iload_n dX11_alike_7 rfl (wp_iv2 dX11_alike_8 k10_155 q_X11_rhymeIn (by decide) (xsh hX sh_0) (by decide) (Nat.le_of_ble_eq_true rfl) g2 (wp_astore dX11_alike_11 rfl ⟨Nat.le_of_ble_eq_true rfl, Or.inr rfl⟩ rfl (wp_aload_n dX11_alike_13 rfl rfl (wp_ifnull_R dX11_alike_14 rfl (wp_aload dX11_alike_17 rfl rfl (wp_ifnonnull_N dX11_alike_19 rfl (wp_iconst (v := -1) dX11_alike_22 rfl (wp_goto dX11_alike_23 rfl (wp_ireturn dX11_alike_40 rfl rfl ⟨rfl, rfl⟩))))))))))))))
theorem c_alike {sv tv : Int32} {a b n1 n2 ta tb tc : Nat} {t1 t2 : Nat → Nat} {L1 L2 : List xLn} {v : xTg} (d : Nat) (ho : xRo a) (hob : xRo b) (htg : xTgC ta tb tc) {S : xS} (hX : XC S) (hV1 : xRV a S n1 t1 L1) (hB1 : xRB a S v t1 L1) (hV2 : xRV b S n2 t2 L2) (hB2 : xRB b S v t2 L2) (hT : xTgV ta tb tc S v) (hrt : S.2.2.1 0 2 = some ta) (g1 : xcall false (d + 4) j_X11_rhymeIn [.ref 0, .int sv] S (some (.ref a)) S) (g2 : xcall false (d + 4) j_X11_rhymeIn [.ref 0, .int tv] S (some (.ref b)) S) : ∃ S', xcall false (d + 5) j_X11_alike [.ref 0, .int sv, .int tv] S (some (.int (nI (xlks v t1 t2 L1 L2 (min L1.length L2.length) 0)))) S' ∧ xFl (fun i _ => i = 134 ∨ i = 135) S S' := by
  obtain ⟨S1, g3, f1⟩ := c_likeLines d ho hob htg hX hV1 hB1 hV2 hB2 hT
  refine ⟨S1, ?_, f1⟩
  refine xcall_intro (ls := [.ref 0, .int sv, .int tv, .float 0, .float 0]) q_X11_alike (by decide) rfl (Nat.le_of_ble_eq_true rfl) rfl ?_
  exact wp_aload_n dX11_alike_0 rfl rfl (wp_iload_n dX11_alike_1 rfl (wp_iv2 dX11_alike_2 k10_155 q_X11_rhymeIn (by decide) (xsh hX sh_0) (by decide) (Nat.le_of_ble_eq_true rfl) g1 (wp_astore_n dX11_alike_5 rfl ⟨Nat.le_of_ble_eq_true rfl, Or.inr rfl⟩ rfl (wp_aload_n dX11_alike_6 rfl rfl (wp_iload_n dX11_alike_7 rfl (wp_iv2 dX11_alike_8 k10_155 q_X11_rhymeIn (by decide) (xsh hX sh_0) (by decide) (Nat.le_of_ble_eq_true rfl) g2 (wp_astore dX11_alike_11 rfl ⟨Nat.le_of_ble_eq_true rfl, Or.inr rfl⟩ rfl (wp_aload_n dX11_alike_13 rfl rfl (wp_ifnull_R dX11_alike_14 rfl (wp_aload dX11_alike_17 rfl rfl (wp_ifnonnull_R dX11_alike_19 rfl (wp_aload_n dX11_alike_26 rfl rfl (g10_86 dX11_alike_27 (xsh hX sh_0) (xrr hX r0_16) (wp_aload_n dX11_alike_30 rfl rfl (wp_aload dX11_alike_31 rfl rfl (wp_aload_n dX11_alike_33 rfl rfl (g10_26 dX11_alike_34 (xsh hX sh_0) hrt (wp_iv4 dX11_alike_37 k10_194 q_X0_likeLines (by decide) (xsh hX sh_133) (by decide) (Nat.le_of_ble_eq_true rfl) g3 (wp_ireturn dX11_alike_40 rfl rfl ⟨rfl, rfl⟩)))))))))))))))))))
theorem m_alike_no1 {sv tv : Int32} (d : Nat) {S : xS} (hX : XC S) (g1 : xcall false (d + 4) j_X12_has [.ref 187, .int sv] (xSI S 187 0 (nI 0)) (some (.int (xB false))) (xSI S 187 0 (nI 0))) : xcall false (d + 5) j_X12_alike [.ref 187, .int sv, .int tv] S (some (.int (-1))) (xSI S 187 0 (nI 0)) := by
  refine xcall_intro (ls := [.ref 187, .int sv, .int tv, .float 0, .float 0, .float 0, .float 0]) q_X12_alike (by decide) rfl (Nat.le_of_ble_eq_true rfl) rfl ?_
  refine wp_aload_n dX12_alike_0 rfl rfl (wp_iconst (v := nI 0) dX12_alike_1 rfl (p11_1 dX12_alike_2 (xsh hX sh_187) (wp_aload_n dX12_alike_5 rfl rfl (wp_iload_n dX12_alike_6 rfl (wp_iv2 dX12_alike_7 k11_231 q_X12_has (by decide) (xsh hX sh_187) (by decide) (Nat.le_of_ble_eq_true rfl) g1 ?_)))))
  refine wb_if_eq dX12_alike_10 rfl (fun c10 => ?_) (fun c10 => absurd c10 (by decide))
  exact wp_iconst (v := -1) dX12_alike_21 rfl (wp_ireturn dX12_alike_22 rfl rfl ⟨rfl, rfl⟩)
theorem m_alike_no2 {sv tv : Int32} (d : Nat) {S : xS} (hX : XC S) (g1 : xcall false (d + 4) j_X12_has [.ref 187, .int sv] (xSI S 187 0 (nI 0)) (some (.int (xB true))) (xSI S 187 0 (nI 0))) (g2 : xcall false (d + 4) j_X12_has [.ref 187, .int tv] (xSI S 187 0 (nI 0)) (some (.int (xB false))) (xSI S 187 0 (nI 0))) : xcall false (d + 5) j_X12_alike [.ref 187, .int sv, .int tv] S (some (.int (-1))) (xSI S 187 0 (nI 0)) := by
  refine xcall_intro (ls := [.ref 187, .int sv, .int tv, .float 0, .float 0, .float 0, .float 0]) q_X12_alike (by decide) rfl (Nat.le_of_ble_eq_true rfl) rfl ?_
  refine wp_aload_n dX12_alike_0 rfl rfl (wp_iconst (v := nI 0) dX12_alike_1 rfl (p11_1 dX12_alike_2 (xsh hX sh_187) (wp_aload_n dX12_alike_5 rfl rfl (wp_iload_n dX12_alike_6 rfl (wp_iv2 dX12_alike_7 k11_231 q_X12_has (by decide) (xsh hX sh_187) (by decide) (Nat.le_of_ble_eq_true rfl) g1 ?_)))))
  refine wb_if_eq dX12_alike_10 rfl (fun c10 => absurd c10 (by decide)) (fun c10 => ?_)
  refine wp_aload_n dX12_alike_13 rfl rfl (wp_iload_n dX12_alike_14 rfl (wp_iv2 dX12_alike_15 k11_231 q_X12_has (by decide) (xsh hX sh_187) (by decide) (Nat.le_of_ble_eq_true rfl) g2 ?_))
  refine wb_if_ne dX12_alike_18 rfl (fun c18 => absurd c18 (by decide)) (fun c18 => ?_)
  exact wp_iconst (v := -1) dX12_alike_21 rfl (wp_ireturn dX12_alike_22 rfl rfl ⟨rfl, rfl⟩)
theorem am_cmp {d : Nat} {m1 m2 : List Nat} {x1 x2 x3 : Int32} {S : xS} {Q : Option Value → xS → Prop} (hX : XC S) (hl : m1.length = m2.length) (h240 : m1.length ≤ 240) (h1 : ∀ x ∈ m1, x ≤ 1) (h2 : ∀ x ∈ m2, x ≤ 1) (r1 : xrow S 207 m1) (r2 : xrow S 206 m2) (K : ∀ k, Wp false (d + 4) 11 cX12_alike (some .int) false 149 [.ref 187, .int x1, .int x2, .int x3, .int (nI m1.length), .int (xB (decide (m1 = m2))), .int (nI k)] [] S Q) : ∀ (j k : Nat), k + j = m1.length → (∀ q, q < k → m1.getD q 0 = m2.getD q 0) → Wp false (d + 4) 11 cX12_alike (some .int) false 107 [.ref 187, .int x1, .int x2, .int x3, .int (nI m1.length), .int (xB true), .int (nI k)] [] S Q := by
  intro j
  induction j with
  | zero =>
    intro k hk h
    have hkk : k = m1.length := by omega
    subst hkk
    have e := xeq_get hl h
    have kk := K m1.length
    rw [decide_eq_true e] at kk
    refine wp_iload dX12_alike_107 rfl (wp_iload dX12_alike_109 rfl ?_)
    refine wn_icmp_ge dX12_alike_111 rfl (by omega) (by omega) (fun c111 => ?_) (fun c111 => absurd c111 (by omega))
    exact kk
  | succ j ih =>
    intro k hk h
    have q1 := r1 k (by omega)
    have q2 := r2 k (by omega)
    have b1 := h1 _ (xmem_getD (d := 0) (show k < m1.length by omega))
    have b2 := h2 _ (xmem_getD (d := 0) (show k < m2.length by omega))
    rcases Decidable.em (m1.getD k 0 = m2.getD k 0) with e | e
    · refine wp_iload dX12_alike_107 rfl (wp_iload dX12_alike_109 rfl ?_)
      refine wn_icmp_ge dX12_alike_111 rfl (by omega) (by omega) (fun c111 => absurd c111 (by omega)) (fun c111 => ?_)
      refine wp_iload dX12_alike_114 rfl ?_
      refine wb_if_eq dX12_alike_116 rfl (fun c116 => absurd c116 (by decide)) (fun c116 => ?_)
      refine wp_aload_n dX12_alike_119 rfl rfl (g11_254 dX12_alike_120 (xsh hX sh_187) (xrr hX r187_44) (wp_iload dX12_alike_123 rfl (wn_baload dX12_alike_125 (xsh hX sh_207) (Or.inl rfl) (by omega) (by decide) q1 (wp_aload_n dX12_alike_126 rfl rfl (g11_257 dX12_alike_127 (xsh hX sh_187) (xrr hX r187_42) (wp_iload dX12_alike_130 rfl (wn_baload dX12_alike_132 (xsh hX sh_206) (Or.inl rfl) (by omega) (by decide) q2 ?_)))))))
      refine wn_icmp_ne dX12_alike_133 rfl (by omega) (by omega) (fun c133 => absurd c133 (by omega)) (fun c133 => ?_)
      refine wp_iconst (v := nI 1) dX12_alike_136 rfl (wp_goto dX12_alike_137 rfl (wp_istore dX12_alike_141 ⟨Nat.le_of_ble_eq_true rfl, Or.inr rfl⟩ rfl (wp_iinc dX12_alike_143 rfl (nI_1 _) ⟨Nat.le_of_ble_eq_true rfl, Or.inr rfl⟩ rfl (wp_goto dX12_alike_146 rfl ?_))))
      refine ih (k + 1) (by omega) (fun q hq => ?_)
      rcases Nat.lt_or_ge q k with w | w
      · exact h q w
      · rw [show q = k by omega]; exact e
    · have ne : m1 ≠ m2 := fun w => e (by rw [w])
      have kk := K (k + 1)
      rw [decide_eq_false ne] at kk
      have t107 : Wp false (d + 4) 11 cX12_alike (some .int) false 107 [.ref 187, .int x1, .int x2, .int x3, .int (nI m1.length), .int (xB false), .int (nI (k + 1))] [] S Q := by
        rcases Nat.lt_or_ge (k + 1) m1.length with w | w
        · refine wp_iload dX12_alike_107 rfl (wp_iload dX12_alike_109 rfl ?_)
          refine wn_icmp_ge dX12_alike_111 rfl (by omega) (by omega) (fun c111 => absurd c111 (by omega)) (fun c111 => ?_)
          refine wp_iload dX12_alike_114 rfl ?_
          refine wb_if_eq dX12_alike_116 rfl (fun c116 => ?_) (fun c116 => absurd c116 (by decide))
          exact kk
        · refine wp_iload dX12_alike_107 rfl (wp_iload dX12_alike_109 rfl ?_)
          refine wn_icmp_ge dX12_alike_111 rfl (by omega) (by omega) (fun c111 => ?_) (fun c111 => absurd c111 (by omega))
          exact kk
      refine wp_iload dX12_alike_107 rfl (wp_iload dX12_alike_109 rfl ?_)
      refine wn_icmp_ge dX12_alike_111 rfl (by omega) (by omega) (fun c111 => absurd c111 (by omega)) (fun c111 => ?_)
      refine wp_iload dX12_alike_114 rfl ?_
      refine wb_if_eq dX12_alike_116 rfl (fun c116 => absurd c116 (by decide)) (fun c116 => ?_)
      refine wp_aload_n dX12_alike_119 rfl rfl (g11_254 dX12_alike_120 (xsh hX sh_187) (xrr hX r187_44) (wp_iload dX12_alike_123 rfl (wn_baload dX12_alike_125 (xsh hX sh_207) (Or.inl rfl) (by omega) (by decide) q1 (wp_aload_n dX12_alike_126 rfl rfl (g11_257 dX12_alike_127 (xsh hX sh_187) (xrr hX r187_42) (wp_iload dX12_alike_130 rfl (wn_baload dX12_alike_132 (xsh hX sh_206) (Or.inl rfl) (by omega) (by decide) q2 ?_)))))))
      refine wn_icmp_ne dX12_alike_133 rfl (by omega) (by omega) (fun c133 => ?_) (fun c133 => absurd c133 (by omega))
      exact wp_iconst (v := nI 0) dX12_alike_140 rfl (wp_istore dX12_alike_141 ⟨Nat.le_of_ble_eq_true rfl, Or.inr rfl⟩ rfl (wp_iinc dX12_alike_143 rfl (nI_1 _) ⟨Nat.le_of_ble_eq_true rfl, Or.inr rfl⟩ rfl (wp_goto dX12_alike_146 rfl t107)))
theorem am_loop {n1 n2 s1 s2 : Nat} {t1 t2 : Nat → Nat} {L1 L2 : List xLn} {v : xTg} {d : Nat} (hs1 : s1 < 6) (hs2 : s2 < 6) (ok1 : xRok t1 n1 L1) (ok2 : xRok t2 n2 L2) (hn1 : n1 ≤ 240) (hn2 : n2 ≤ 240) (hm1 : (L1.flatMap xmit).length ≤ 121) (hm2 : (L2.flatMap xmit).length ≤ 121) (h161 : L1.length ≤ 16) (h162 : L2.length ≤ 16) : ∀ (j l : Nat) (S : xS) (y4 y5 y6 : Value), l + j = min L1.length L2.length → XC S → xRM s1 S n1 t1 L1 → xRM s2 S n2 t2 L2 → xTgM S v → Wp false (d + 4) 11 cX12_alike (some .int) false 25 [.ref 187, .int (nI s1), .int (nI s2), .int (nI l), y4, y5, y6] [] S (fun r S' => r = some (.int (nI (xlks v t1 t2 L1 L2 j l))) ∧ xFl (fun i _ => i = 206 ∨ i = 207) S S') := by
  intro j
  induction j with
  | zero =>
    intro l S y4 y5 y6 hl hX hM1 hM2 hT
    have k1 := hM1.2.2.2.2
    have k2 := hM2.2.2.2.2
    have e : xlks v t1 t2 L1 L2 0 l = l := rfl
    rw [e]
    rcases Nat.lt_or_ge l L1.length with w | w
    · refine wp_iload_n dX12_alike_25 rfl (wp_aload_n dX12_alike_26 rfl rfl (g11_222 dX12_alike_27 (xsh hX sh_187) (xrr hX r187_37) (wp_iload_n dX12_alike_30 rfl (wn_iaload dX12_alike_31 (xsh hX sh_203) rfl (by omega) (by decide) k1 ?_))))
      refine wn_icmp_ge dX12_alike_32 rfl (by omega) (by omega) (fun c32 => absurd c32 (by omega)) (fun c32 => ?_)
      refine wp_iload_n dX12_alike_35 rfl (wp_aload_n dX12_alike_36 rfl rfl (g11_222 dX12_alike_37 (xsh hX sh_187) (xrr hX r187_37) (wp_iload_n dX12_alike_40 rfl (wn_iaload dX12_alike_41 (xsh hX sh_203) rfl (by omega) (by decide) k2 ?_))))
      refine wn_icmp_ge dX12_alike_42 rfl (by omega) (by omega) (fun c42 => ?_) (fun c42 => absurd c42 (by omega))
      exact wp_iload_n dX12_alike_162 rfl (wp_ireturn dX12_alike_163 rfl rfl ⟨rfl, xFl.rf S⟩)
    · refine wp_iload_n dX12_alike_25 rfl (wp_aload_n dX12_alike_26 rfl rfl (g11_222 dX12_alike_27 (xsh hX sh_187) (xrr hX r187_37) (wp_iload_n dX12_alike_30 rfl (wn_iaload dX12_alike_31 (xsh hX sh_203) rfl (by omega) (by decide) k1 ?_))))
      refine wn_icmp_ge dX12_alike_32 rfl (by omega) (by omega) (fun c32 => ?_) (fun c32 => absurd c32 (by omega))
      exact wp_iload_n dX12_alike_162 rfl (wp_ireturn dX12_alike_163 rfl rfl ⟨rfl, xFl.rf S⟩)
  | succ j ih =>
    intro l S y4 y5 y6 hl hX hM1 hM2 hT
    have k1 := hM1.2.2.2.2
    have k2 := hM2.2.2.2.2
    have hl1 : l < L1.length := by omega
    have hl2 : l < L2.length := by omega
    obtain ⟨S1, g1, f1, r1⟩ := m_feetOf (r := 207) d (Or.inr (Or.inr rfl)) hs1 ok1 hn1 hm1 hl1 h161 hX hM1 hT
    have X1 := f1.XC hX
    have M11 := hM1.fr f1 (fun i k h => by omega)
    have M12 := hM2.fr f1 (fun i k h => by omega)
    have T1 : xTgM S1 v := hT.fr f1 (fun k h => by omega) (fun a k h => by omega)
    obtain ⟨S2, g2, f2, r2⟩ := m_feetOf (r := 206) d (Or.inr (Or.inl rfl)) hs2 ok2 hn2 hm2 hl2 h162 X1 M12 T1
    have X2 := f2.XC X1
    have M21 := M11.fr f2 (fun i k h => by omega)
    have M22 := M12.fr f2 (fun i k h => by omega)
    have T2 : xTgM S2 v := T1.fr f2 (fun k h => by omega) (fun a k h => by omega)
    have q1 : xrow S2 207 (xfeet v t1 (L1.getD l (0, 0, []))) := fun k hk => f2.i (r1 k hk) (by omega)
    have F2 : xFl (fun i _ => i = 206 ∨ i = 207) S S2 := (f1.mono (fun i k h => Or.inr h)).tt (f2.mono (fun i k h => Or.inl h))
    have n1l := xfeet_len (v := v) ok1 hl1
    have n2l := xfeet_len (v := v) ok2 hl2
    have tm1 := M21.2.2.2.1 l hl1
    have tm2 := M22.2.2.2.1 l hl2
    have w1 := (xRok_ln ok1 hl1).2.1
    have w2 := (xRok_ln ok2 hl2).2.1
    have t149 (b : Bool) (hb : b = xalk v t1 t2 L1 L2 l) (y4 y6 : Value) : Wp false (d + 4) 11 cX12_alike (some .int) false 149 [.ref 187, .int (nI s1), .int (nI s2), .int (nI l), y4, .int (xB b), y6] [] S2 (fun r S' => r = some (.int (nI (xlks v t1 t2 L1 L2 (j + 1) l))) ∧ xFl (fun i _ => i = 206 ∨ i = 207) S S') := by
      cases b with
      | true =>
        have e : xlks v t1 t2 L1 L2 (j + 1) l = xlks v t1 t2 L1 L2 j (l + 1) := by rw [xlks, if_pos hb.symm]
        rw [e]
        refine wp_iload dX12_alike_149 rfl ?_
        refine wb_if_ne dX12_alike_151 rfl (fun c151 => ?_) (fun c151 => absurd c151 (by decide))
        refine wp_iinc dX12_alike_156 rfl (nI_1 _) ⟨Nat.le_of_ble_eq_true rfl, Or.inr rfl⟩ rfl (wp_goto dX12_alike_159 rfl ?_)
        refine (ih (l + 1) S2 _ _ _ (by omega) X2 M21 M22 T2).mono ?_
        rintro r S' ⟨z1, z2⟩
        exact ⟨z1, F2.tt z2⟩
      | false =>
        have e : xlks v t1 t2 L1 L2 (j + 1) l = l := by rw [xlks, if_neg (by rw [← hb]; decide)]
        rw [e]
        refine wp_iload dX12_alike_149 rfl ?_
        refine wb_if_ne dX12_alike_151 rfl (fun c151 => absurd c151 (by decide)) (fun c151 => ?_)
        exact wp_iload_n dX12_alike_154 rfl (wp_ireturn dX12_alike_155 rfl rfl ⟨rfl, F2⟩)
    have tf (hb : false = xalk v t1 t2 L1 L2 l) (y4 : Nat) (h4 : y4 < 1000) : Wp false (d + 4) 11 cX12_alike (some .int) false 107 [.ref 187, .int (nI s1), .int (nI s2), .int (nI l), .int (nI y4), .int (xB false), .int (nI 0)] [] S2 (fun r S' => r = some (.int (nI (xlks v t1 t2 L1 L2 (j + 1) l))) ∧ xFl (fun i _ => i = 206 ∨ i = 207) S S') := by
      rcases Nat.lt_or_ge 0 y4 with w | w
      · refine wp_iload dX12_alike_107 rfl (wp_iload dX12_alike_109 rfl ?_)
        refine wn_icmp_ge dX12_alike_111 rfl (by omega) (by omega) (fun c111 => absurd c111 (by omega)) (fun c111 => ?_)
        refine wp_iload dX12_alike_114 rfl ?_
        refine wb_if_eq dX12_alike_116 rfl (fun c116 => ?_) (fun c116 => absurd c116 (by decide))
        exact t149 false hb _ _
      · refine wp_iload dX12_alike_107 rfl (wp_iload dX12_alike_109 rfl ?_)
        refine wn_icmp_ge dX12_alike_111 rfl (by omega) (by omega) (fun c111 => ?_) (fun c111 => absurd c111 (by omega))
        exact t149 false hb _ _
    rcases Decidable.em ((xfeet v t1 (L1.getD l (0, 0, []))).length = (xfeet v t2 (L2.getD l (0, 0, []))).length) with el | el
    · rcases Decidable.em ((L1.getD l (0, 0, [])).1 = (L2.getD l (0, 0, [])).1) with et | et
      · have e : decide ((xfeet v t1 (L1.getD l (0, 0, []))) = (xfeet v t2 (L2.getD l (0, 0, [])))) = xalk v t1 t2 L1 L2 l := by unfold xalk; rw [decide_eq_decide]; exact ⟨fun w => ⟨et, w⟩, fun w => w.2⟩
        refine wp_iload_n dX12_alike_25 rfl (wp_aload_n dX12_alike_26 rfl rfl (g11_222 dX12_alike_27 (xsh hX sh_187) (xrr hX r187_37) (wp_iload_n dX12_alike_30 rfl (wn_iaload dX12_alike_31 (xsh hX sh_203) rfl (by omega) (by decide) k1 ?_))))
        refine wn_icmp_ge dX12_alike_32 rfl (by omega) (by omega) (fun c32 => absurd c32 (by omega)) (fun c32 => ?_)
        refine wp_iload_n dX12_alike_35 rfl (wp_aload_n dX12_alike_36 rfl rfl (g11_222 dX12_alike_37 (xsh hX sh_187) (xrr hX r187_37) (wp_iload_n dX12_alike_40 rfl (wn_iaload dX12_alike_41 (xsh hX sh_203) rfl (by omega) (by decide) k2 ?_))))
        refine wn_icmp_ge dX12_alike_42 rfl (by omega) (by omega) (fun c42 => absurd c42 (by omega)) (fun c42 => ?_)
        refine wp_aload_n dX12_alike_45 rfl rfl (wp_iload_n dX12_alike_46 rfl (wp_iload_n dX12_alike_47 rfl (wp_aload_n dX12_alike_48 rfl rfl (g11_254 dX12_alike_49 (xsh hX sh_187) (xrr hX r187_44) (wp_iv4 dX12_alike_52 k11_244 q_X12_feetOf (by decide) (xsh hX sh_187) (by decide) (Nat.le_of_ble_eq_true rfl) g1 (wp_istore dX12_alike_55 ⟨Nat.le_of_ble_eq_true rfl, Or.inr rfl⟩ rfl (wp_aload_n dX12_alike_57 rfl rfl (wp_iload_n dX12_alike_58 rfl (wp_iload_n dX12_alike_59 rfl (wp_aload_n dX12_alike_60 rfl rfl (g11_257 dX12_alike_61 (xsh X1 sh_187) (xrr X1 r187_42) (wp_iv4 dX12_alike_64 k11_244 q_X12_feetOf (by decide) (xsh X1 sh_187) (by decide) (Nat.le_of_ble_eq_true rfl) g2 (wp_iload dX12_alike_67 rfl ?_)))))))))))))
        refine wn_icmp_ne dX12_alike_69 rfl (by omega) (by omega) (fun c69 => absurd c69 (by omega)) (fun c69 => ?_)
        refine wp_aload_n dX12_alike_72 rfl rfl (g11_219 dX12_alike_73 (xsh X2 sh_187) (xrr X2 r187_36) (wp_bipush (v := nI 16) dX12_alike_76 rfl (wp_iload_n dX12_alike_78 rfl (wv_imul dX12_alike_79 (pk_mul _ _) (wp_iload_n dX12_alike_80 rfl (wv_iadd dX12_alike_81 (nI_add _ _) (wn_iaload dX12_alike_82 (xsh X2 sh_202) rfl (by omega) (by decide) tm1 (wp_aload_n dX12_alike_83 rfl rfl (g11_219 dX12_alike_84 (xsh X2 sh_187) (xrr X2 r187_36) (wp_bipush (v := nI 16) dX12_alike_87 rfl (wp_iload_n dX12_alike_89 rfl (wv_imul dX12_alike_90 (pk_mul _ _) (wp_iload_n dX12_alike_91 rfl (wv_iadd dX12_alike_92 (nI_add _ _) (wn_iaload dX12_alike_93 (xsh X2 sh_202) rfl (by omega) (by decide) tm2 ?_)))))))))))))))
        refine wn_icmp_ne dX12_alike_94 rfl (by omega) (by omega) (fun c94 => absurd c94 (by omega)) (fun c94 => ?_)
        exact wp_iconst (v := nI 1) dX12_alike_97 rfl (wp_goto dX12_alike_98 rfl (wp_istore dX12_alike_102 ⟨Nat.le_of_ble_eq_true rfl, Or.inr rfl⟩ rfl (wp_iconst (v := nI 0) dX12_alike_104 rfl (wp_istore dX12_alike_105 ⟨Nat.le_of_ble_eq_true rfl, Or.inr rfl⟩ rfl (am_cmp X2 el (by omega) (fun x hx => xfeet_1 hx) (fun x hx => xfeet_1 hx) q1 r2 (fun k => t149 _ e _ _) _ 0 (Nat.zero_add _) (fun q hq => absurd hq (Nat.not_lt_zero q)))))))
      · have e : false = xalk v t1 t2 L1 L2 l := (decide_eq_false (fun w => et w.1)).symm
        refine wp_iload_n dX12_alike_25 rfl (wp_aload_n dX12_alike_26 rfl rfl (g11_222 dX12_alike_27 (xsh hX sh_187) (xrr hX r187_37) (wp_iload_n dX12_alike_30 rfl (wn_iaload dX12_alike_31 (xsh hX sh_203) rfl (by omega) (by decide) k1 ?_))))
        refine wn_icmp_ge dX12_alike_32 rfl (by omega) (by omega) (fun c32 => absurd c32 (by omega)) (fun c32 => ?_)
        refine wp_iload_n dX12_alike_35 rfl (wp_aload_n dX12_alike_36 rfl rfl (g11_222 dX12_alike_37 (xsh hX sh_187) (xrr hX r187_37) (wp_iload_n dX12_alike_40 rfl (wn_iaload dX12_alike_41 (xsh hX sh_203) rfl (by omega) (by decide) k2 ?_))))
        refine wn_icmp_ge dX12_alike_42 rfl (by omega) (by omega) (fun c42 => absurd c42 (by omega)) (fun c42 => ?_)
        refine wp_aload_n dX12_alike_45 rfl rfl (wp_iload_n dX12_alike_46 rfl (wp_iload_n dX12_alike_47 rfl (wp_aload_n dX12_alike_48 rfl rfl (g11_254 dX12_alike_49 (xsh hX sh_187) (xrr hX r187_44) (wp_iv4 dX12_alike_52 k11_244 q_X12_feetOf (by decide) (xsh hX sh_187) (by decide) (Nat.le_of_ble_eq_true rfl) g1 (wp_istore dX12_alike_55 ⟨Nat.le_of_ble_eq_true rfl, Or.inr rfl⟩ rfl (wp_aload_n dX12_alike_57 rfl rfl (wp_iload_n dX12_alike_58 rfl (wp_iload_n dX12_alike_59 rfl (wp_aload_n dX12_alike_60 rfl rfl (g11_257 dX12_alike_61 (xsh X1 sh_187) (xrr X1 r187_42) (wp_iv4 dX12_alike_64 k11_244 q_X12_feetOf (by decide) (xsh X1 sh_187) (by decide) (Nat.le_of_ble_eq_true rfl) g2 (wp_iload dX12_alike_67 rfl ?_)))))))))))))
        refine wn_icmp_ne dX12_alike_69 rfl (by omega) (by omega) (fun c69 => absurd c69 (by omega)) (fun c69 => ?_)
        refine wp_aload_n dX12_alike_72 rfl rfl (g11_219 dX12_alike_73 (xsh X2 sh_187) (xrr X2 r187_36) (wp_bipush (v := nI 16) dX12_alike_76 rfl (wp_iload_n dX12_alike_78 rfl (wv_imul dX12_alike_79 (pk_mul _ _) (wp_iload_n dX12_alike_80 rfl (wv_iadd dX12_alike_81 (nI_add _ _) (wn_iaload dX12_alike_82 (xsh X2 sh_202) rfl (by omega) (by decide) tm1 (wp_aload_n dX12_alike_83 rfl rfl (g11_219 dX12_alike_84 (xsh X2 sh_187) (xrr X2 r187_36) (wp_bipush (v := nI 16) dX12_alike_87 rfl (wp_iload_n dX12_alike_89 rfl (wv_imul dX12_alike_90 (pk_mul _ _) (wp_iload_n dX12_alike_91 rfl (wv_iadd dX12_alike_92 (nI_add _ _) (wn_iaload dX12_alike_93 (xsh X2 sh_202) rfl (by omega) (by decide) tm2 ?_)))))))))))))))
        refine wn_icmp_ne dX12_alike_94 rfl (by omega) (by omega) (fun c94 => ?_) (fun c94 => absurd c94 (by omega))
        exact wp_iconst (v := nI 0) dX12_alike_101 rfl (wp_istore dX12_alike_102 ⟨Nat.le_of_ble_eq_true rfl, Or.inr rfl⟩ rfl (wp_iconst (v := nI 0) dX12_alike_104 rfl (wp_istore dX12_alike_105 ⟨Nat.le_of_ble_eq_true rfl, Or.inr rfl⟩ rfl (tf e _ (by omega)))))
    · have e : false = xalk v t1 t2 L1 L2 l := (decide_eq_false (fun w => el (by rw [w.2]))).symm
      refine wp_iload_n dX12_alike_25 rfl (wp_aload_n dX12_alike_26 rfl rfl (g11_222 dX12_alike_27 (xsh hX sh_187) (xrr hX r187_37) (wp_iload_n dX12_alike_30 rfl (wn_iaload dX12_alike_31 (xsh hX sh_203) rfl (by omega) (by decide) k1 ?_))))
      refine wn_icmp_ge dX12_alike_32 rfl (by omega) (by omega) (fun c32 => absurd c32 (by omega)) (fun c32 => ?_)
      refine wp_iload_n dX12_alike_35 rfl (wp_aload_n dX12_alike_36 rfl rfl (g11_222 dX12_alike_37 (xsh hX sh_187) (xrr hX r187_37) (wp_iload_n dX12_alike_40 rfl (wn_iaload dX12_alike_41 (xsh hX sh_203) rfl (by omega) (by decide) k2 ?_))))
      refine wn_icmp_ge dX12_alike_42 rfl (by omega) (by omega) (fun c42 => absurd c42 (by omega)) (fun c42 => ?_)
      refine wp_aload_n dX12_alike_45 rfl rfl (wp_iload_n dX12_alike_46 rfl (wp_iload_n dX12_alike_47 rfl (wp_aload_n dX12_alike_48 rfl rfl (g11_254 dX12_alike_49 (xsh hX sh_187) (xrr hX r187_44) (wp_iv4 dX12_alike_52 k11_244 q_X12_feetOf (by decide) (xsh hX sh_187) (by decide) (Nat.le_of_ble_eq_true rfl) g1 (wp_istore dX12_alike_55 ⟨Nat.le_of_ble_eq_true rfl, Or.inr rfl⟩ rfl (wp_aload_n dX12_alike_57 rfl rfl (wp_iload_n dX12_alike_58 rfl (wp_iload_n dX12_alike_59 rfl (wp_aload_n dX12_alike_60 rfl rfl (g11_257 dX12_alike_61 (xsh X1 sh_187) (xrr X1 r187_42) (wp_iv4 dX12_alike_64 k11_244 q_X12_feetOf (by decide) (xsh X1 sh_187) (by decide) (Nat.le_of_ble_eq_true rfl) g2 (wp_iload dX12_alike_67 rfl ?_)))))))))))))
      refine wn_icmp_ne dX12_alike_69 rfl (by omega) (by omega) (fun c69 => ?_) (fun c69 => absurd c69 (by omega))
      exact wp_iconst (v := nI 0) dX12_alike_101 rfl (wp_istore dX12_alike_102 ⟨Nat.le_of_ble_eq_true rfl, Or.inr rfl⟩ rfl (wp_iconst (v := nI 0) dX12_alike_104 rfl (wp_istore dX12_alike_105 ⟨Nat.le_of_ble_eq_true rfl, Or.inr rfl⟩ rfl (tf e _ (by omega)))))
theorem m_alike {n1 n2 s1 s2 : Nat} {t1 t2 : Nat → Nat} {L1 L2 : List xLn} {v : xTg} (d : Nat) (hs1 : s1 < 6) (hs2 : s2 < 6) (ok1 : xRok t1 n1 L1) (ok2 : xRok t2 n2 L2) (hn1 : n1 ≤ 240) (hn2 : n2 ≤ 240) (hm1 : (L1.flatMap xmit).length ≤ 121) (hm2 : (L2.flatMap xmit).length ≤ 121) (h161 : L1.length ≤ 16) (h162 : L2.length ≤ 16) {S : xS} (hX : XC S) (hM1 : xRM s1 S n1 t1 L1) (hM2 : xRM s2 S n2 t2 L2) (hT : xTgM S v) (g1 : xcall false (d + 3) j_X12_has [.ref 187, .int (nI s1)] (xSI S 187 0 (nI 0)) (some (.int (xB true))) (xSI S 187 0 (nI 0))) (g2 : xcall false (d + 3) j_X12_has [.ref 187, .int (nI s2)] (xSI S 187 0 (nI 0)) (some (.int (xB true))) (xSI S 187 0 (nI 0))) : ∃ S', xcall false (d + 4) j_X12_alike [.ref 187, .int (nI s1), .int (nI s2)] S (some (.int (nI (xlks v t1 t2 L1 L2 (min L1.length L2.length) 0)))) S' ∧ xFl (fun i k => i = 206 ∨ i = 207 ∨ (i = 187 ∧ k = 0)) S S' := by
  have F1 : xFl (fun i k => i = 187 ∧ k = 0) S (xSI S 187 0 (nI 0)) := (xFl.rf S).SI ⟨rfl, rfl⟩
  have key : ∃ r S', xcall false (d + 4) j_X12_alike [.ref 187, .int (nI s1), .int (nI s2)] S r S' ∧ (r = some (.int (nI (xlks v t1 t2 L1 L2 (min L1.length L2.length) 0))) ∧ xFl (fun i _ => i = 206 ∨ i = 207) (xSI S 187 0 (nI 0)) S') := by
    refine xcall_some (ls := [.ref 187, .int (nI s1), .int (nI s2), .float 0, .float 0, .float 0, .float 0]) q_X12_alike (by decide) rfl (Nat.le_of_ble_eq_true rfl) rfl ?_
    refine wp_aload_n dX12_alike_0 rfl rfl (wp_iconst (v := nI 0) dX12_alike_1 rfl (p11_1 dX12_alike_2 (xsh hX sh_187) (wp_aload_n dX12_alike_5 rfl rfl (wp_iload_n dX12_alike_6 rfl (wp_iv2 dX12_alike_7 k11_231 q_X12_has (by decide) (xsh hX sh_187) (by decide) (Nat.le_of_ble_eq_true rfl) g1 ?_)))))
    refine wb_if_eq dX12_alike_10 rfl (fun c10 => absurd c10 (by decide)) (fun c10 => ?_)
    refine wp_aload_n dX12_alike_13 rfl rfl (wp_iload_n dX12_alike_14 rfl (wp_iv2 dX12_alike_15 k11_231 q_X12_has (by decide) (xsh hX sh_187) (by decide) (Nat.le_of_ble_eq_true rfl) g2 ?_))
    refine wb_if_ne dX12_alike_18 rfl (fun c18 => ?_) (fun c18 => absurd c18 (by decide))
    exact wp_iconst (v := nI 0) dX12_alike_23 rfl (wp_istore_n dX12_alike_24 ⟨Nat.le_of_ble_eq_true rfl, Or.inr rfl⟩ rfl (am_loop hs1 hs2 ok1 ok2 hn1 hn2 hm1 hm2 h161 h162 _ 0 (xSI S 187 0 (nI 0)) _ _ _ (Nat.zero_add _) hX (hM1.fr F1 (fun i k h => by omega)) (hM2.fr F1 (fun i k h => by omega)) (hT.fr F1 (fun k h => by omega) (fun a k h => by omega))))
  obtain ⟨r, S', g, rfl, z⟩ := key
  exact ⟨S', g, (F1.mono (fun i k h => Or.inr (Or.inr h))).tt (z.mono (fun i k h => by omega))⟩
