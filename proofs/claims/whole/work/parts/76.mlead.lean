/-! CHANGES: lead of the reference, both ways; changes, the call -/
/-- the line meant by the i-th step, from the first on or from the last on -/
def xtr (b : Bool) (n i : Nat) : Nat := if b = true then n - (i + 1) else i
theorem xtr_lt (b : Bool) {n i : Nat} (h : i < n) : xtr b n i < n := by
  unfold xtr
  split <;> omega
/-- the CHANGES between the first lines, or between the last ones -/
def xsb (b : Bool) (t1 : Nat → Nat) (L1 : List xLn) (t2 : Nat → Nat) (L2 : List xLn) (i j : Nat) : Nat := xfs (fun i => xln L1 (xtr b L1.length i)) (fun j => xln L2 (xtr b L2.length j)) (fun i j => xlc t1 L1 t2 L2 (xtr b L1.length i) (xtr b L2.length j)) i j
theorem xsb_F (t1 : Nat → Nat) (L1 : List xLn) (t2 : Nat → Nat) (L2 : List xLn) (i j : Nat) : xsb false t1 L1 t2 L2 i j = xchs t1 L1 t2 L2 i j := rfl
theorem ld_in {n1 n2 s1 s2 : Nat} {t1 t2 : Nat → Nat} {L1 L2 : List xLn} {b : Bool} {i d : Nat} {x6 x7 x8 : Value} (hs1 : s1 < 6) (hs2 : s2 < 6) (ok1 : xRok t1 n1 L1) (ok2 : xRok t2 n2 L2) (hn1 : n1 ≤ 240) (hn2 : n2 ≤ 240) (hm1 : (L1.flatMap xmit).length ≤ 121) (hm2 : (L2.flatMap xmit).length ≤ 121) (h161 : L1.length ≤ 16) (h162 : L2.length ≤ 16) (hi : i < L1.length) {Q : Option Value → xS → Prop} : ∀ (r j : Nat) (S : xS), j + r = L2.length → XC S → xRM s1 S n1 t1 L1 → xRM s2 S n2 t2 L2 → (∀ p q, (p < i ∧ q < L2.length) ∨ (p = i ∧ q < j) → S.2.1 224 (17 * p + q) = nI (xlc t1 L1 t2 L2 p q)) → (∀ S' y5, xFl (fun i _ => i = 222 ∨ i = 223 ∨ i = 224) S S' → (∀ p q, p < i + 1 ∧ q < L2.length → S'.2.1 224 (17 * p + q) = nI (xlc t1 L1 t2 L2 p q)) → Wp false (d + 2) 11 cX12_lead none false 57 [.ref 187, .int (nI s1), .int (nI s2), .int (xB b), .int (nI i), y5, x6, x7, x8] [] S' Q) → Wp false (d + 2) 11 cX12_lead none false 17 [.ref 187, .int (nI s1), .int (nI s2), .int (xB b), .int (nI i), .int (nI j), x6, x7, x8] [] S Q := by
  intro r
  induction r with
  | zero =>
    intro j S hj hX hM1 hM2 h K
    have k2 := hM2.2.2.2.2
    have hjj : j = L2.length := by omega
    subst hjj
    refine wp_iload dX12_lead_17 rfl (wp_aload_n dX12_lead_19 rfl rfl (g11_222 dX12_lead_20 (xsh hX sh_187) (xrr hX r187_37) (wp_iload_n dX12_lead_23 rfl (wn_iaload dX12_lead_24 (xsh hX sh_203) rfl (by omega) (by decide) k2 ?_))))
    refine wn_icmp_ge dX12_lead_25 rfl (by omega) (by omega) (fun c25 => ?_) (fun c25 => absurd c25 (by omega))
    exact K S _ (xFl.rf S) (fun p q hq => h p q (by omega))
  | succ r ih =>
    intro j S hj hX hM1 hM2 h K
    have k2 := hM2.2.2.2.2
    obtain ⟨S1, g1, f1⟩ := m_lineTo (d + 0) hs1 hs2 ok1 ok2 hn1 hn2 hm1 hm2 h161 h162 hX hM1 hM2 hi (show j < L2.length by omega)
    have X1 := f1.XC hX
    have F0 : xFl (fun i' k' => i' = 224 ∧ k' = 17 * i + j) S1 (xSI S1 224 (17 * i + j) (nI (xlc t1 L1 t2 L2 i j))) := (xFl.rf S1).SI ⟨rfl, rfl⟩
    have F2 : xFl (fun i _ => i = 222 ∨ i = 223 ∨ i = 224) S (xSI S1 224 (17 * i + j) (nI (xlc t1 L1 t2 L2 i j))) := (f1.mono (fun i k h => by omega)).tt (F0.mono (fun i k h => by omega))
    refine wp_iload dX12_lead_17 rfl (wp_aload_n dX12_lead_19 rfl rfl (g11_222 dX12_lead_20 (xsh hX sh_187) (xrr hX r187_37) (wp_iload_n dX12_lead_23 rfl (wn_iaload dX12_lead_24 (xsh hX sh_203) rfl (by omega) (by decide) k2 ?_))))
    refine wn_icmp_ge dX12_lead_25 rfl (by omega) (by omega) (fun c25 => absurd c25 (by omega)) (fun c25 => ?_)
    refine wp_aload_n dX12_lead_28 rfl rfl (g11_367 dX12_lead_29 (xsh hX sh_187) (xrr hX r187_77) (wp_bipush (v := nI 17) dX12_lead_32 rfl (wp_iload dX12_lead_34 rfl (wv_imul dX12_lead_36 (pk_mul _ _) (wp_iload dX12_lead_37 rfl (wv_iadd dX12_lead_39 (nI_add _ _) (wp_aload_n dX12_lead_40 rfl rfl (wp_iload_n dX12_lead_41 rfl (wp_iload dX12_lead_42 rfl (wp_iload_n dX12_lead_44 rfl (wp_iload dX12_lead_45 rfl (wp_iv5 dX12_lead_47 k11_537 q_X12_lineTo (by decide) (xsh hX sh_187) (by decide) (Nat.le_of_ble_eq_true rfl) g1 (wn_iastore dX12_lead_50 (xsh X1 sh_224) rfl (by omega) (by decide) (wp_iinc dX12_lead_51 rfl (nI_1 _) ⟨Nat.le_of_ble_eq_true rfl, Or.inr rfl⟩ rfl (wp_goto dX12_lead_54 rfl ?_)))))))))))))))
    refine ih (j + 1) _ (by omega) (F2.XC hX) (hM1.fr F2 (fun i k h => by omega)) (hM2.fr F2 (fun i k h => by omega)) (fun p q hq => ?_) (fun S' y5 f h' => K S' y5 (F2.tt f) h')
    rcases Decidable.em (p = i ∧ q = j) with w | w
    · rw [w.1, w.2]; exact xI_same _ _ _ _
    · exact F0.i (f1.i (h p q (by omega)) (by omega)) (by omega)
theorem ld_out {n1 n2 s1 s2 : Nat} {t1 t2 : Nat → Nat} {L1 L2 : List xLn} {b : Bool} {d : Nat} {x6 x7 x8 : Value} (hs1 : s1 < 6) (hs2 : s2 < 6) (ok1 : xRok t1 n1 L1) (ok2 : xRok t2 n2 L2) (hn1 : n1 ≤ 240) (hn2 : n2 ≤ 240) (hm1 : (L1.flatMap xmit).length ≤ 121) (hm2 : (L2.flatMap xmit).length ≤ 121) (h161 : L1.length ≤ 16) (h162 : L2.length ≤ 16) {Q : Option Value → xS → Prop} : ∀ (r i : Nat) (S : xS) (y5 : Value), i + r = L1.length → XC S → xRM s1 S n1 t1 L1 → xRM s2 S n2 t2 L2 → (∀ p q, p < i ∧ q < L2.length → S.2.1 224 (17 * p + q) = nI (xlc t1 L1 t2 L2 p q)) → (∀ S' y4 y5, xFl (fun i _ => i = 222 ∨ i = 223 ∨ i = 224) S S' → (∀ p q, p < L1.length ∧ q < L2.length → S'.2.1 224 (17 * p + q) = nI (xlc t1 L1 t2 L2 p q)) → Wp false (d + 2) 11 cX12_lead none false 63 [.ref 187, .int (nI s1), .int (nI s2), .int (xB b), y4, y5, x6, x7, x8] [] S' Q) → Wp false (d + 2) 11 cX12_lead none false 3 [.ref 187, .int (nI s1), .int (nI s2), .int (xB b), .int (nI i), y5, x6, x7, x8] [] S Q := by
  intro r
  induction r with
  | zero =>
    intro i S y5 hi hX hM1 hM2 h K
    have k1 := hM1.2.2.2.2
    have hii : i = L1.length := by omega
    subst hii
    refine wp_iload dX12_lead_3 rfl (wp_aload_n dX12_lead_5 rfl rfl (g11_222 dX12_lead_6 (xsh hX sh_187) (xrr hX r187_37) (wp_iload_n dX12_lead_9 rfl (wn_iaload dX12_lead_10 (xsh hX sh_203) rfl (by omega) (by decide) k1 ?_))))
    refine wn_icmp_ge dX12_lead_11 rfl (by omega) (by omega) (fun c11 => ?_) (fun c11 => absurd c11 (by omega))
    exact K S _ _ (xFl.rf S) h
  | succ r ih =>
    intro i S y5 hi hX hM1 hM2 h K
    have k1 := hM1.2.2.2.2
    refine wp_iload dX12_lead_3 rfl (wp_aload_n dX12_lead_5 rfl rfl (g11_222 dX12_lead_6 (xsh hX sh_187) (xrr hX r187_37) (wp_iload_n dX12_lead_9 rfl (wn_iaload dX12_lead_10 (xsh hX sh_203) rfl (by omega) (by decide) k1 ?_))))
    refine wn_icmp_ge dX12_lead_11 rfl (by omega) (by omega) (fun c11 => absurd c11 (by omega)) (fun c11 => ?_)
    refine wp_iconst (v := nI 0) dX12_lead_14 rfl (wp_istore dX12_lead_15 ⟨Nat.le_of_ble_eq_true rfl, Or.inr rfl⟩ rfl ?_)
    refine ld_in hs1 hs2 ok1 ok2 hn1 hn2 hm1 hm2 h161 h162 (show i < L1.length by omega) L2.length 0 S (Nat.zero_add _) hX hM1 hM2 (fun p q hq => h p q (by omega)) (fun S1 y5 f1 h1 => ?_)
    exact wp_iinc dX12_lead_57 rfl (nI_1 _) ⟨Nat.le_of_ble_eq_true rfl, Or.inr rfl⟩ rfl (wp_goto dX12_lead_60 rfl (ih (i + 1) S1 _ (by omega) (f1.XC hX) (hM1.fr f1 (fun i k h => by omega)) (hM2.fr f1 (fun i k h => by omega)) h1 (fun S' y4 y5 f h' => K S' y4 y5 (f1.tt f) h')))
theorem ld_a {n1 s1 s2 : Nat} {t1 : Nat → Nat} {L1 : List xLn} {b : Bool} {i j d : Nat} {x6 x7 x8 : Value} (hs1 : s1 < 6) (h161 : L1.length ≤ 16) (hi : i ≤ L1.length) {S : xS} (hX : XC S) (hM1 : xRM s1 S n1 t1 L1) {Q : Option Value → xS → Prop} (K : ∀ y6, (∀ i0, i = i0 + 1 → y6 = nI (xtr b L1.length i0)) → Wp false (d + 2) 11 cX12_lead none false 113 [.ref 187, .int (nI s1), .int (nI s2), .int (xB b), .int (nI i), .int (nI j), .int y6, x7, x8] [] S Q) : Wp false (d + 2) 11 cX12_lead none false 91 [.ref 187, .int (nI s1), .int (nI s2), .int (xB b), .int (nI i), .int (nI j), x6, x7, x8] [] S Q := by
  have k1 := hM1.2.2.2.2
  cases b with
  | true =>
    refine wp_iload_n dX12_lead_91 rfl ?_
    refine wb_if_eq dX12_lead_92 rfl (fun c92 => absurd c92 (by decide)) (fun c92 => ?_)
    exact wp_aload_n dX12_lead_95 rfl rfl (g11_222 dX12_lead_96 (xsh hX sh_187) (xrr hX r187_37) (wp_iload_n dX12_lead_99 rfl (wn_iaload dX12_lead_100 (xsh hX sh_203) rfl (by omega) (by decide) k1 (wp_iload dX12_lead_101 rfl (wv_isub dX12_lead_103 (pk_sub (by omega)) (wp_goto dX12_lead_104 rfl (wp_istore dX12_lead_111 ⟨Nat.le_of_ble_eq_true rfl, Or.inr rfl⟩ rfl (K _ (fun i0 e => by subst e; rfl)))))))))
  | false =>
    refine wp_iload_n dX12_lead_91 rfl ?_
    refine wb_if_eq dX12_lead_92 rfl (fun c92 => ?_) (fun c92 => absurd c92 (by decide))
    exact wp_iload dX12_lead_107 rfl (wp_iconst (v := nI 1) dX12_lead_109 rfl (wv_isub dX12_lead_110 rfl (wp_istore dX12_lead_111 ⟨Nat.le_of_ble_eq_true rfl, Or.inr rfl⟩ rfl (K _ (fun i0 e => by subst e; exact pk_sub (by omega))))))
theorem ld_b {n2 s1 s2 : Nat} {t2 : Nat → Nat} {L2 : List xLn} {b : Bool} {i j d : Nat} {x7 x8 : Value} {x6 : Int32} (hs2 : s2 < 6) (h162 : L2.length ≤ 16) (hj : j ≤ L2.length) {S : xS} (hX : XC S) (hM2 : xRM s2 S n2 t2 L2) {Q : Option Value → xS → Prop} (K : ∀ y7, (∀ j0, j = j0 + 1 → y7 = nI (xtr b L2.length j0)) → Wp false (d + 2) 11 cX12_lead none false 135 [.ref 187, .int (nI s1), .int (nI s2), .int (xB b), .int (nI i), .int (nI j), .int x6, .int y7, x8] [] S Q) : Wp false (d + 2) 11 cX12_lead none false 113 [.ref 187, .int (nI s1), .int (nI s2), .int (xB b), .int (nI i), .int (nI j), .int x6, x7, x8] [] S Q := by
  have k2 := hM2.2.2.2.2
  cases b with
  | true =>
    refine wp_iload_n dX12_lead_113 rfl ?_
    refine wb_if_eq dX12_lead_114 rfl (fun c114 => absurd c114 (by decide)) (fun c114 => ?_)
    exact wp_aload_n dX12_lead_117 rfl rfl (g11_222 dX12_lead_118 (xsh hX sh_187) (xrr hX r187_37) (wp_iload_n dX12_lead_121 rfl (wn_iaload dX12_lead_122 (xsh hX sh_203) rfl (by omega) (by decide) k2 (wp_iload dX12_lead_123 rfl (wv_isub dX12_lead_125 (pk_sub (by omega)) (wp_goto dX12_lead_126 rfl (wp_istore dX12_lead_133 ⟨Nat.le_of_ble_eq_true rfl, Or.inr rfl⟩ rfl (K _ (fun i0 e => by subst e; rfl)))))))))
  | false =>
    refine wp_iload_n dX12_lead_113 rfl ?_
    refine wb_if_eq dX12_lead_114 rfl (fun c114 => ?_) (fun c114 => absurd c114 (by decide))
    exact wp_iload dX12_lead_129 rfl (wp_iconst (v := nI 1) dX12_lead_131 rfl (wv_isub dX12_lead_132 rfl (wp_istore dX12_lead_133 ⟨Nat.le_of_ble_eq_true rfl, Or.inr rfl⟩ rfl (K _ (fun i0 e => by subst e; exact pk_sub (by omega))))))
theorem ld_cell {n1 n2 s1 s2 : Nat} {t1 t2 : Nat → Nat} {L1 L2 : List xLn} {b : Bool} {i j d : Nat} {x6 x7 x8 : Value} (hs1 : s1 < 6) (hs2 : s2 < 6) (ok1 : xRok t1 n1 L1) (ok2 : xRok t2 n2 L2) (hn1 : n1 ≤ 240) (hn2 : n2 ≤ 240) (hm1 : (L1.flatMap xmit).length ≤ 121) (hm2 : (L2.flatMap xmit).length ≤ 121) (h161 : L1.length ≤ 16) (h162 : L2.length ≤ 16) (hi : i ≤ L1.length) (hj : j ≤ L2.length) {S : xS} (hX : XC S) (hM1 : xRM s1 S n1 t1 L1) (hM2 : xRM s2 S n2 t2 L2) (hC : (∀ p q, p < L1.length ∧ q < L2.length → S.2.1 224 (17 * p + q) = nI (xlc t1 L1 t2 L2 p q))) (h : (∀ p q, (p < i ∧ q ≤ L2.length) ∨ (p = i ∧ q < j) → S.2.1 225 (17 * p + q) = nI (xsb b t1 L1 t2 L2 p q))) {Q : Option Value → xS → Prop} (K : ∀ y6 y7, Wp false (d + 2) 11 cX12_lead none false 278 [.ref 187, .int (nI s1), .int (nI s2), .int (xB b), .int (nI i), .int (nI j), y6, y7, .int (nI (xsb b t1 L1 t2 L2 i j))] [] S Q) : Wp false (d + 2) 11 cX12_lead none false 91 [.ref 187, .int (nI s1), .int (nI s2), .int (xB b), .int (nI i), .int (nI j), x6, x7, x8] [] S Q := by
  refine ld_a (x7 := x7) hs1 h161 hi hX hM1 (fun y6 h6 => ld_b hs2 h162 hj hX hM2 (fun y7 h7 => ?_))
  have nx := K (.int y6) (.int y7)
  rcases i with _ | i
  · rcases j with _ | j
    · have e : xsb b t1 L1 t2 L2 0 0 = 0 := xfs_00 _ _ _
      rw [e] at nx
      refine wp_iload dX12_lead_135 rfl ?_
      refine wn_if_ne dX12_lead_137 rfl (by omega) (fun c137 => absurd c137 (by omega)) (fun c137 => ?_)
      refine wp_iload dX12_lead_140 rfl ?_
      refine wn_if_ne dX12_lead_142 rfl (by omega) (fun c142 => absurd c142 (by omega)) (fun c142 => ?_)
      refine wp_iconst (v := nI 0) dX12_lead_145 rfl (wp_goto dX12_lead_146 rfl (wp_istore dX12_lead_152 ⟨Nat.le_of_ble_eq_true rfl, Or.inr rfl⟩ rfl (wp_iload dX12_lead_154 rfl ?_)))
      refine wn_if_le dX12_lead_156 rfl (by omega) (fun c156 => ?_) (fun c156 => absurd c156 (by omega))
      refine wp_iload dX12_lead_191 rfl ?_
      refine wn_if_le dX12_lead_193 rfl (by omega) (fun c193 => ?_) (fun c193 => absurd c193 (by omega))
      refine wp_iload dX12_lead_228 rfl ?_
      refine wn_if_le dX12_lead_230 rfl (by omega) (fun c230 => ?_) (fun c230 => absurd c230 (by omega))
      exact nx
    · rw [h7 j rfl] at nx ⊢
      have hl2 := xtr_lt b (show j < L2.length by omega)
      have gl := m_itemsOf (d + 1) hs2 hX hM2 ok2 hm2 hl2 h162
      have bl := xln_le ok2 hn2 hl2
      have m1 := h 0 j (by omega)
      have b1 : xsb b t1 L1 t2 L2 0 j ≤ 1000000 := xfs_le _ _ _ _ _
      have e : min 1000000 (xsb b t1 L1 t2 L2 0 j + xln L2 (xtr b L2.length j)) = xsb b t1 L1 t2 L2 0 (j + 1) := (xfs_0s (fun i => xln L1 (xtr b L1.length i)) (fun j => xln L2 (xtr b L2.length j)) (fun i j => xlc t1 L1 t2 L2 (xtr b L1.length i) (xtr b L2.length j)) j).symm
      have g2 := m_least (S := S) 1000000 (xsb b t1 L1 t2 L2 0 j + xln L2 (xtr b L2.length j)) 1000000 (d + 1) (by omega) (by omega) (by omega)
      rw [show min (min 1000000 (xsb b t1 L1 t2 L2 0 j + xln L2 (xtr b L2.length j))) 1000000 = xsb b t1 L1 t2 L2 0 (j + 1) by rw [← e]; omega] at g2
      refine wp_iload dX12_lead_135 rfl ?_
      refine wn_if_ne dX12_lead_137 rfl (by omega) (fun c137 => absurd c137 (by omega)) (fun c137 => ?_)
      refine wp_iload dX12_lead_140 rfl ?_
      refine wn_if_ne dX12_lead_142 rfl (by omega) (fun c142 => ?_) (fun c142 => absurd c142 (by omega))
      refine wp_ldcW (v := nI 1000000) dX12_lead_149 k11_540 rfl (wp_istore dX12_lead_152 ⟨Nat.le_of_ble_eq_true rfl, Or.inr rfl⟩ rfl (wp_iload dX12_lead_154 rfl ?_))
      refine wn_if_le dX12_lead_156 rfl (by omega) (fun c156 => ?_) (fun c156 => absurd c156 (by omega))
      refine wp_iload dX12_lead_191 rfl ?_
      refine wn_if_le dX12_lead_193 rfl (by omega) (fun c193 => absurd c193 (by omega)) (fun c193 => ?_)
      refine wp_iload dX12_lead_196 rfl (wp_aload_n dX12_lead_198 rfl rfl (g11_370 dX12_lead_199 (xsh hX sh_187) (xrr hX r187_78) (wp_bipush (v := nI 17) dX12_lead_202 rfl (wp_iload dX12_lead_204 rfl (wv_imul dX12_lead_206 (pk_mul _ _) (wp_iload dX12_lead_207 rfl (wv_iadd dX12_lead_209 (nI_add _ _) (wp_iconst (v := nI 1) dX12_lead_210 rfl (wv_isub dX12_lead_211 (show nI _ - nI _ = nI (17 * 0 + j) from pk_sub (by omega)) (wn_iaload dX12_lead_212 (xsh hX sh_225) rfl (by omega) (by decide) m1 (wp_aload_n dX12_lead_213 rfl rfl (wp_iload_n dX12_lead_214 rfl (wp_iload dX12_lead_215 rfl (wp_iv3 dX12_lead_217 k11_527 q_X12_itemsOf (by decide) (xsh hX sh_187) (by decide) (Nat.le_of_ble_eq_true rfl) gl (wv_iadd dX12_lead_220 (nI_add _ _) (wp_iload dX12_lead_221 rfl (wp_is3 dX12_lead_223 k11_534 q_X12_least (by decide) (Nat.le_of_ble_eq_true rfl) g2 (wp_istore dX12_lead_226 ⟨Nat.le_of_ble_eq_true rfl, Or.inr rfl⟩ rfl (wp_iload dX12_lead_228 rfl ?_)))))))))))))))))))
      refine wn_if_le dX12_lead_230 rfl (by omega) (fun c230 => ?_) (fun c230 => absurd c230 (by omega))
      exact nx
  · rw [h6 i rfl] at nx ⊢
    have hl1 := xtr_lt b (show i < L1.length by omega)
    have gl1 := m_itemsOf (d + 1) hs1 hX hM1 ok1 hm1 hl1 h161
    have bl1 := xln_le ok1 hn1 hl1
    rcases j with _ | j
    · have m2 := h i 0 (by omega)
      have b2 : xsb b t1 L1 t2 L2 i 0 ≤ 1000000 := xfs_le _ _ _ _ _
      have e : min 1000000 (xsb b t1 L1 t2 L2 i 0 + xln L1 (xtr b L1.length i)) = xsb b t1 L1 t2 L2 (i + 1) 0 := (xfs_s0 (fun i => xln L1 (xtr b L1.length i)) (fun j => xln L2 (xtr b L2.length j)) (fun i j => xlc t1 L1 t2 L2 (xtr b L1.length i) (xtr b L2.length j)) i).symm
      have g2 := m_least (S := S) 1000000 (xsb b t1 L1 t2 L2 i 0 + xln L1 (xtr b L1.length i)) 1000000 (d + 1) (by omega) (by omega) (by omega)
      rw [show min (min 1000000 (xsb b t1 L1 t2 L2 i 0 + xln L1 (xtr b L1.length i))) 1000000 = xsb b t1 L1 t2 L2 (i + 1) 0 by rw [← e]; omega] at g2
      refine wp_iload dX12_lead_135 rfl ?_
      refine wn_if_ne dX12_lead_137 rfl (by omega) (fun c137 => ?_) (fun c137 => absurd c137 (by omega))
      refine wp_ldcW (v := nI 1000000) dX12_lead_149 k11_540 rfl (wp_istore dX12_lead_152 ⟨Nat.le_of_ble_eq_true rfl, Or.inr rfl⟩ rfl (wp_iload dX12_lead_154 rfl ?_))
      refine wn_if_le dX12_lead_156 rfl (by omega) (fun c156 => absurd c156 (by omega)) (fun c156 => ?_)
      refine wp_iload dX12_lead_159 rfl (wp_aload_n dX12_lead_161 rfl rfl (g11_370 dX12_lead_162 (xsh hX sh_187) (xrr hX r187_78) (wp_bipush (v := nI 17) dX12_lead_165 rfl (wp_iload dX12_lead_167 rfl (wp_iconst (v := nI 1) dX12_lead_169 rfl (wv_isub dX12_lead_170 (pk_sub (by omega)) (wv_imul dX12_lead_171 (pk_mul _ _) (wp_iload dX12_lead_172 rfl (wv_iadd dX12_lead_174 (nI_add _ _) (wn_iaload dX12_lead_175 (xsh hX sh_225) rfl (by omega) (by decide) m2 (wp_aload_n dX12_lead_176 rfl rfl (wp_iload_n dX12_lead_177 rfl (wp_iload dX12_lead_178 rfl (wp_iv3 dX12_lead_180 k11_527 q_X12_itemsOf (by decide) (xsh hX sh_187) (by decide) (Nat.le_of_ble_eq_true rfl) gl1 (wv_iadd dX12_lead_183 (nI_add _ _) (wp_iload dX12_lead_184 rfl (wp_is3 dX12_lead_186 k11_534 q_X12_least (by decide) (Nat.le_of_ble_eq_true rfl) g2 (wp_istore dX12_lead_189 ⟨Nat.le_of_ble_eq_true rfl, Or.inr rfl⟩ rfl (wp_iload dX12_lead_191 rfl ?_)))))))))))))))))))
      refine wn_if_le dX12_lead_193 rfl (by omega) (fun c193 => ?_) (fun c193 => absurd c193 (by omega))
      refine wp_iload dX12_lead_228 rfl ?_
      refine wn_if_le dX12_lead_230 rfl (by omega) (fun c230 => absurd c230 (by omega)) (fun c230 => ?_)
      refine wp_iload dX12_lead_233 rfl ?_
      refine wn_if_le dX12_lead_235 rfl (by omega) (fun c235 => ?_) (fun c235 => absurd c235 (by omega))
      exact nx
    · rw [h7 j rfl] at nx ⊢
      have hl2 := xtr_lt b (show j < L2.length by omega)
      have gl := m_itemsOf (d + 1) hs2 hX hM2 ok2 hm2 hl2 h162
      have bl := xln_le ok2 hn2 hl2
      have m2 := h i (j + 1) (by omega)
      have m1 := h (i + 1) j (by omega)
      have m0 := h i j (by omega)
      have b2 : xsb b t1 L1 t2 L2 i (j + 1) ≤ 1000000 := xfs_le _ _ _ _ _
      have b1 : xsb b t1 L1 t2 L2 (i + 1) j ≤ 1000000 := xfs_le _ _ _ _ _
      have b0 : xsb b t1 L1 t2 L2 i j ≤ 1000000 := xfs_le _ _ _ _ _
      have cc := hC (xtr b L1.length i) (xtr b L2.length j) ⟨hl1, hl2⟩
      have cl := xlc_le t1 t2 L1 L2 (xtr b L1.length i) (xtr b L2.length j)
      have e : min (min (min 1000000 (xsb b t1 L1 t2 L2 i (j + 1) + xln L1 (xtr b L1.length i))) (xsb b t1 L1 t2 L2 (i + 1) j + xln L2 (xtr b L2.length j))) (xsb b t1 L1 t2 L2 i j + xlc t1 L1 t2 L2 (xtr b L1.length i) (xtr b L2.length j)) = xsb b t1 L1 t2 L2 (i + 1) (j + 1) := (xfs_ss (fun i => xln L1 (xtr b L1.length i)) (fun j => xln L2 (xtr b L2.length j)) (fun i j => xlc t1 L1 t2 L2 (xtr b L1.length i) (xtr b L2.length j)) i j).symm
      have g2 := m_least (S := S) 1000000 (xsb b t1 L1 t2 L2 i (j + 1) + xln L1 (xtr b L1.length i)) 1000000 (d + 1) (by omega) (by omega) (by omega)
      rw [show min (min 1000000 (xsb b t1 L1 t2 L2 i (j + 1) + xln L1 (xtr b L1.length i))) 1000000 = min 1000000 (xsb b t1 L1 t2 L2 i (j + 1) + xln L1 (xtr b L1.length i)) by omega] at g2
      have g3 := m_least (S := S) (min 1000000 (xsb b t1 L1 t2 L2 i (j + 1) + xln L1 (xtr b L1.length i))) (xsb b t1 L1 t2 L2 (i + 1) j + xln L2 (xtr b L2.length j)) (min 1000000 (xsb b t1 L1 t2 L2 i (j + 1) + xln L1 (xtr b L1.length i))) (d + 1) (by omega) (by omega) (by omega)
      generalize ew : min (min (min 1000000 (xsb b t1 L1 t2 L2 i (j + 1) + xln L1 (xtr b L1.length i))) (xsb b t1 L1 t2 L2 (i + 1) j + xln L2 (xtr b L2.length j))) (min 1000000 (xsb b t1 L1 t2 L2 i (j + 1) + xln L1 (xtr b L1.length i))) = w3 at g3
      have g4 := m_least (S := S) w3 (xsb b t1 L1 t2 L2 i j + xlc t1 L1 t2 L2 (xtr b L1.length i) (xtr b L2.length j)) w3 (d + 1) (by omega) (by omega) (by omega)
      rw [show min (min w3 (xsb b t1 L1 t2 L2 i j + xlc t1 L1 t2 L2 (xtr b L1.length i) (xtr b L2.length j))) w3 = xsb b t1 L1 t2 L2 (i + 1) (j + 1) by rw [← e, ← ew]; omega] at g4
      refine wp_iload dX12_lead_135 rfl ?_
      refine wn_if_ne dX12_lead_137 rfl (by omega) (fun c137 => ?_) (fun c137 => absurd c137 (by omega))
      refine wp_ldcW (v := nI 1000000) dX12_lead_149 k11_540 rfl (wp_istore dX12_lead_152 ⟨Nat.le_of_ble_eq_true rfl, Or.inr rfl⟩ rfl (wp_iload dX12_lead_154 rfl ?_))
      refine wn_if_le dX12_lead_156 rfl (by omega) (fun c156 => absurd c156 (by omega)) (fun c156 => ?_)
      refine wp_iload dX12_lead_159 rfl (wp_aload_n dX12_lead_161 rfl rfl (g11_370 dX12_lead_162 (xsh hX sh_187) (xrr hX r187_78) (wp_bipush (v := nI 17) dX12_lead_165 rfl (wp_iload dX12_lead_167 rfl (wp_iconst (v := nI 1) dX12_lead_169 rfl (wv_isub dX12_lead_170 (pk_sub (by omega)) (wv_imul dX12_lead_171 (pk_mul _ _) (wp_iload dX12_lead_172 rfl (wv_iadd dX12_lead_174 (nI_add _ _) (wn_iaload dX12_lead_175 (xsh hX sh_225) rfl (by omega) (by decide) m2 (wp_aload_n dX12_lead_176 rfl rfl (wp_iload_n dX12_lead_177 rfl (wp_iload dX12_lead_178 rfl (wp_iv3 dX12_lead_180 k11_527 q_X12_itemsOf (by decide) (xsh hX sh_187) (by decide) (Nat.le_of_ble_eq_true rfl) gl1 (wv_iadd dX12_lead_183 (nI_add _ _) (wp_iload dX12_lead_184 rfl (wp_is3 dX12_lead_186 k11_534 q_X12_least (by decide) (Nat.le_of_ble_eq_true rfl) g2 (wp_istore dX12_lead_189 ⟨Nat.le_of_ble_eq_true rfl, Or.inr rfl⟩ rfl (wp_iload dX12_lead_191 rfl ?_)))))))))))))))))))
      refine wn_if_le dX12_lead_193 rfl (by omega) (fun c193 => absurd c193 (by omega)) (fun c193 => ?_)
      refine wp_iload dX12_lead_196 rfl (wp_aload_n dX12_lead_198 rfl rfl (g11_370 dX12_lead_199 (xsh hX sh_187) (xrr hX r187_78) (wp_bipush (v := nI 17) dX12_lead_202 rfl (wp_iload dX12_lead_204 rfl (wv_imul dX12_lead_206 (pk_mul _ _) (wp_iload dX12_lead_207 rfl (wv_iadd dX12_lead_209 (nI_add _ _) (wp_iconst (v := nI 1) dX12_lead_210 rfl (wv_isub dX12_lead_211 (show nI _ - nI _ = nI (17 * (i + 1) + j) from pk_sub (by omega)) (wn_iaload dX12_lead_212 (xsh hX sh_225) rfl (by omega) (by decide) m1 (wp_aload_n dX12_lead_213 rfl rfl (wp_iload_n dX12_lead_214 rfl (wp_iload dX12_lead_215 rfl (wp_iv3 dX12_lead_217 k11_527 q_X12_itemsOf (by decide) (xsh hX sh_187) (by decide) (Nat.le_of_ble_eq_true rfl) gl (wv_iadd dX12_lead_220 (nI_add _ _) (wp_iload dX12_lead_221 rfl (wp_is3 dX12_lead_223 k11_534 q_X12_least (by decide) (Nat.le_of_ble_eq_true rfl) g3 (wp_istore dX12_lead_226 ⟨Nat.le_of_ble_eq_true rfl, Or.inr rfl⟩ rfl (wp_iload dX12_lead_228 rfl ?_)))))))))))))))))))
      refine wn_if_le dX12_lead_230 rfl (by omega) (fun c230 => absurd c230 (by omega)) (fun c230 => ?_)
      refine wp_iload dX12_lead_233 rfl ?_
      refine wn_if_le dX12_lead_235 rfl (by omega) (fun c235 => absurd c235 (by omega)) (fun c235 => ?_)
      exact wp_iload dX12_lead_238 rfl (wp_aload_n dX12_lead_240 rfl rfl (g11_370 dX12_lead_241 (xsh hX sh_187) (xrr hX r187_78) (wp_bipush (v := nI 17) dX12_lead_244 rfl (wp_iload dX12_lead_246 rfl (wp_iconst (v := nI 1) dX12_lead_248 rfl (wv_isub dX12_lead_249 (pk_sub (by omega)) (wv_imul dX12_lead_250 (pk_mul _ _) (wp_iload dX12_lead_251 rfl (wv_iadd dX12_lead_253 (nI_add _ _) (wp_iconst (v := nI 1) dX12_lead_254 rfl (wv_isub dX12_lead_255 (show nI _ - nI _ = nI (17 * i + j) from pk_sub (by omega)) (wn_iaload dX12_lead_256 (xsh hX sh_225) rfl (by omega) (by decide) m0 (wp_aload_n dX12_lead_257 rfl rfl (g11_367 dX12_lead_258 (xsh hX sh_187) (xrr hX r187_77) (wp_bipush (v := nI 17) dX12_lead_261 rfl (wp_iload dX12_lead_263 rfl (wv_imul dX12_lead_265 (pk_mul _ _) (wp_iload dX12_lead_266 rfl (wv_iadd dX12_lead_268 (nI_add _ _) (wn_iaload dX12_lead_269 (xsh hX sh_224) rfl (by omega) (by decide) cc (wv_iadd dX12_lead_270 (nI_add _ _) (wp_iload dX12_lead_271 rfl (wp_is3 dX12_lead_273 k11_534 q_X12_least (by decide) (Nat.le_of_ble_eq_true rfl) g4 (wp_istore dX12_lead_276 ⟨Nat.le_of_ble_eq_true rfl, Or.inr rfl⟩ rfl nx))))))))))))))))))))))))
theorem tb_in {n1 n2 s1 s2 : Nat} {t1 t2 : Nat → Nat} {L1 L2 : List xLn} {b : Bool} {i d : Nat} (hs1 : s1 < 6) (hs2 : s2 < 6) (ok1 : xRok t1 n1 L1) (ok2 : xRok t2 n2 L2) (hn1 : n1 ≤ 240) (hn2 : n2 ≤ 240) (hm1 : (L1.flatMap xmit).length ≤ 121) (hm2 : (L2.flatMap xmit).length ≤ 121) (h161 : L1.length ≤ 16) (h162 : L2.length ≤ 16) (hi : i ≤ L1.length) {Q : Option Value → xS → Prop} : ∀ (r j : Nat) (S : xS) (y6 y7 y8 : Value), j + r = L2.length + 1 → XC S → xRM s1 S n1 t1 L1 → xRM s2 S n2 t2 L2 → (∀ p q, p < L1.length ∧ q < L2.length → S.2.1 224 (17 * p + q) = nI (xlc t1 L1 t2 L2 p q)) → (∀ p q, (p < i ∧ q ≤ L2.length) ∨ (p = i ∧ q < j) → S.2.1 225 (17 * p + q) = nI (xsb b t1 L1 t2 L2 p q)) → (∀ S' y5 y6 y7 y8, xFl (fun i _ => i = 225) S S' → (∀ p q, p < i + 1 ∧ q ≤ L2.length → S'.2.1 225 (17 * p + q) = nI (xsb b t1 L1 t2 L2 p q)) → Wp false (d + 2) 11 cX12_lead none false 299 [.ref 187, .int (nI s1), .int (nI s2), .int (xB b), .int (nI i), y5, y6, y7, y8] [] S' Q) → Wp false (d + 2) 11 cX12_lead none false 80 [.ref 187, .int (nI s1), .int (nI s2), .int (xB b), .int (nI i), .int (nI j), y6, y7, y8] [] S Q := by
  intro r
  induction r with
  | zero =>
    intro j S y6 y7 y8 hj hX hM1 hM2 hC h K
    have k2 := hM2.2.2.2.2
    have hjj : j = L2.length + 1 := by omega
    subst hjj
    refine wp_iload dX12_lead_80 rfl (wp_aload_n dX12_lead_82 rfl rfl (g11_222 dX12_lead_83 (xsh hX sh_187) (xrr hX r187_37) (wp_iload_n dX12_lead_86 rfl (wn_iaload dX12_lead_87 (xsh hX sh_203) rfl (by omega) (by decide) k2 ?_))))
    refine wn_icmp_gt dX12_lead_88 rfl (by omega) (by omega) (fun c88 => ?_) (fun c88 => absurd c88 (by omega))
    exact K S _ _ _ _ (xFl.rf S) (fun p q hq => h p q (by omega))
  | succ r ih =>
    intro j S y6 y7 y8 hj hX hM1 hM2 hC h K
    have k2 := hM2.2.2.2.2
    refine wp_iload dX12_lead_80 rfl (wp_aload_n dX12_lead_82 rfl rfl (g11_222 dX12_lead_83 (xsh hX sh_187) (xrr hX r187_37) (wp_iload_n dX12_lead_86 rfl (wn_iaload dX12_lead_87 (xsh hX sh_203) rfl (by omega) (by decide) k2 ?_))))
    refine wn_icmp_gt dX12_lead_88 rfl (by omega) (by omega) (fun c88 => absurd c88 (by omega)) (fun c88 => ?_)
    refine ld_cell hs1 hs2 ok1 ok2 hn1 hn2 hm1 hm2 h161 h162 hi (show j ≤ L2.length by omega) hX hM1 hM2 hC h (fun y6 y7 => ?_)
    have F0 : xFl (fun i' k' => i' = 225 ∧ k' = 17 * i + j) S (xSI S 225 (17 * i + j) (nI (xsb b t1 L1 t2 L2 i j))) := (xFl.rf S).SI ⟨rfl, rfl⟩
    refine wp_aload_n dX12_lead_278 rfl rfl (g11_370 dX12_lead_279 (xsh hX sh_187) (xrr hX r187_78) (wp_bipush (v := nI 17) dX12_lead_282 rfl (wp_iload dX12_lead_284 rfl (wv_imul dX12_lead_286 (pk_mul _ _) (wp_iload dX12_lead_287 rfl (wv_iadd dX12_lead_289 (nI_add _ _) (wp_iload dX12_lead_290 rfl (wn_iastore dX12_lead_292 (xsh hX sh_225) rfl (by omega) (by decide) (wp_iinc dX12_lead_293 rfl (nI_1 _) ⟨Nat.le_of_ble_eq_true rfl, Or.inr rfl⟩ rfl (wp_goto dX12_lead_296 rfl ?_))))))))))
    refine ih (j + 1) _ _ _ _ (by omega) hX (hM1.fr F0 (fun i k h => by omega)) (hM2.fr F0 (fun i k h => by omega)) (fun p q hq => F0.i (hC p q hq) (by omega)) (fun p q hq => ?_) (fun S' y5 y6 y7 y8 f h' => K S' y5 y6 y7 y8 ((F0.mono (fun i k h => h.1)).tt f) h')
    rcases Decidable.em (p = i ∧ q = j) with w | w
    · rw [w.1, w.2]; exact xI_same _ _ _ _
    · exact F0.i (h p q (by omega)) (by omega)
theorem tb_out {n1 n2 s1 s2 : Nat} {t1 t2 : Nat → Nat} {L1 L2 : List xLn} {b : Bool} {d : Nat} (hs1 : s1 < 6) (hs2 : s2 < 6) (ok1 : xRok t1 n1 L1) (ok2 : xRok t2 n2 L2) (hn1 : n1 ≤ 240) (hn2 : n2 ≤ 240) (hm1 : (L1.flatMap xmit).length ≤ 121) (hm2 : (L2.flatMap xmit).length ≤ 121) (h161 : L1.length ≤ 16) (h162 : L2.length ≤ 16) : ∀ (r i : Nat) (S : xS) (y5 y6 y7 y8 : Value), i + r = L1.length + 1 → XC S → xRM s1 S n1 t1 L1 → xRM s2 S n2 t2 L2 → (∀ p q, p < L1.length ∧ q < L2.length → S.2.1 224 (17 * p + q) = nI (xlc t1 L1 t2 L2 p q)) → (∀ p q, p < i ∧ q ≤ L2.length → S.2.1 225 (17 * p + q) = nI (xsb b t1 L1 t2 L2 p q)) → Wp false (d + 2) 11 cX12_lead none false 66 [.ref 187, .int (nI s1), .int (nI s2), .int (xB b), .int (nI i), y5, y6, y7, y8] [] S (fun r S' => r = none ∧ xFl (fun i _ => i = 225) S S' ∧ (∀ p q, p ≤ L1.length ∧ q ≤ L2.length → S'.2.1 225 (17 * p + q) = nI (xsb b t1 L1 t2 L2 p q))) := by
  intro r
  induction r with
  | zero =>
    intro i S y5 y6 y7 y8 hi hX hM1 hM2 hC h
    have k1 := hM1.2.2.2.2
    have hii : i = L1.length + 1 := by omega
    subst hii
    refine wp_iload dX12_lead_66 rfl (wp_aload_n dX12_lead_68 rfl rfl (g11_222 dX12_lead_69 (xsh hX sh_187) (xrr hX r187_37) (wp_iload_n dX12_lead_72 rfl (wn_iaload dX12_lead_73 (xsh hX sh_203) rfl (by omega) (by decide) k1 ?_))))
    refine wn_icmp_gt dX12_lead_74 rfl (by omega) (by omega) (fun c74 => ?_) (fun c74 => absurd c74 (by omega))
    exact wp_return dX12_lead_305 rfl ⟨rfl, xFl.rf S, fun p q hq => h p q (by omega)⟩
  | succ r ih =>
    intro i S y5 y6 y7 y8 hi hX hM1 hM2 hC h
    have k1 := hM1.2.2.2.2
    refine wp_iload dX12_lead_66 rfl (wp_aload_n dX12_lead_68 rfl rfl (g11_222 dX12_lead_69 (xsh hX sh_187) (xrr hX r187_37) (wp_iload_n dX12_lead_72 rfl (wn_iaload dX12_lead_73 (xsh hX sh_203) rfl (by omega) (by decide) k1 ?_))))
    refine wn_icmp_gt dX12_lead_74 rfl (by omega) (by omega) (fun c74 => absurd c74 (by omega)) (fun c74 => ?_)
    refine wp_iconst (v := nI 0) dX12_lead_77 rfl (wp_istore dX12_lead_78 ⟨Nat.le_of_ble_eq_true rfl, Or.inr rfl⟩ rfl ?_)
    refine tb_in hs1 hs2 ok1 ok2 hn1 hn2 hm1 hm2 h161 h162 (show i ≤ L1.length by omega) (L2.length + 1) 0 S _ _ _ (Nat.zero_add _) hX hM1 hM2 hC (fun p q hq => h p q (by omega)) (fun S1 y5 y6 y7 y8 f1 h1 => ?_)
    refine wp_iinc dX12_lead_299 rfl (nI_1 _) ⟨Nat.le_of_ble_eq_true rfl, Or.inr rfl⟩ rfl (wp_goto dX12_lead_302 rfl ?_)
    refine (ih (i + 1) S1 _ _ _ _ (by omega) (f1.XC hX) (hM1.fr f1 (fun i k h => by omega)) (hM2.fr f1 (fun i k h => by omega)) (fun p q hq => f1.i (hC p q hq) (by omega)) h1).mono ?_
    rintro r S' ⟨z1, z2, z3⟩
    exact ⟨z1, f1.tt z2, z3⟩
theorem m_lead {n1 n2 s1 s2 : Nat} {t1 t2 : Nat → Nat} {L1 L2 : List xLn} (b : Bool) (d : Nat) (hs1 : s1 < 6) (hs2 : s2 < 6) (ok1 : xRok t1 n1 L1) (ok2 : xRok t2 n2 L2) (hn1 : n1 ≤ 240) (hn2 : n2 ≤ 240) (hm1 : (L1.flatMap xmit).length ≤ 121) (hm2 : (L2.flatMap xmit).length ≤ 121) (h161 : L1.length ≤ 16) (h162 : L2.length ≤ 16) {S : xS} (hX : XC S) (hM1 : xRM s1 S n1 t1 L1) (hM2 : xRM s2 S n2 t2 L2) : ∃ S', xcall false (d + 2) j_X12_lead [.ref 187, .int (nI s1), .int (nI s2), .int (xB b)] S none S' ∧ xFl (fun i _ => i = 222 ∨ i = 223 ∨ i = 224 ∨ i = 225) S S' ∧ (∀ p q, p ≤ L1.length ∧ q ≤ L2.length → S'.2.1 225 (17 * p + q) = nI (xsb b t1 L1 t2 L2 p q)) := by
  have key : ∃ r S', xcall false (d + 2) j_X12_lead [.ref 187, .int (nI s1), .int (nI s2), .int (xB b)] S r S' ∧ (r = none ∧ xFl (fun i _ => i = 222 ∨ i = 223 ∨ i = 224 ∨ i = 225) S S' ∧ (∀ p q, p ≤ L1.length ∧ q ≤ L2.length → S'.2.1 225 (17 * p + q) = nI (xsb b t1 L1 t2 L2 p q))) := by
    refine xcall_some (ls := [.ref 187, .int (nI s1), .int (nI s2), .int (xB b), .float 0, .float 0, .float 0, .float 0, .float 0]) q_X12_lead (by decide) rfl (Nat.le_of_ble_eq_true rfl) rfl ?_
    refine wp_iconst (v := nI 0) dX12_lead_0 rfl (wp_istore dX12_lead_1 ⟨Nat.le_of_ble_eq_true rfl, Or.inr rfl⟩ rfl ?_)
    refine ld_out hs1 hs2 ok1 ok2 hn1 hn2 hm1 hm2 h161 h162 L1.length 0 S _ (Nat.zero_add _) hX hM1 hM2 (fun p q hq => absurd hq.1 (Nat.not_lt_zero p)) (fun S1 y4 y5 f1 h1 => ?_)
    have X1 := f1.XC hX
    refine wp_iconst (v := nI 0) dX12_lead_63 rfl (wp_istore dX12_lead_64 ⟨Nat.le_of_ble_eq_true rfl, Or.inr rfl⟩ rfl ?_)
    refine (tb_out hs1 hs2 ok1 ok2 hn1 hn2 hm1 hm2 h161 h162 (L1.length + 1) 0 S1 _ _ _ _ (Nat.zero_add _) X1 (hM1.fr f1 (fun i k h => by omega)) (hM2.fr f1 (fun i k h => by omega)) h1 (fun p q hq => absurd hq.1 (Nat.not_lt_zero p))).mono ?_
    rintro r S' ⟨z1, z2, z3⟩
    exact ⟨z1, (f1.mono (fun i k h => by omega)).tt (z2.mono (fun i k h => by omega)), z3⟩
  obtain ⟨r, S', g, rfl, z1, z2⟩ := key
  exact ⟨S', g, z1, z2⟩
theorem m_changesOf {n1 n2 s1 s2 : Nat} {t1 t2 : Nat → Nat} {L1 L2 : List xLn} (d : Nat) (hs1 : s1 < 6) (hs2 : s2 < 6) (ok1 : xRok t1 n1 L1) (ok2 : xRok t2 n2 L2) (hn1 : n1 ≤ 240) (hn2 : n2 ≤ 240) (hm1 : (L1.flatMap xmit).length ≤ 121) (hm2 : (L2.flatMap xmit).length ≤ 121) (h161 : L1.length ≤ 16) (h162 : L2.length ≤ 16) {S : xS} (hX : XC S) (hM1 : xRM s1 S n1 t1 L1) (hM2 : xRM s2 S n2 t2 L2) : ∃ S', xcall false (d + 3) j_X12_changesOf [.ref 187, .int (nI s1), .int (nI s2)] S (some (.int (nI (xchs t1 L1 t2 L2 L1.length L2.length)))) S' ∧ xFl (fun i _ => i = 222 ∨ i = 223 ∨ i = 224 ∨ i = 225) S S' := by
  obtain ⟨S1, g1, f1, h1⟩ := m_lead false d hs1 hs2 ok1 ok2 hn1 hn2 hm1 hm2 h161 h162 hX hM1 hM2
  have X1 := f1.XC hX
  have k1 := (hM1.fr f1 (fun i k h => by omega)).2.2.2.2
  have k2 := (hM2.fr f1 (fun i k h => by omega)).2.2.2.2
  have e := h1 L1.length L2.length ⟨Nat.le_refl _, Nat.le_refl _⟩
  rw [xsb_F] at e
  refine ⟨S1, ?_, f1⟩
  refine xcall_intro (ls := [.ref 187, .int (nI s1), .int (nI s2)]) q_X12_changesOf (by decide) rfl (Nat.le_of_ble_eq_true rfl) rfl ?_
  exact wp_aload_n dX12_changesOf_0 rfl rfl (wp_iload_n dX12_changesOf_1 rfl (wp_iload_n dX12_changesOf_2 rfl (wp_iconst (v := nI 0) dX12_changesOf_3 rfl (wp_iv4 dX12_changesOf_4 k11_541 q_X12_lead (by decide) (xsh hX sh_187) (by decide) (Nat.le_of_ble_eq_true rfl) g1 (wp_aload_n dX12_changesOf_7 rfl rfl (g11_370 dX12_changesOf_8 (xsh X1 sh_187) (xrr X1 r187_78) (wp_bipush (v := nI 17) dX12_changesOf_11 rfl (wp_aload_n dX12_changesOf_13 rfl rfl (g11_222 dX12_changesOf_14 (xsh X1 sh_187) (xrr X1 r187_37) (wp_iload_n dX12_changesOf_17 rfl (wn_iaload dX12_changesOf_18 (xsh X1 sh_203) rfl (by omega) (by decide) k1 (wv_imul dX12_changesOf_19 (pk_mul _ _) (wp_aload_n dX12_changesOf_20 rfl rfl (g11_222 dX12_changesOf_21 (xsh X1 sh_187) (xrr X1 r187_37) (wp_iload_n dX12_changesOf_24 rfl (wn_iaload dX12_changesOf_25 (xsh X1 sh_203) rfl (by omega) (by decide) k2 (wv_iadd dX12_changesOf_26 (nI_add _ _) (wn_iaload dX12_changesOf_27 (xsh X1 sh_225) rfl (by omega) (by decide) e (wp_ireturn dX12_changesOf_28 rfl rfl ⟨rfl, rfl⟩)))))))))))))))))))
theorem m_changes_no1 {sv tv : Int32} (d : Nat) {S : xS} (hX : XC S) (g1 : xcall false (d + 4) j_X12_has [.ref 187, .int sv] (xSI S 187 0 (nI 0)) (some (.int (xB false))) (xSI S 187 0 (nI 0))) : xcall false (d + 5) j_X12_changes [.ref 187, .int sv, .int tv] S (some (.int (-1))) (xSI S 187 0 (nI 0)) := by
  refine xcall_intro (ls := [.ref 187, .int sv, .int tv]) q_X12_changes (by decide) rfl (Nat.le_of_ble_eq_true rfl) rfl ?_
  refine wp_aload_n dX12_changes_0 rfl rfl (wp_iconst (v := nI 0) dX12_changes_1 rfl (p11_1 dX12_changes_2 (xsh hX sh_187) (wp_aload_n dX12_changes_5 rfl rfl (wp_iload_n dX12_changes_6 rfl (wp_iv2 dX12_changes_7 k11_231 q_X12_has (by decide) (xsh hX sh_187) (by decide) (Nat.le_of_ble_eq_true rfl) g1 ?_)))))
  refine wb_if_eq dX12_changes_10 rfl (fun c10 => ?_) (fun c10 => absurd c10 (by decide))
  exact wp_iconst (v := -1) dX12_changes_30 rfl (wp_ireturn dX12_changes_31 rfl rfl ⟨rfl, rfl⟩)
theorem m_changes_no2 {sv tv : Int32} (d : Nat) {S : xS} (hX : XC S) (g1 : xcall false (d + 4) j_X12_has [.ref 187, .int sv] (xSI S 187 0 (nI 0)) (some (.int (xB true))) (xSI S 187 0 (nI 0))) (g2 : xcall false (d + 4) j_X12_has [.ref 187, .int tv] (xSI S 187 0 (nI 0)) (some (.int (xB false))) (xSI S 187 0 (nI 0))) : xcall false (d + 5) j_X12_changes [.ref 187, .int sv, .int tv] S (some (.int (-1))) (xSI S 187 0 (nI 0)) := by
  refine xcall_intro (ls := [.ref 187, .int sv, .int tv]) q_X12_changes (by decide) rfl (Nat.le_of_ble_eq_true rfl) rfl ?_
  refine wp_aload_n dX12_changes_0 rfl rfl (wp_iconst (v := nI 0) dX12_changes_1 rfl (p11_1 dX12_changes_2 (xsh hX sh_187) (wp_aload_n dX12_changes_5 rfl rfl (wp_iload_n dX12_changes_6 rfl (wp_iv2 dX12_changes_7 k11_231 q_X12_has (by decide) (xsh hX sh_187) (by decide) (Nat.le_of_ble_eq_true rfl) g1 ?_)))))
  refine wb_if_eq dX12_changes_10 rfl (fun c10 => absurd c10 (by decide)) (fun c10 => ?_)
  refine wp_aload_n dX12_changes_13 rfl rfl (wp_iload_n dX12_changes_14 rfl (wp_iv2 dX12_changes_15 k11_231 q_X12_has (by decide) (xsh hX sh_187) (by decide) (Nat.le_of_ble_eq_true rfl) g2 ?_))
  refine wb_if_eq dX12_changes_18 rfl (fun c18 => ?_) (fun c18 => absurd c18 (by decide))
  exact wp_iconst (v := -1) dX12_changes_30 rfl (wp_ireturn dX12_changes_31 rfl rfl ⟨rfl, rfl⟩)
theorem m_changes {n1 n2 s1 s2 : Nat} {t1 t2 : Nat → Nat} {L1 L2 : List xLn} (d : Nat) (hs1 : s1 < 6) (hs2 : s2 < 6) (ok1 : xRok t1 n1 L1) (ok2 : xRok t2 n2 L2) (hn1 : n1 ≤ 240) (hn2 : n2 ≤ 240) (hm1 : (L1.flatMap xmit).length ≤ 121) (hm2 : (L2.flatMap xmit).length ≤ 121) (h161 : L1.length ≤ 16) (h162 : L2.length ≤ 16) {S : xS} (hX : XC S) (hM1 : xRM s1 S n1 t1 L1) (hM2 : xRM s2 S n2 t2 L2) (g1 : xcall false (d + 3) j_X12_has [.ref 187, .int (nI s1)] (xSI S 187 0 (nI 0)) (some (.int (xB true))) (xSI S 187 0 (nI 0))) (g2 : xcall false (d + 3) j_X12_has [.ref 187, .int (nI s2)] (xSI S 187 0 (nI 0)) (some (.int (xB true))) (xSI S 187 0 (nI 0))) : ∃ S', xcall false (d + 4) j_X12_changes [.ref 187, .int (nI s1), .int (nI s2)] S (some (.int (nI (xchs t1 L1 t2 L2 L1.length L2.length)))) S' ∧ xFl (fun i k => (i = 187 ∧ k = 0) ∨ i = 222 ∨ i = 223 ∨ i = 224 ∨ i = 225) S S' := by
  have F0 : xFl (fun i k => i = 187 ∧ k = 0) S (xSI S 187 0 (nI 0)) := (xFl.rf S).SI ⟨rfl, rfl⟩
  obtain ⟨S1, g3, f1⟩ := m_changesOf d hs1 hs2 ok1 ok2 hn1 hn2 hm1 hm2 h161 h162 (F0.XC hX) (hM1.fr F0 (fun i k h => by omega)) (hM2.fr F0 (fun i k h => by omega))
  refine ⟨S1, ?_, (F0.mono (fun i k h => Or.inl h)).tt (f1.mono (fun i k h => Or.inr h))⟩
  refine xcall_intro (ls := [.ref 187, .int (nI s1), .int (nI s2)]) q_X12_changes (by decide) rfl (Nat.le_of_ble_eq_true rfl) rfl ?_
  refine wp_aload_n dX12_changes_0 rfl rfl (wp_iconst (v := nI 0) dX12_changes_1 rfl (p11_1 dX12_changes_2 (xsh hX sh_187) (wp_aload_n dX12_changes_5 rfl rfl (wp_iload_n dX12_changes_6 rfl (wp_iv2 dX12_changes_7 k11_231 q_X12_has (by decide) (xsh hX sh_187) (by decide) (Nat.le_of_ble_eq_true rfl) g1 ?_)))))
  refine wb_if_eq dX12_changes_10 rfl (fun c10 => absurd c10 (by decide)) (fun c10 => ?_)
  refine wp_aload_n dX12_changes_13 rfl rfl (wp_iload_n dX12_changes_14 rfl (wp_iv2 dX12_changes_15 k11_231 q_X12_has (by decide) (xsh hX sh_187) (by decide) (Nat.le_of_ble_eq_true rfl) g2 ?_))
  refine wb_if_eq dX12_changes_18 rfl (fun c18 => absurd c18 (by decide)) (fun c18 => ?_)
  exact wp_aload_n dX12_changes_21 rfl rfl (wp_iload_n dX12_changes_22 rfl (wp_iload_n dX12_changes_23 rfl (wp_iv3 dX12_changes_24 k11_545 q_X12_changesOf (by decide) (xsh hX sh_187) (by decide) (Nat.le_of_ble_eq_true rfl) g3 (wp_goto dX12_changes_27 rfl (wp_ireturn dX12_changes_31 rfl rfl ⟨rfl, rfl⟩)))))
