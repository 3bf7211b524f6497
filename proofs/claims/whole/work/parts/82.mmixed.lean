/-! mixed of the reference -/
def xABm (S : xS) (el : Nat → Bool) (ah bh : Nat → Nat → Nat) (n k : Nat) : Prop := ∀ t, t < k → el t = true → ∀ i, i ≤ n → S.2.1 226 (17 * t + i) = nI (ah t i) ∧ S.2.1 227 (17 * t + i) = nI (bh t i)
theorem xbs_map {β γ : Type} (f : Nat × β → Nat × γ) (hf : ∀ x, (f x).1 = x.1) (m : Option (Nat × β)) (c : Nat × β) : (xbs m c).map f = xbs (m.map f) (f c) := by
  cases m with
  | none => rfl
  | some x =>
    rcases Nat.lt_or_ge c.1 x.1 with w | w
    · rw [xbs_L w]
      exact (xbs_L (by rw [hf, hf]; exact w)).symm
    · rw [xbs_G w]
      exact (xbs_G (by rw [hf, hf]; exact w)).symm
theorem lo_loop {m n i t d : Nat} {V : Nat → Nat → Nat} (ht : t < 6) (hm : m ≤ 16) (hn : n ≤ 16) (hi : i ≤ n) (hv : ∀ p q, V p q ≤ 1000000) {S : xS} (hX : XC S) (k1 : S.2.1 203 t = nI m) (hT : (∀ p q, p ≤ m ∧ q ≤ n → S.2.1 225 (17 * p + q) = nI (V p q))) : ∀ (r j : Nat), j + r = m → Wp false d 11 cX12_leastOf (some .int) false 10 [.ref 187, .int (nI t), .int (nI i), .int (nI (xmn (fun j => V j i) j)), .int (nI (j + 1))] [] S (fun r S' => r = some (.int (nI (xmn (fun j => V j i) m))) ∧ S' = S) := by
  intro r
  induction r with
  | zero =>
    intro j hj
    have hjj : j = m := by omega
    subst hjj
    refine wp_iload dX12_leastOf_10 rfl (wp_aload_n dX12_leastOf_12 rfl rfl (g11_222 dX12_leastOf_13 (xsh hX sh_187) (xrr hX r187_37) (wp_iload_n dX12_leastOf_16 rfl (wn_iaload dX12_leastOf_17 (xsh hX sh_203) rfl (by omega) (by decide) k1 ?_))))
    refine wn_icmp_gt dX12_leastOf_18 rfl (by omega) (by omega) (fun c18 => ?_) (fun c18 => absurd c18 (by omega))
    exact wp_iload_n dX12_leastOf_60 rfl (wp_ireturn dX12_leastOf_61 rfl rfl ⟨rfl, rfl⟩)
  | succ r ih =>
    intro j hj
    have nx := ih (j + 1) (by omega)
    have e := hT (j + 1) i ⟨by omega, hi⟩
    have bv := hv (j + 1) i
    have bm : (xmn (fun j => V j i) j) ≤ 1000000 := Nat.le_trans (xmn_le (fun j => V j i) j 0 (Nat.zero_le _)) (hv 0 i)
    have em : (xmn (fun j => V j i) (j + 1)) = min (xmn (fun j => V j i) j) (V (j + 1) i) := by rw [xmn]
    rcases Nat.lt_or_ge (V (j + 1) i) (xmn (fun j => V j i) j) with w | w
    · rw [show (xmn (fun j => V j i) (j + 1)) = V (j + 1) i by rw [em]; omega] at nx
      refine wp_iload dX12_leastOf_10 rfl (wp_aload_n dX12_leastOf_12 rfl rfl (g11_222 dX12_leastOf_13 (xsh hX sh_187) (xrr hX r187_37) (wp_iload_n dX12_leastOf_16 rfl (wn_iaload dX12_leastOf_17 (xsh hX sh_203) rfl (by omega) (by decide) k1 ?_))))
      refine wn_icmp_gt dX12_leastOf_18 rfl (by omega) (by omega) (fun c18 => absurd c18 (by omega)) (fun c18 => ?_)
      refine wp_aload_n dX12_leastOf_21 rfl rfl (g11_370 dX12_leastOf_22 (xsh hX sh_187) (xrr hX r187_78) (wp_bipush (v := nI 17) dX12_leastOf_25 rfl (wp_iload dX12_leastOf_27 rfl (wv_imul dX12_leastOf_29 (pk_mul _ _) (wp_iload_n dX12_leastOf_30 rfl (wv_iadd dX12_leastOf_31 (nI_add _ _) (wn_iaload dX12_leastOf_32 (xsh hX sh_225) rfl (by omega) (by decide) e (wp_iload_n dX12_leastOf_33 rfl ?_))))))))
      refine wn_icmp_ge dX12_leastOf_34 rfl (by omega) (by omega) (fun c34 => absurd c34 (by omega)) (fun c34 => ?_)
      exact wp_aload_n dX12_leastOf_37 rfl rfl (g11_370 dX12_leastOf_38 (xsh hX sh_187) (xrr hX r187_78) (wp_bipush (v := nI 17) dX12_leastOf_41 rfl (wp_iload dX12_leastOf_43 rfl (wv_imul dX12_leastOf_45 (pk_mul _ _) (wp_iload_n dX12_leastOf_46 rfl (wv_iadd dX12_leastOf_47 (nI_add _ _) (wn_iaload dX12_leastOf_48 (xsh hX sh_225) rfl (by omega) (by decide) e (wp_goto dX12_leastOf_49 rfl (wp_istore_n dX12_leastOf_53 ⟨Nat.le_of_ble_eq_true rfl, Or.inr rfl⟩ rfl (wp_iinc dX12_leastOf_54 rfl (nI_1 _) ⟨Nat.le_of_ble_eq_true rfl, Or.inr rfl⟩ rfl (wp_goto dX12_leastOf_57 rfl nx)))))))))))
    · rw [show (xmn (fun j => V j i) (j + 1)) = (xmn (fun j => V j i) j) by rw [em]; omega] at nx
      refine wp_iload dX12_leastOf_10 rfl (wp_aload_n dX12_leastOf_12 rfl rfl (g11_222 dX12_leastOf_13 (xsh hX sh_187) (xrr hX r187_37) (wp_iload_n dX12_leastOf_16 rfl (wn_iaload dX12_leastOf_17 (xsh hX sh_203) rfl (by omega) (by decide) k1 ?_))))
      refine wn_icmp_gt dX12_leastOf_18 rfl (by omega) (by omega) (fun c18 => absurd c18 (by omega)) (fun c18 => ?_)
      refine wp_aload_n dX12_leastOf_21 rfl rfl (g11_370 dX12_leastOf_22 (xsh hX sh_187) (xrr hX r187_78) (wp_bipush (v := nI 17) dX12_leastOf_25 rfl (wp_iload dX12_leastOf_27 rfl (wv_imul dX12_leastOf_29 (pk_mul _ _) (wp_iload_n dX12_leastOf_30 rfl (wv_iadd dX12_leastOf_31 (nI_add _ _) (wn_iaload dX12_leastOf_32 (xsh hX sh_225) rfl (by omega) (by decide) e (wp_iload_n dX12_leastOf_33 rfl ?_))))))))
      refine wn_icmp_ge dX12_leastOf_34 rfl (by omega) (by omega) (fun c34 => ?_) (fun c34 => absurd c34 (by omega))
      exact wp_iload_n dX12_leastOf_52 rfl (wp_istore_n dX12_leastOf_53 ⟨Nat.le_of_ble_eq_true rfl, Or.inr rfl⟩ rfl (wp_iinc dX12_leastOf_54 rfl (nI_1 _) ⟨Nat.le_of_ble_eq_true rfl, Or.inr rfl⟩ rfl (wp_goto dX12_leastOf_57 rfl nx)))
theorem m_leastOf {m n i t : Nat} (d : Nat) {V : Nat → Nat → Nat} (ht : t < 6) (hm : m ≤ 16) (hn : n ≤ 16) (hi : i ≤ n) (hv : ∀ p q, V p q ≤ 1000000) {S : xS} (hX : XC S) (k1 : S.2.1 203 t = nI m) (hT : (∀ p q, p ≤ m ∧ q ≤ n → S.2.1 225 (17 * p + q) = nI (V p q))) : xcall false d j_X12_leastOf [.ref 187, .int (nI t), .int (nI i)] S (some (.int (nI (xmn (fun j => V j i) m)))) S := by
  have e : S.2.1 225 i = nI (V 0 i) := by
    have := hT 0 i ⟨Nat.zero_le _, hi⟩
    rw [Nat.mul_zero, Nat.zero_add] at this
    exact this
  refine xcall_intro (ls := [.ref 187, .int (nI t), .int (nI i), .float 0, .float 0]) q_X12_leastOf (by decide) rfl (Nat.le_of_ble_eq_true rfl) rfl ?_
  exact wp_aload_n dX12_leastOf_0 rfl rfl (g11_370 dX12_leastOf_1 (xsh hX sh_187) (xrr hX r187_78) (wp_iload_n dX12_leastOf_4 rfl (wn_iaload dX12_leastOf_5 (xsh hX sh_225) rfl (by omega) (by decide) e (wp_istore_n dX12_leastOf_6 ⟨Nat.le_of_ble_eq_true rfl, Or.inr rfl⟩ rfl (wp_iconst (v := nI 1) dX12_leastOf_7 rfl (wp_istore dX12_leastOf_8 ⟨Nat.le_of_ble_eq_true rfl, Or.inr rfl⟩ rfl (lo_loop ht hm hn hi hv hX k1 hT m 0 (Nat.zero_add _))))))))
theorem la_loop {m n t d : Nat} {V : Nat → Nat → Nat} {x1 x2 x6 x7 x8 x9 x10 x11 : Value} (ht : t < 6) (hm : m ≤ 16) (hn : n ≤ 16) (hv : ∀ p q, V p q ≤ 1000000) {Q : Option Value → xS → Prop} : ∀ (r i : Nat) (S : xS), i + r = n + 1 → XC S → S.2.1 203 t = nI m → (∀ p q, p ≤ m ∧ q ≤ n → S.2.1 225 (17 * p + q) = nI (V p q)) → (∀ q, q < i → S.2.1 226 (17 * t + q) = nI (xmn (fun j => V j q) m)) → (∀ S' y5, xFl (fun i' k' => i' = 226 ∧ 17 * t ≤ k') S S' → (∀ q, q ≤ n → S'.2.1 226 (17 * t + q) = nI (xmn (fun j => V j q) m)) → Wp false (d + 4) 11 cX12_mixed (some .int) false 123 [.ref 187, x1, x2, .int (nI n), .int (nI t), y5, x6, x7, x8, x9, x10, x11] [] S' Q) → Wp false (d + 4) 11 cX12_mixed (some .int) false 90 [.ref 187, x1, x2, .int (nI n), .int (nI t), .int (nI i), x6, x7, x8, x9, x10, x11] [] S Q := by
  intro r
  induction r with
  | zero =>
    intro i S hi hX k1 hT h K
    have hii : i = n + 1 := by omega
    subst hii
    refine wp_iload dX12_mixed_90 rfl (wp_iload_n dX12_mixed_92 rfl ?_)
    refine wn_icmp_gt dX12_mixed_93 rfl (by omega) (by omega) (fun c93 => ?_) (fun c93 => absurd c93 (by omega))
    exact K S _ (xFl.rf S) (fun q hq => h q (by omega))
  | succ r ih =>
    intro i S hi hX k1 hT h K
    have gl := m_leastOf (d + 3) ht hm hn (show i ≤ n by omega) hv hX k1 hT
    have F0 : xFl (fun i' k' => i' = 226 ∧ k' = 17 * t + i) S (xSI S 226 (17 * t + i) (nI (xmn (fun j => V j i) m))) := (xFl.rf S).SI ⟨rfl, rfl⟩
    refine wp_iload dX12_mixed_90 rfl (wp_iload_n dX12_mixed_92 rfl ?_)
    refine wn_icmp_gt dX12_mixed_93 rfl (by omega) (by omega) (fun c93 => absurd c93 (by omega)) (fun c93 => ?_)
    refine wp_aload_n dX12_mixed_96 rfl rfl (g11_373 dX12_mixed_97 (xsh hX sh_187) (xrr hX r187_79) (wp_bipush (v := nI 17) dX12_mixed_100 rfl (wp_iload dX12_mixed_102 rfl (wv_imul dX12_mixed_104 (pk_mul _ _) (wp_iload dX12_mixed_105 rfl (wv_iadd dX12_mixed_107 (nI_add _ _) (wp_aload_n dX12_mixed_108 rfl rfl (wp_iload dX12_mixed_109 rfl (wp_iload dX12_mixed_111 rfl (wp_iv3 dX12_mixed_113 k11_548 q_X12_leastOf (by decide) (xsh hX sh_187) (by decide) (Nat.le_of_ble_eq_true rfl) gl (wn_iastore dX12_mixed_116 (xsh hX sh_226) rfl (by omega) (by decide) (wp_iinc dX12_mixed_117 rfl (nI_1 _) ⟨Nat.le_of_ble_eq_true rfl, Or.inr rfl⟩ rfl (wp_goto dX12_mixed_120 rfl ?_)))))))))))))
    refine ih (i + 1) _ (by omega) hX (F0.i k1 (by omega)) (fun p q hq => F0.i (hT p q hq) (by omega)) (fun q hq => ?_) (fun S' y5 f h' => K S' y5 ((F0.mono (fun i k h => by omega)).tt f) h')
    rcases Nat.lt_or_ge q i with w | w
    · exact F0.i (h q w) (by omega)
    · rw [show q = i by omega]; exact xI_same _ _ _ _
theorem lb_loop {m n t d : Nat} {V : Nat → Nat → Nat} {x1 x2 x6 x7 x8 x9 x10 x11 : Value} (ht : t < 6) (hm : m ≤ 16) (hn : n ≤ 16) (hv : ∀ p q, V p q ≤ 1000000) {Q : Option Value → xS → Prop} : ∀ (r i : Nat) (S : xS), i + r = n + 1 → XC S → S.2.1 203 t = nI m → (∀ p q, p ≤ m ∧ q ≤ n → S.2.1 225 (17 * p + q) = nI (V p q)) → (∀ q, q < i → S.2.1 227 (17 * t + q) = nI (xmn (fun j => V j q) m)) → (∀ S' y5, xFl (fun i' k' => i' = 227 ∧ 17 * t ≤ k') S S' → (∀ q, q ≤ n → S'.2.1 227 (17 * t + q) = nI (xmn (fun j => V j q) m)) → Wp false (d + 4) 11 cX12_mixed (some .int) false 167 [.ref 187, x1, x2, .int (nI n), .int (nI t), y5, x6, x7, x8, x9, x10, x11] [] S' Q) → Wp false (d + 4) 11 cX12_mixed (some .int) false 134 [.ref 187, x1, x2, .int (nI n), .int (nI t), .int (nI i), x6, x7, x8, x9, x10, x11] [] S Q := by
  intro r
  induction r with
  | zero =>
    intro i S hi hX k1 hT h K
    have hii : i = n + 1 := by omega
    subst hii
    refine wp_iload dX12_mixed_134 rfl (wp_iload_n dX12_mixed_136 rfl ?_)
    refine wn_icmp_gt dX12_mixed_137 rfl (by omega) (by omega) (fun c137 => ?_) (fun c137 => absurd c137 (by omega))
    exact K S _ (xFl.rf S) (fun q hq => h q (by omega))
  | succ r ih =>
    intro i S hi hX k1 hT h K
    have gl := m_leastOf (d + 3) ht hm hn (show i ≤ n by omega) hv hX k1 hT
    have F0 : xFl (fun i' k' => i' = 227 ∧ k' = 17 * t + i) S (xSI S 227 (17 * t + i) (nI (xmn (fun j => V j i) m))) := (xFl.rf S).SI ⟨rfl, rfl⟩
    refine wp_iload dX12_mixed_134 rfl (wp_iload_n dX12_mixed_136 rfl ?_)
    refine wn_icmp_gt dX12_mixed_137 rfl (by omega) (by omega) (fun c137 => absurd c137 (by omega)) (fun c137 => ?_)
    refine wp_aload_n dX12_mixed_140 rfl rfl (g11_376 dX12_mixed_141 (xsh hX sh_187) (xrr hX r187_80) (wp_bipush (v := nI 17) dX12_mixed_144 rfl (wp_iload dX12_mixed_146 rfl (wv_imul dX12_mixed_148 (pk_mul _ _) (wp_iload dX12_mixed_149 rfl (wv_iadd dX12_mixed_151 (nI_add _ _) (wp_aload_n dX12_mixed_152 rfl rfl (wp_iload dX12_mixed_153 rfl (wp_iload dX12_mixed_155 rfl (wp_iv3 dX12_mixed_157 k11_548 q_X12_leastOf (by decide) (xsh hX sh_187) (by decide) (Nat.le_of_ble_eq_true rfl) gl (wn_iastore dX12_mixed_160 (xsh hX sh_227) rfl (by omega) (by decide) (wp_iinc dX12_mixed_161 rfl (nI_1 _) ⟨Nat.le_of_ble_eq_true rfl, Or.inr rfl⟩ rfl (wp_goto dX12_mixed_164 rfl ?_)))))))))))))
    refine ih (i + 1) _ (by omega) hX (F0.i k1 (by omega)) (fun p q hq => F0.i (hT p q hq) (by omega)) (fun q hq => ?_) (fun S' y5 f h' => K S' y5 ((F0.mono (fun i k h => by omega)).tt f) h')
    rcases Nat.lt_or_ge q i with w | w
    · exact F0.i (h q w) (by omega)
    · rw [show q = i by omega]; exact xI_same _ _ _ _
theorem me_loop {σ : xSv} {δ : Nat → Int32} {s n2 : Nat} {t2 : Nat → Nat} {L2 : List xLn} {x2 x6 x7 x8 x9 x10 x11 : Value} {d : Nat} (hs : s < 6) (es : σ s = some (n2, t2, L2)) {Q : Option Value → xS → Prop} : ∀ (r t : Nat) (S : xS) (y5 : Value), t + r = 6 → XC S → xMl S σ → xDM S σ δ → xABm S (xel σ δ s) (xahn σ s) (xbhn σ s) L2.length t → (∀ S' y4 y5, xFl (fun i _ => 222 ≤ i ∧ i ≤ 227) S S' → xABm S' (xel σ δ s) (xahn σ s) (xbhn σ s) L2.length 6 → Wp false (d + 4) 11 cX12_mixed (some .int) false 173 [.ref 187, .int (nI s), x2, .int (nI L2.length), y4, y5, x6, x7, x8, x9, x10, x11] [] S' Q) → Wp false (d + 4) 11 cX12_mixed (some .int) false 44 [.ref 187, .int (nI s), x2, .int (nI L2.length), .int (nI t), y5, x6, x7, x8, x9, x10, x11] [] S Q := by
  have hσ : σ s ≠ none := by rw [es]; intro w; cases w
  intro r
  induction r with
  | zero =>
    intro t S y5 ht hX hM hD hA K
    have htt : t = 6 := by omega
    subst htt
    refine wp_iload dX12_mixed_44 rfl (wp_bipush (v := nI 6) dX12_mixed_46 rfl ?_)
    refine wn_icmp_ge dX12_mixed_48 rfl (by omega) (by omega) (fun c48 => ?_) (fun c48 => absurd c48 (by omega))
    exact K S _ _ (xFl.rf S) hA
  | succ r ih =>
    intro t S y5 ht hX hM hD hA K
    have gh := m_has_n (k := t) (d + 3) (by omega) hX hM
    have ds := hD s hs hσ
    have skip : xel σ δ s t = false → ∀ y5, Wp false (d + 4) 11 cX12_mixed (some .int) false 44 [.ref 187, .int (nI s), x2, .int (nI L2.length), .int (nI (t + 1)), y5, x6, x7, x8, x9, x10, x11] [] S Q := fun e y5 => ih (t + 1) S y5 (by omega) hX hM hD (fun p hp ep => by
      rcases Nat.lt_or_ge p t with q | q
      · exact hA p q ep
      · rw [show p = t by omega, e] at ep; cases ep) K
    cases et : σ t with
    | none =>
      have e : xel σ δ s t = false := by unfold xel; rw [et]; rfl
      have nx := skip e
      rw [et] at gh
      refine wp_iload dX12_mixed_44 rfl (wp_bipush (v := nI 6) dX12_mixed_46 rfl ?_)
      refine wn_icmp_ge dX12_mixed_48 rfl (by omega) (by omega) (fun c48 => absurd c48 (by omega)) (fun c48 => ?_)
      refine wp_aload_n dX12_mixed_51 rfl rfl (wp_iload dX12_mixed_52 rfl (wp_iv2 dX12_mixed_54 k11_231 q_X12_has (by decide) (xsh hX sh_187) (by decide) (Nat.le_of_ble_eq_true rfl) gh ?_))
      refine wb_if_eq dX12_mixed_57 rfl (fun c57 => ?_) (fun c57 => absurd c57 (by decide))
      exact wp_iinc dX12_mixed_167 rfl (nI_1 _) ⟨Nat.le_of_ble_eq_true rfl, Or.inr rfl⟩ rfl (wp_goto dX12_mixed_170 rfl (nx _))
    | some x =>
      obtain ⟨n1, t1, L1⟩ := x
      rw [et] at gh
      have dt := hD t (by omega) (by rw [et]; intro w; cases w)
      rcases Decidable.em (δ t < δ s) with w | w
      · have e : xel σ δ s t = true := by unfold xel; rw [et, decide_eq_true w]; rfl
        obtain ⟨M1, ok1, hn1, h161, hm1⟩ := (hM t (by omega)).2 n1 t1 L1 et
        obtain ⟨M2, ok2, hn2, h162, hm2⟩ := (hM s hs).2 n2 t2 L2 es
        obtain ⟨S1, g1, f1, c1⟩ := m_lead false (d + 1) (show t < 6 by omega) hs ok1 ok2 hn1 hn2 hm1 hm2 h161 h162 hX M1 M2
        have X1 := f1.XC hX
        have hM1 := hM.fr f1 (fun i k h => by omega)
        have e1 : ∀ i, xahn σ s t i = xah t1 L1 t2 L2 i := fun i => by unfold xahn; rw [et, es]
        have e2 : ∀ i, xbhn σ s t i = xbh t1 L1 t2 L2 i := fun i => by unfold xbhn; rw [et, es]
        refine wp_iload dX12_mixed_44 rfl (wp_bipush (v := nI 6) dX12_mixed_46 rfl ?_)
        refine wn_icmp_ge dX12_mixed_48 rfl (by omega) (by omega) (fun c48 => absurd c48 (by omega)) (fun c48 => ?_)
        refine wp_aload_n dX12_mixed_51 rfl rfl (wp_iload dX12_mixed_52 rfl (wp_iv2 dX12_mixed_54 k11_231 q_X12_has (by decide) (xsh hX sh_187) (by decide) (Nat.le_of_ble_eq_true rfl) gh ?_))
        refine wb_if_eq dX12_mixed_57 rfl (fun c57 => absurd c57 (by simp)) (fun c57 => ?_)
        refine wp_aload_n dX12_mixed_60 rfl rfl (g11_225 dX12_mixed_61 (xsh hX sh_187) (xrr hX r187_38) (wp_iload dX12_mixed_64 rfl (wn_iaload dX12_mixed_66 (xsh hX sh_204) rfl (by omega) (by decide) dt (wp_aload_n dX12_mixed_67 rfl rfl (g11_225 dX12_mixed_68 (xsh hX sh_187) (xrr hX r187_38) (wp_iload_n dX12_mixed_71 rfl (wn_iaload dX12_mixed_72 (xsh hX sh_204) rfl (by omega) (by decide) ds ?_)))))))
        refine wp_icmp_lt dX12_mixed_73 rfl (fun c73 => ?_) (fun c73 => absurd c73 (not_not_intro w))
        refine wp_aload_n dX12_mixed_79 rfl rfl (wp_iload dX12_mixed_80 rfl (wp_iload_n dX12_mixed_82 rfl (wp_iconst (v := nI 0) dX12_mixed_83 rfl (wp_iv4 dX12_mixed_84 k11_541 q_X12_lead (by decide) (xsh hX sh_187) (by decide) (Nat.le_of_ble_eq_true rfl) g1 (wp_iconst (v := nI 0) dX12_mixed_87 rfl (wp_istore dX12_mixed_88 ⟨Nat.le_of_ble_eq_true rfl, Or.inr rfl⟩ rfl ?_))))))
        refine la_loop (m := L1.length) (V := xsb false t1 L1 t2 L2) (show t < 6 by omega) h161 h162 (fun p q => xsb_le _ _ _ _ _ _ _) (L2.length + 1) 0 S1 (Nat.zero_add _) X1 (M1.fr f1 (fun i k h => by omega)).2.2.2.2 c1 (fun q hq => absurd hq (Nat.not_lt_zero q)) (fun S2 y5 f2 h2 => ?_)
        have X2 := f2.XC X1
        have hM2 := hM1.fr f2 (fun i k h => by omega)
        obtain ⟨N1, _⟩ := (hM2 t (by omega)).2 n1 t1 L1 et
        obtain ⟨N2, _⟩ := (hM2 s hs).2 n2 t2 L2 es
        obtain ⟨S3, g3, f3, c3⟩ := m_lead true (d + 1) (show t < 6 by omega) hs ok1 ok2 hn1 hn2 hm1 hm2 h161 h162 X2 N1 N2
        have X3 := f3.XC X2
        have hM3 := hM2.fr f3 (fun i k h => by omega)
        refine wp_aload_n dX12_mixed_123 rfl rfl (wp_iload dX12_mixed_124 rfl (wp_iload_n dX12_mixed_126 rfl (wp_iconst (v := nI 1) dX12_mixed_127 rfl (wp_iv4 dX12_mixed_128 k11_541 q_X12_lead (by decide) (xsh X2 sh_187) (by decide) (Nat.le_of_ble_eq_true rfl) g3 (wp_iconst (v := nI 0) dX12_mixed_131 rfl (wp_istore dX12_mixed_132 ⟨Nat.le_of_ble_eq_true rfl, Or.inr rfl⟩ rfl ?_))))))
        refine lb_loop (m := L1.length) (V := xsb true t1 L1 t2 L2) (show t < 6 by omega) h161 h162 (fun p q => xsb_le _ _ _ _ _ _ _) (L2.length + 1) 0 S3 (Nat.zero_add _) X3 (N1.fr f3 (fun i k h => by omega)).2.2.2.2 c3 (fun q hq => absurd hq (Nat.not_lt_zero q)) (fun S4 y5 f4 h4 => ?_)
        have X4 := f4.XC X3
        have F4 : xFl (fun i _ => 222 ≤ i ∧ i ≤ 227) S S4 := (((f1.mono (fun i k h => by omega)).tt (f2.mono (fun i k h => by omega))).tt (f3.mono (fun i k h => by omega))).tt (f4.mono (fun i k h => by omega))
        have hM4 := hM3.fr f4 (fun i k h => by omega)
        have nx := fun y5 => ih (t + 1) S4 y5 (by omega) X4 hM4 (hD.fr F4 (fun k h => by omega)) (fun p hp ep i hi => by
          rcases Nat.lt_or_ge p t with q | q
          · obtain ⟨z1, z2⟩ := hA p q ep i hi
            exact ⟨f4.i (f3.i (f2.i (f1.i z1 (by omega)) (by omega)) (by omega)) (by omega), f4.i (f3.i (f2.i (f1.i z2 (by omega)) (by omega)) (by omega)) (by omega)⟩
          · rw [show p = t by omega, e1, e2]
            exact ⟨f4.i (f3.i (h2 i hi) (by omega)) (by omega), h4 i hi⟩) (fun S' y4 y5 f h' => K S' y4 y5 (F4.tt f) h')
        exact wp_iinc dX12_mixed_167 rfl (nI_1 _) ⟨Nat.le_of_ble_eq_true rfl, Or.inr rfl⟩ rfl (wp_goto dX12_mixed_170 rfl (nx _))
      · have e : xel σ δ s t = false := by unfold xel; rw [et, decide_eq_false w]; rfl
        have nx := skip e
        refine wp_iload dX12_mixed_44 rfl (wp_bipush (v := nI 6) dX12_mixed_46 rfl ?_)
        refine wn_icmp_ge dX12_mixed_48 rfl (by omega) (by omega) (fun c48 => absurd c48 (by omega)) (fun c48 => ?_)
        refine wp_aload_n dX12_mixed_51 rfl rfl (wp_iload dX12_mixed_52 rfl (wp_iv2 dX12_mixed_54 k11_231 q_X12_has (by decide) (xsh hX sh_187) (by decide) (Nat.le_of_ble_eq_true rfl) gh ?_))
        refine wb_if_eq dX12_mixed_57 rfl (fun c57 => absurd c57 (by simp)) (fun c57 => ?_)
        refine wp_aload_n dX12_mixed_60 rfl rfl (g11_225 dX12_mixed_61 (xsh hX sh_187) (xrr hX r187_38) (wp_iload dX12_mixed_64 rfl (wn_iaload dX12_mixed_66 (xsh hX sh_204) rfl (by omega) (by decide) dt (wp_aload_n dX12_mixed_67 rfl rfl (g11_225 dX12_mixed_68 (xsh hX sh_187) (xrr hX r187_38) (wp_iload_n dX12_mixed_71 rfl (wn_iaload dX12_mixed_72 (xsh hX sh_204) rfl (by omega) (by decide) ds ?_)))))))
        refine wp_icmp_lt dX12_mixed_73 rfl (fun c73 => absurd c73 w) (fun c73 => ?_)
        exact wp_goto dX12_mixed_76 rfl (wp_iinc dX12_mixed_167 rfl (nI_1 _) ⟨Nat.le_of_ble_eq_true rfl, Or.inr rfl⟩ rfl (wp_goto dX12_mixed_170 rfl (nx _)))
theorem mz_cut {σ : xSv} {δ : Nat → Int32} {s n2 : Nat} {t2 : Nat → Nat} {L2 : List xLn} {w a b d : Nat} {acc : Option (Nat × Nat × Nat × Nat)} (hs : s < 6) (es : σ s = some (n2, t2, L2)) (h162 : L2.length ≤ 16) (h1 : 1 ≤ L2.length) (ha : a < 6) (hb : b < 6) (ea : xel σ δ s a = true) (eb : xel σ δ s b = true) (kb : xkb acc) {S : xS} (hX : XC S) (hM : xMl S σ) (hD : xDM S σ δ) (hA : xABm S (xel σ δ s) (xahn σ s) (xbhn σ s) L2.length 6) {Q : Option Value → xS → Prop} (K : ∀ y10 y11, Wp false (d + 4) 11 cX12_mixed (some .int) false 342 [.ref 187, .int (nI s), .int (nI w), .int (nI L2.length), .int (xq0 (xjn acc ((xcu (xmc σ s L2.length a b) (L2.length - 1)).map (fun x => (x.1, a, b, x.2))))), .int (xq1 (xjn acc ((xcu (xmc σ s L2.length a b) (L2.length - 1)).map (fun x => (x.1, a, b, x.2))))), .int (xq2 (xjn acc ((xcu (xmc σ s L2.length a b) (L2.length - 1)).map (fun x => (x.1, a, b, x.2))))), .int (xq3 (xjn acc ((xcu (xmc σ s L2.length a b) (L2.length - 1)).map (fun x => (x.1, a, b, x.2))))), .int (nI a), .int (nI b), y10, y11] [] S Q) : ∀ (r k : Nat) (y11 : Value), k + r = L2.length - 1 → Wp false (d + 4) 11 cX12_mixed (some .int) false 268 [.ref 187, .int (nI s), .int (nI w), .int (nI L2.length), .int (xq0 (xjn acc ((xcu (xmc σ s L2.length a b) k).map (fun x => (x.1, a, b, x.2))))), .int (xq1 (xjn acc ((xcu (xmc σ s L2.length a b) k).map (fun x => (x.1, a, b, x.2))))), .int (xq2 (xjn acc ((xcu (xmc σ s L2.length a b) k).map (fun x => (x.1, a, b, x.2))))), .int (xq3 (xjn acc ((xcu (xmc σ s L2.length a b) k).map (fun x => (x.1, a, b, x.2))))), .int (nI a), .int (nI b), .int (nI (k + 1)), y11] [] S Q := by
  intro r
  induction r with
  | zero =>
    intro k y11 hk
    have hkk : k = L2.length - 1 := by omega
    subst hkk
    refine wp_iload dX12_mixed_268 rfl (wp_iload_n dX12_mixed_270 rfl ?_)
    refine wn_icmp_ge dX12_mixed_271 rfl (by omega) (by omega) (fun c271 => ?_) (fun c271 => absurd c271 (by omega))
    exact K _ _
  | succ r ih =>
    intro k y11 hk
    have nx := fun y11 => ih (k + 1) y11 (by omega)
    have v1 := (hA a ha ea (k + 1) (by omega)).1
    have v2 := (hA b hb eb (L2.length - (k + 1)) (by omega)).2
    have b1 := xahn_le σ s a (k + 1)
    have b2 := xbhn_le σ s b (L2.length - (k + 1))
    have ev : xmc σ s L2.length a b (k + 1) = xahn σ s a (k + 1) + xbhn σ s b (L2.length - (k + 1)) := rfl
    have ej : (xjn acc ((xcu (xmc σ s L2.length a b) (k + 1)).map (fun x => (x.1, a, b, x.2)))) = xbs (xjn acc ((xcu (xmc σ s L2.length a b) k).map (fun x => (x.1, a, b, x.2)))) (xmc σ s L2.length a b (k + 1), a, b, k + 1) := by
      rw [xcu, xbs_map (fun x => (x.1, a, b, x.2)) (fun _ => rfl), xjn_bs]
    have kk : xkb (xjn acc ((xcu (xmc σ s L2.length a b) k).map (fun x => (x.1, a, b, x.2)))) := xkb_jn kb (fun v a' b' q e => by
      cases h : xcu (xmc σ s L2.length a b) k with
      | none => rw [h] at e; cases e
      | some x =>
        rw [h] at e
        cases e
        have := xcu_b (xmc σ s L2.length a b) k x.1 x.2 h
        have := xmc_le σ s L2.length a b x.2
        exact ⟨by omega, ha, hb, by omega⟩)
    rw [ej, ev] at nx
    generalize (xjn acc ((xcu (xmc σ s L2.length a b) k).map (fun x => (x.1, a, b, x.2)))) = J at nx kk ⊢
    cases J with
    | none =>
      refine wp_iload dX12_mixed_268 rfl (wp_iload_n dX12_mixed_270 rfl ?_)
      refine wn_icmp_ge dX12_mixed_271 rfl (by omega) (by omega) (fun c271 => absurd c271 (by omega)) (fun c271 => ?_)
      refine wp_aload_n dX12_mixed_274 rfl rfl (g11_373 dX12_mixed_275 (xsh hX sh_187) (xrr hX r187_79) (wp_bipush (v := nI 17) dX12_mixed_278 rfl (wp_iload dX12_mixed_280 rfl (wv_imul dX12_mixed_282 (pk_mul _ _) (wp_iload dX12_mixed_283 rfl (wv_iadd dX12_mixed_285 (nI_add _ _) (wn_iaload dX12_mixed_286 (xsh hX sh_226) rfl (by omega) (by decide) v1 (wp_aload_n dX12_mixed_287 rfl rfl (g11_376 dX12_mixed_288 (xsh hX sh_187) (xrr hX r187_80) (wp_bipush (v := nI 17) dX12_mixed_291 rfl (wp_iload dX12_mixed_293 rfl (wv_imul dX12_mixed_295 (pk_mul _ _) (wp_iload_n dX12_mixed_296 rfl (wv_iadd dX12_mixed_297 (nI_add _ _) (wp_iload dX12_mixed_298 rfl (wv_isub dX12_mixed_300 (show nI _ - nI _ = nI (17 * b + (L2.length - (k + 1))) from (pk_sub (by omega)).trans (congrArg nI (by omega))) (wn_iaload dX12_mixed_301 (xsh hX sh_227) rfl (by omega) (by decide) v2 (wv_iadd dX12_mixed_302 (nI_add _ _) (wp_istore dX12_mixed_303 ⟨Nat.le_of_ble_eq_true rfl, Or.inr rfl⟩ rfl (wp_iload dX12_mixed_305 rfl ?_))))))))))))))))))))
      refine wp_if_lt dX12_mixed_307 rfl (fun c307 => ?_) (fun c307 => absurd c307 (not_not_intro (show (-1 : Int32) < 0 by decide)))
      exact wp_iload dX12_mixed_320 rfl (wp_istore dX12_mixed_322 ⟨Nat.le_of_ble_eq_true rfl, Or.inr rfl⟩ rfl (wp_iload dX12_mixed_324 rfl (wp_istore dX12_mixed_326 ⟨Nat.le_of_ble_eq_true rfl, Or.inr rfl⟩ rfl (wp_iload dX12_mixed_328 rfl (wp_istore dX12_mixed_330 ⟨Nat.le_of_ble_eq_true rfl, Or.inr rfl⟩ rfl (wp_iload dX12_mixed_332 rfl (wp_istore dX12_mixed_334 ⟨Nat.le_of_ble_eq_true rfl, Or.inr rfl⟩ rfl (wp_iinc dX12_mixed_336 rfl (nI_1 _) ⟨Nat.le_of_ble_eq_true rfl, Or.inr rfl⟩ rfl (wp_goto dX12_mixed_339 rfl (nx _))))))))))
    | some z =>
      obtain ⟨v', a', b', q'⟩ := z
      have kb1 := (kk v' a' b' q' rfl).1
      have w0 : xq0 (some (v', a', b', q')) = nI v' := rfl
      rcases Nat.lt_or_ge (xahn σ s a (k + 1) + xbhn σ s b (L2.length - (k + 1))) v' with w | w
      · rw [xbs_L (c := (xahn σ s a (k + 1) + xbhn σ s b (L2.length - (k + 1)), a, b, k + 1)) (x := (v', a', b', q')) w] at nx
        refine wp_iload dX12_mixed_268 rfl (wp_iload_n dX12_mixed_270 rfl ?_)
        refine wn_icmp_ge dX12_mixed_271 rfl (by omega) (by omega) (fun c271 => absurd c271 (by omega)) (fun c271 => ?_)
        refine wp_aload_n dX12_mixed_274 rfl rfl (g11_373 dX12_mixed_275 (xsh hX sh_187) (xrr hX r187_79) (wp_bipush (v := nI 17) dX12_mixed_278 rfl (wp_iload dX12_mixed_280 rfl (wv_imul dX12_mixed_282 (pk_mul _ _) (wp_iload dX12_mixed_283 rfl (wv_iadd dX12_mixed_285 (nI_add _ _) (wn_iaload dX12_mixed_286 (xsh hX sh_226) rfl (by omega) (by decide) v1 (wp_aload_n dX12_mixed_287 rfl rfl (g11_376 dX12_mixed_288 (xsh hX sh_187) (xrr hX r187_80) (wp_bipush (v := nI 17) dX12_mixed_291 rfl (wp_iload dX12_mixed_293 rfl (wv_imul dX12_mixed_295 (pk_mul _ _) (wp_iload_n dX12_mixed_296 rfl (wv_iadd dX12_mixed_297 (nI_add _ _) (wp_iload dX12_mixed_298 rfl (wv_isub dX12_mixed_300 (show nI _ - nI _ = nI (17 * b + (L2.length - (k + 1))) from (pk_sub (by omega)).trans (congrArg nI (by omega))) (wn_iaload dX12_mixed_301 (xsh hX sh_227) rfl (by omega) (by decide) v2 (wv_iadd dX12_mixed_302 (nI_add _ _) (wp_istore dX12_mixed_303 ⟨Nat.le_of_ble_eq_true rfl, Or.inr rfl⟩ rfl (wp_iload dX12_mixed_305 rfl ?_))))))))))))))))))))
        refine wp_if_lt dX12_mixed_307 rfl (fun c307 => absurd c307 (xge_m1 (show v' < 2 ^ 31 by omega))) (fun c307 => ?_)
        refine wp_iload dX12_mixed_310 rfl (wp_iload dX12_mixed_312 rfl ?_)
        refine wn_icmp_lt dX12_mixed_314 rfl (by omega) (by omega) (fun c314 => ?_) (fun c314 => absurd c314 (by omega))
        exact wp_iload dX12_mixed_320 rfl (wp_istore dX12_mixed_322 ⟨Nat.le_of_ble_eq_true rfl, Or.inr rfl⟩ rfl (wp_iload dX12_mixed_324 rfl (wp_istore dX12_mixed_326 ⟨Nat.le_of_ble_eq_true rfl, Or.inr rfl⟩ rfl (wp_iload dX12_mixed_328 rfl (wp_istore dX12_mixed_330 ⟨Nat.le_of_ble_eq_true rfl, Or.inr rfl⟩ rfl (wp_iload dX12_mixed_332 rfl (wp_istore dX12_mixed_334 ⟨Nat.le_of_ble_eq_true rfl, Or.inr rfl⟩ rfl (wp_iinc dX12_mixed_336 rfl (nI_1 _) ⟨Nat.le_of_ble_eq_true rfl, Or.inr rfl⟩ rfl (wp_goto dX12_mixed_339 rfl (nx _))))))))))
      · rw [xbs_G (c := (xahn σ s a (k + 1) + xbhn σ s b (L2.length - (k + 1)), a, b, k + 1)) (x := (v', a', b', q')) w] at nx
        refine wp_iload dX12_mixed_268 rfl (wp_iload_n dX12_mixed_270 rfl ?_)
        refine wn_icmp_ge dX12_mixed_271 rfl (by omega) (by omega) (fun c271 => absurd c271 (by omega)) (fun c271 => ?_)
        refine wp_aload_n dX12_mixed_274 rfl rfl (g11_373 dX12_mixed_275 (xsh hX sh_187) (xrr hX r187_79) (wp_bipush (v := nI 17) dX12_mixed_278 rfl (wp_iload dX12_mixed_280 rfl (wv_imul dX12_mixed_282 (pk_mul _ _) (wp_iload dX12_mixed_283 rfl (wv_iadd dX12_mixed_285 (nI_add _ _) (wn_iaload dX12_mixed_286 (xsh hX sh_226) rfl (by omega) (by decide) v1 (wp_aload_n dX12_mixed_287 rfl rfl (g11_376 dX12_mixed_288 (xsh hX sh_187) (xrr hX r187_80) (wp_bipush (v := nI 17) dX12_mixed_291 rfl (wp_iload dX12_mixed_293 rfl (wv_imul dX12_mixed_295 (pk_mul _ _) (wp_iload_n dX12_mixed_296 rfl (wv_iadd dX12_mixed_297 (nI_add _ _) (wp_iload dX12_mixed_298 rfl (wv_isub dX12_mixed_300 (show nI _ - nI _ = nI (17 * b + (L2.length - (k + 1))) from (pk_sub (by omega)).trans (congrArg nI (by omega))) (wn_iaload dX12_mixed_301 (xsh hX sh_227) rfl (by omega) (by decide) v2 (wv_iadd dX12_mixed_302 (nI_add _ _) (wp_istore dX12_mixed_303 ⟨Nat.le_of_ble_eq_true rfl, Or.inr rfl⟩ rfl (wp_iload dX12_mixed_305 rfl ?_))))))))))))))))))))
        refine wp_if_lt dX12_mixed_307 rfl (fun c307 => absurd c307 (xge_m1 (show v' < 2 ^ 31 by omega))) (fun c307 => ?_)
        refine wp_iload dX12_mixed_310 rfl (wp_iload dX12_mixed_312 rfl ?_)
        refine wn_icmp_lt dX12_mixed_314 rfl (by omega) (by omega) (fun c314 => absurd c314 (by omega)) (fun c314 => ?_)
        exact wp_goto dX12_mixed_317 rfl (wp_iinc dX12_mixed_336 rfl (nI_1 _) ⟨Nat.le_of_ble_eq_true rfl, Or.inr rfl⟩ rfl (wp_goto dX12_mixed_339 rfl (nx _)))
theorem mz_in {σ : xSv} {δ : Nat → Int32} {s n2 : Nat} {t2 : Nat → Nat} {L2 : List xLn} {w a d : Nat} (hs : s < 6) (es : σ s = some (n2, t2, L2)) (h162 : L2.length ≤ 16) (h1 : 1 ≤ L2.length) (ha : a < 6) {S : xS} (hX : XC S) (hM : xMl S σ) (hD : xDM S σ δ) (hA : xABm S (xel σ δ s) (xahn σ s) (xbhn σ s) L2.length 6) {Q : Option Value → xS → Prop} (K : ∀ y9 y10 y11, Wp false (d + 4) 11 cX12_mixed (some .int) false 348 [.ref 187, .int (nI s), .int (nI w), .int (nI L2.length), .int (xq0 (xmj (xel σ δ s) (xmc σ s L2.length) L2.length a (xmo (xel σ δ s) (xmc σ s L2.length) L2.length a) 6)), .int (xq1 (xmj (xel σ δ s) (xmc σ s L2.length) L2.length a (xmo (xel σ δ s) (xmc σ s L2.length) L2.length a) 6)), .int (xq2 (xmj (xel σ δ s) (xmc σ s L2.length) L2.length a (xmo (xel σ δ s) (xmc σ s L2.length) L2.length a) 6)), .int (xq3 (xmj (xel σ δ s) (xmc σ s L2.length) L2.length a (xmo (xel σ δ s) (xmc σ s L2.length) L2.length a) 6)), .int (nI a), y9, y10, y11] [] S Q) : ∀ (r b : Nat) (y10 y11 : Value), b + r = 6 → Wp false (d + 4) 11 cX12_mixed (some .int) false 198 [.ref 187, .int (nI s), .int (nI w), .int (nI L2.length), .int (xq0 (xmj (xel σ δ s) (xmc σ s L2.length) L2.length a (xmo (xel σ δ s) (xmc σ s L2.length) L2.length a) b)), .int (xq1 (xmj (xel σ δ s) (xmc σ s L2.length) L2.length a (xmo (xel σ δ s) (xmc σ s L2.length) L2.length a) b)), .int (xq2 (xmj (xel σ δ s) (xmc σ s L2.length) L2.length a (xmo (xel σ δ s) (xmc σ s L2.length) L2.length a) b)), .int (xq3 (xmj (xel σ δ s) (xmc σ s L2.length) L2.length a (xmo (xel σ δ s) (xmc σ s L2.length) L2.length a) b)), .int (nI a), .int (nI b), y10, y11] [] S Q := by
  have hσ : σ s ≠ none := by rw [es]; intro w; cases w
  intro r
  induction r with
  | zero =>
    intro b y10 y11 hb
    have hbb : b = 6 := by omega
    subst hbb
    refine wp_iload dX12_mixed_198 rfl (wp_bipush (v := nI 6) dX12_mixed_200 rfl ?_)
    refine wn_icmp_ge dX12_mixed_202 rfl (by omega) (by omega) (fun c202 => ?_) (fun c202 => absurd c202 (by omega))
    exact K _ _ _
  | succ r ih =>
    intro b y10 y11 hb
    have nx0 := fun y10 y11 => ih (b + 1) y10 y11 (by omega)
    have ga := m_has_n (k := a) (d + 3) ha hX hM
    have gb := m_has_n (k := b) (d + 3) (by omega) hX hM
    have ds := hD s hs hσ
    have ek : (xmj (xel σ δ s) (xmc σ s L2.length) L2.length a (xmo (xel σ δ s) (xmc σ s L2.length) L2.length a) (b + 1)) = xjn (xmj (xel σ δ s) (xmc σ s L2.length) L2.length a (xmo (xel σ δ s) (xmc σ s L2.length) L2.length a) b) (xcd (xel σ δ s) (xmc σ s L2.length) L2.length a b) := by rw [xmj]
    rw [ek] at nx0
    have skip : ¬ (a ≠ b ∧ xel σ δ s a = true ∧ xel σ δ s b = true) → ∀ (x : Unit) y10 y11, Wp false (d + 4) 11 cX12_mixed (some .int) false 198 [.ref 187, .int (nI s), .int (nI w), .int (nI L2.length), .int (xq0 (xmj (xel σ δ s) (xmc σ s L2.length) L2.length a (xmo (xel σ δ s) (xmc σ s L2.length) L2.length a) b)), .int (xq1 (xmj (xel σ δ s) (xmc σ s L2.length) L2.length a (xmo (xel σ δ s) (xmc σ s L2.length) L2.length a) b)), .int (xq2 (xmj (xel σ δ s) (xmc σ s L2.length) L2.length a (xmo (xel σ δ s) (xmc σ s L2.length) L2.length a) b)), .int (xq3 (xmj (xel σ δ s) (xmc σ s L2.length) L2.length a (xmo (xel σ δ s) (xmc σ s L2.length) L2.length a) b)), .int (nI a), .int (nI (b + 1)), y10, y11] [] S Q := fun hno _ y10 y11 => by
      have := nx0 y10 y11
      rw [show xcd (xel σ δ s) (xmc σ s L2.length) L2.length a b = none from if_neg hno] at this
      exact this
    rcases Decidable.em (a = b) with eab | eab
    · have nx := skip (fun w => w.1 eab)
      refine wp_iload dX12_mixed_198 rfl (wp_bipush (v := nI 6) dX12_mixed_200 rfl ?_)
      refine wn_icmp_ge dX12_mixed_202 rfl (by omega) (by omega) (fun c202 => absurd c202 (by omega)) (fun c202 => ?_)
      refine wp_iload dX12_mixed_205 rfl (wp_iload dX12_mixed_207 rfl ?_)
      refine wn_icmp_eq dX12_mixed_209 rfl (by omega) (by omega) (fun c209 => ?_) (fun c209 => absurd c209 (by omega))
      exact wp_iinc dX12_mixed_342 rfl (nI_1 _) ⟨Nat.le_of_ble_eq_true rfl, Or.inr rfl⟩ rfl (wp_goto dX12_mixed_345 rfl (nx () _ _))
    cases xa : σ a with
    | none =>
      have nx := skip (fun w => by have := w.2.1; unfold xel at this; rw [xa] at this; cases this)
      rw [xa] at ga
      refine wp_iload dX12_mixed_198 rfl (wp_bipush (v := nI 6) dX12_mixed_200 rfl ?_)
      refine wn_icmp_ge dX12_mixed_202 rfl (by omega) (by omega) (fun c202 => absurd c202 (by omega)) (fun c202 => ?_)
      refine wp_iload dX12_mixed_205 rfl (wp_iload dX12_mixed_207 rfl ?_)
      refine wn_icmp_eq dX12_mixed_209 rfl (by omega) (by omega) (fun c209 => absurd c209 (by omega)) (fun c209 => ?_)
      refine wp_aload_n dX12_mixed_212 rfl rfl (wp_iload dX12_mixed_213 rfl (wp_iv2 dX12_mixed_215 k11_231 q_X12_has (by decide) (xsh hX sh_187) (by decide) (Nat.le_of_ble_eq_true rfl) ga ?_))
      refine wb_if_eq dX12_mixed_218 rfl (fun c218 => ?_) (fun c218 => absurd c218 (by decide))
      exact wp_iinc dX12_mixed_342 rfl (nI_1 _) ⟨Nat.le_of_ble_eq_true rfl, Or.inr rfl⟩ rfl (wp_goto dX12_mixed_345 rfl (nx () _ _))
    | some pa =>
      rw [xa] at ga
      have da := hD a ha (by rw [xa]; intro w; cases w)
      cases xb : σ b with
      | none =>
        have nx := skip (fun w => by have := w.2.2; unfold xel at this; rw [xb] at this; cases this)
        rw [xb] at gb
        refine wp_iload dX12_mixed_198 rfl (wp_bipush (v := nI 6) dX12_mixed_200 rfl ?_)
        refine wn_icmp_ge dX12_mixed_202 rfl (by omega) (by omega) (fun c202 => absurd c202 (by omega)) (fun c202 => ?_)
        refine wp_iload dX12_mixed_205 rfl (wp_iload dX12_mixed_207 rfl ?_)
        refine wn_icmp_eq dX12_mixed_209 rfl (by omega) (by omega) (fun c209 => absurd c209 (by omega)) (fun c209 => ?_)
        refine wp_aload_n dX12_mixed_212 rfl rfl (wp_iload dX12_mixed_213 rfl (wp_iv2 dX12_mixed_215 k11_231 q_X12_has (by decide) (xsh hX sh_187) (by decide) (Nat.le_of_ble_eq_true rfl) ga ?_))
        refine wb_if_eq dX12_mixed_218 rfl (fun c218 => absurd c218 (by simp)) (fun c218 => ?_)
        refine wp_aload_n dX12_mixed_221 rfl rfl (wp_iload dX12_mixed_222 rfl (wp_iv2 dX12_mixed_224 k11_231 q_X12_has (by decide) (xsh hX sh_187) (by decide) (Nat.le_of_ble_eq_true rfl) gb ?_))
        refine wb_if_eq dX12_mixed_227 rfl (fun c227 => ?_) (fun c227 => absurd c227 (by decide))
        exact wp_iinc dX12_mixed_342 rfl (nI_1 _) ⟨Nat.le_of_ble_eq_true rfl, Or.inr rfl⟩ rfl (wp_goto dX12_mixed_345 rfl (nx () _ _))
      | some pb =>
        rw [xb] at gb
        have db := hD b (by omega) (by rw [xb]; intro w; cases w)
        rcases Decidable.em (δ a < δ s) with wa | wa
        · rcases Decidable.em (δ b < δ s) with wb | wb
          · have ea : xel σ δ s a = true := by unfold xel; rw [xa, decide_eq_true wa]; rfl
            have eb : xel σ δ s b = true := by unfold xel; rw [xb, decide_eq_true wb]; rfl
            have ec : xcd (xel σ δ s) (xmc σ s L2.length) L2.length a b = ((xcu (xmc σ s L2.length a b) (L2.length - 1)).map (fun x => (x.1, a, b, x.2))) := if_pos ⟨eab, ea, eb⟩
            rw [ec] at nx0
            have kb := xkb_mi (el := xel σ δ s) (fun a b q => xmc_le σ s L2.length a b q) h162 ha (xkb_mo (el := xel σ δ s) (fun a b q => xmc_le σ s L2.length a b q) h162 a (by omega)) b (by omega)
            have cut := mz_cut (w := w) (d := d) hs es h162 h1 ha (show b < 6 by omega) ea eb kb hX hM hD hA (Q := Q) (fun y10 y11 => by
              exact wp_iinc dX12_mixed_342 rfl (nI_1 _) ⟨Nat.le_of_ble_eq_true rfl, Or.inr rfl⟩ rfl (wp_goto dX12_mixed_345 rfl (nx0 _ _))) (L2.length - 1) 0
            refine wp_iload dX12_mixed_198 rfl (wp_bipush (v := nI 6) dX12_mixed_200 rfl ?_)
            refine wn_icmp_ge dX12_mixed_202 rfl (by omega) (by omega) (fun c202 => absurd c202 (by omega)) (fun c202 => ?_)
            refine wp_iload dX12_mixed_205 rfl (wp_iload dX12_mixed_207 rfl ?_)
            refine wn_icmp_eq dX12_mixed_209 rfl (by omega) (by omega) (fun c209 => absurd c209 (by omega)) (fun c209 => ?_)
            refine wp_aload_n dX12_mixed_212 rfl rfl (wp_iload dX12_mixed_213 rfl (wp_iv2 dX12_mixed_215 k11_231 q_X12_has (by decide) (xsh hX sh_187) (by decide) (Nat.le_of_ble_eq_true rfl) ga ?_))
            refine wb_if_eq dX12_mixed_218 rfl (fun c218 => absurd c218 (by simp)) (fun c218 => ?_)
            refine wp_aload_n dX12_mixed_221 rfl rfl (wp_iload dX12_mixed_222 rfl (wp_iv2 dX12_mixed_224 k11_231 q_X12_has (by decide) (xsh hX sh_187) (by decide) (Nat.le_of_ble_eq_true rfl) gb ?_))
            refine wb_if_eq dX12_mixed_227 rfl (fun c227 => absurd c227 (by simp)) (fun c227 => ?_)
            refine wp_aload_n dX12_mixed_230 rfl rfl (g11_225 dX12_mixed_231 (xsh hX sh_187) (xrr hX r187_38) (wp_iload dX12_mixed_234 rfl (wn_iaload dX12_mixed_236 (xsh hX sh_204) rfl (by omega) (by decide) da (wp_aload_n dX12_mixed_237 rfl rfl (g11_225 dX12_mixed_238 (xsh hX sh_187) (xrr hX r187_38) (wp_iload_n dX12_mixed_241 rfl (wn_iaload dX12_mixed_242 (xsh hX sh_204) rfl (by omega) (by decide) ds ?_)))))))
            refine wp_icmp_ge dX12_mixed_243 rfl (fun c243 => absurd c243 (Int32.not_le.mpr wa)) (fun c243 => ?_)
            refine wp_aload_n dX12_mixed_246 rfl rfl (g11_225 dX12_mixed_247 (xsh hX sh_187) (xrr hX r187_38) (wp_iload dX12_mixed_250 rfl (wn_iaload dX12_mixed_252 (xsh hX sh_204) rfl (by omega) (by decide) db (wp_aload_n dX12_mixed_253 rfl rfl (g11_225 dX12_mixed_254 (xsh hX sh_187) (xrr hX r187_38) (wp_iload_n dX12_mixed_257 rfl (wn_iaload dX12_mixed_258 (xsh hX sh_204) rfl (by omega) (by decide) ds ?_)))))))
            refine wp_icmp_lt dX12_mixed_259 rfl (fun c259 => ?_) (fun c259 => absurd c259 (not_not_intro wb))
            exact wp_iconst (v := nI 1) dX12_mixed_265 rfl (wp_istore dX12_mixed_266 ⟨Nat.le_of_ble_eq_true rfl, Or.inr rfl⟩ rfl (cut _ (Nat.zero_add _)))
          · have nx := skip (fun w => by have := w.2.2; unfold xel at this; rw [xb, decide_eq_false wb] at this; cases this)
            refine wp_iload dX12_mixed_198 rfl (wp_bipush (v := nI 6) dX12_mixed_200 rfl ?_)
            refine wn_icmp_ge dX12_mixed_202 rfl (by omega) (by omega) (fun c202 => absurd c202 (by omega)) (fun c202 => ?_)
            refine wp_iload dX12_mixed_205 rfl (wp_iload dX12_mixed_207 rfl ?_)
            refine wn_icmp_eq dX12_mixed_209 rfl (by omega) (by omega) (fun c209 => absurd c209 (by omega)) (fun c209 => ?_)
            refine wp_aload_n dX12_mixed_212 rfl rfl (wp_iload dX12_mixed_213 rfl (wp_iv2 dX12_mixed_215 k11_231 q_X12_has (by decide) (xsh hX sh_187) (by decide) (Nat.le_of_ble_eq_true rfl) ga ?_))
            refine wb_if_eq dX12_mixed_218 rfl (fun c218 => absurd c218 (by simp)) (fun c218 => ?_)
            refine wp_aload_n dX12_mixed_221 rfl rfl (wp_iload dX12_mixed_222 rfl (wp_iv2 dX12_mixed_224 k11_231 q_X12_has (by decide) (xsh hX sh_187) (by decide) (Nat.le_of_ble_eq_true rfl) gb ?_))
            refine wb_if_eq dX12_mixed_227 rfl (fun c227 => absurd c227 (by simp)) (fun c227 => ?_)
            refine wp_aload_n dX12_mixed_230 rfl rfl (g11_225 dX12_mixed_231 (xsh hX sh_187) (xrr hX r187_38) (wp_iload dX12_mixed_234 rfl (wn_iaload dX12_mixed_236 (xsh hX sh_204) rfl (by omega) (by decide) da (wp_aload_n dX12_mixed_237 rfl rfl (g11_225 dX12_mixed_238 (xsh hX sh_187) (xrr hX r187_38) (wp_iload_n dX12_mixed_241 rfl (wn_iaload dX12_mixed_242 (xsh hX sh_204) rfl (by omega) (by decide) ds ?_)))))))
            refine wp_icmp_ge dX12_mixed_243 rfl (fun c243 => absurd c243 (Int32.not_le.mpr wa)) (fun c243 => ?_)
            refine wp_aload_n dX12_mixed_246 rfl rfl (g11_225 dX12_mixed_247 (xsh hX sh_187) (xrr hX r187_38) (wp_iload dX12_mixed_250 rfl (wn_iaload dX12_mixed_252 (xsh hX sh_204) rfl (by omega) (by decide) db (wp_aload_n dX12_mixed_253 rfl rfl (g11_225 dX12_mixed_254 (xsh hX sh_187) (xrr hX r187_38) (wp_iload_n dX12_mixed_257 rfl (wn_iaload dX12_mixed_258 (xsh hX sh_204) rfl (by omega) (by decide) ds ?_)))))))
            refine wp_icmp_lt dX12_mixed_259 rfl (fun c259 => absurd c259 wb) (fun c259 => ?_)
            exact wp_goto dX12_mixed_262 rfl (wp_iinc dX12_mixed_342 rfl (nI_1 _) ⟨Nat.le_of_ble_eq_true rfl, Or.inr rfl⟩ rfl (wp_goto dX12_mixed_345 rfl (nx () _ _)))
        · have nx := skip (fun w => by have := w.2.1; unfold xel at this; rw [xa, decide_eq_false wa] at this; cases this)
          refine wp_iload dX12_mixed_198 rfl (wp_bipush (v := nI 6) dX12_mixed_200 rfl ?_)
          refine wn_icmp_ge dX12_mixed_202 rfl (by omega) (by omega) (fun c202 => absurd c202 (by omega)) (fun c202 => ?_)
          refine wp_iload dX12_mixed_205 rfl (wp_iload dX12_mixed_207 rfl ?_)
          refine wn_icmp_eq dX12_mixed_209 rfl (by omega) (by omega) (fun c209 => absurd c209 (by omega)) (fun c209 => ?_)
          refine wp_aload_n dX12_mixed_212 rfl rfl (wp_iload dX12_mixed_213 rfl (wp_iv2 dX12_mixed_215 k11_231 q_X12_has (by decide) (xsh hX sh_187) (by decide) (Nat.le_of_ble_eq_true rfl) ga ?_))
          refine wb_if_eq dX12_mixed_218 rfl (fun c218 => absurd c218 (by simp)) (fun c218 => ?_)
          refine wp_aload_n dX12_mixed_221 rfl rfl (wp_iload dX12_mixed_222 rfl (wp_iv2 dX12_mixed_224 k11_231 q_X12_has (by decide) (xsh hX sh_187) (by decide) (Nat.le_of_ble_eq_true rfl) gb ?_))
          refine wb_if_eq dX12_mixed_227 rfl (fun c227 => absurd c227 (by simp)) (fun c227 => ?_)
          refine wp_aload_n dX12_mixed_230 rfl rfl (g11_225 dX12_mixed_231 (xsh hX sh_187) (xrr hX r187_38) (wp_iload dX12_mixed_234 rfl (wn_iaload dX12_mixed_236 (xsh hX sh_204) rfl (by omega) (by decide) da (wp_aload_n dX12_mixed_237 rfl rfl (g11_225 dX12_mixed_238 (xsh hX sh_187) (xrr hX r187_38) (wp_iload_n dX12_mixed_241 rfl (wn_iaload dX12_mixed_242 (xsh hX sh_204) rfl (by omega) (by decide) ds ?_)))))))
          refine wp_icmp_ge dX12_mixed_243 rfl (fun c243 => ?_) (fun c243 => absurd c243 (not_not_intro (Int32.not_lt.mp wa)))
          exact wp_iinc dX12_mixed_342 rfl (nI_1 _) ⟨Nat.le_of_ble_eq_true rfl, Or.inr rfl⟩ rfl (wp_goto dX12_mixed_345 rfl (nx () _ _))
theorem mz_out {σ : xSv} {δ : Nat → Int32} {s n2 : Nat} {t2 : Nat → Nat} {L2 : List xLn} {w d : Nat} (hw : w ≤ 3) (hs : s < 6) (es : σ s = some (n2, t2, L2)) (h162 : L2.length ≤ 16) (h1 : 1 ≤ L2.length) {S : xS} (hX : XC S) (hM : xMl S σ) (hD : xDM S σ δ) (hA : xABm S (xel σ δ s) (xahn σ s) (xbhn σ s) L2.length 6) : ∀ (r a : Nat) (y9 y10 y11 : Value), a + r = 6 → Wp false (d + 4) 11 cX12_mixed (some .int) false 188 [.ref 187, .int (nI s), .int (nI w), .int (nI L2.length), .int (xq0 (xmo (xel σ δ s) (xmc σ s L2.length) L2.length a)), .int (xq1 (xmo (xel σ δ s) (xmc σ s L2.length) L2.length a)), .int (xq2 (xmo (xel σ δ s) (xmc σ s L2.length) L2.length a)), .int (xq3 (xmo (xel σ δ s) (xmc σ s L2.length) L2.length a)), .int (nI a), y9, y10, y11] [] S (fun r S' => r = some (.int (xmx (xmo (xel σ δ s) (xmc σ s L2.length) L2.length 6) w)) ∧ S' = S) := by
  intro r
  induction r with
  | zero =>
    intro a y9 y10 y11 ha
    have haa : a = 6 := by omega
    subst haa
    rcases (show w = 0 ∨ w = 1 ∨ w = 2 ∨ w = 3 by omega) with rfl | rfl | rfl | rfl
    · refine wp_iload dX12_mixed_188 rfl (wp_bipush (v := nI 6) dX12_mixed_190 rfl ?_)
      refine wn_icmp_ge dX12_mixed_192 rfl (by omega) (by omega) (fun c192 => ?_) (fun c192 => absurd c192 (by omega))
      refine wp_iload_n dX12_mixed_354 rfl ?_
      refine wn_if_ne dX12_mixed_355 rfl (by omega) (fun c355 => absurd c355 (by omega)) (fun c355 => ?_)
      exact wp_iload dX12_mixed_358 rfl (wp_goto dX12_mixed_360 rfl (wp_ireturn dX12_mixed_385 rfl rfl ⟨rfl, rfl⟩))
    · refine wp_iload dX12_mixed_188 rfl (wp_bipush (v := nI 6) dX12_mixed_190 rfl ?_)
      refine wn_icmp_ge dX12_mixed_192 rfl (by omega) (by omega) (fun c192 => ?_) (fun c192 => absurd c192 (by omega))
      refine wp_iload_n dX12_mixed_354 rfl ?_
      refine wn_if_ne dX12_mixed_355 rfl (by omega) (fun c355 => ?_) (fun c355 => absurd c355 (by omega))
      refine wp_iload_n dX12_mixed_363 rfl (wp_iconst (v := nI 1) dX12_mixed_364 rfl ?_)
      refine wn_icmp_ne dX12_mixed_365 rfl (by omega) (by omega) (fun c365 => absurd c365 (by omega)) (fun c365 => ?_)
      exact wp_iload dX12_mixed_368 rfl (wp_goto dX12_mixed_370 rfl (wp_ireturn dX12_mixed_385 rfl rfl ⟨rfl, rfl⟩))
    · refine wp_iload dX12_mixed_188 rfl (wp_bipush (v := nI 6) dX12_mixed_190 rfl ?_)
      refine wn_icmp_ge dX12_mixed_192 rfl (by omega) (by omega) (fun c192 => ?_) (fun c192 => absurd c192 (by omega))
      refine wp_iload_n dX12_mixed_354 rfl ?_
      refine wn_if_ne dX12_mixed_355 rfl (by omega) (fun c355 => ?_) (fun c355 => absurd c355 (by omega))
      refine wp_iload_n dX12_mixed_363 rfl (wp_iconst (v := nI 1) dX12_mixed_364 rfl ?_)
      refine wn_icmp_ne dX12_mixed_365 rfl (by omega) (by omega) (fun c365 => ?_) (fun c365 => absurd c365 (by omega))
      refine wp_iload_n dX12_mixed_373 rfl (wp_iconst (v := nI 2) dX12_mixed_374 rfl ?_)
      refine wn_icmp_ne dX12_mixed_375 rfl (by omega) (by omega) (fun c375 => absurd c375 (by omega)) (fun c375 => ?_)
      exact wp_iload dX12_mixed_378 rfl (wp_goto dX12_mixed_380 rfl (wp_ireturn dX12_mixed_385 rfl rfl ⟨rfl, rfl⟩))
    · refine wp_iload dX12_mixed_188 rfl (wp_bipush (v := nI 6) dX12_mixed_190 rfl ?_)
      refine wn_icmp_ge dX12_mixed_192 rfl (by omega) (by omega) (fun c192 => ?_) (fun c192 => absurd c192 (by omega))
      refine wp_iload_n dX12_mixed_354 rfl ?_
      refine wn_if_ne dX12_mixed_355 rfl (by omega) (fun c355 => ?_) (fun c355 => absurd c355 (by omega))
      refine wp_iload_n dX12_mixed_363 rfl (wp_iconst (v := nI 1) dX12_mixed_364 rfl ?_)
      refine wn_icmp_ne dX12_mixed_365 rfl (by omega) (by omega) (fun c365 => ?_) (fun c365 => absurd c365 (by omega))
      refine wp_iload_n dX12_mixed_373 rfl (wp_iconst (v := nI 2) dX12_mixed_374 rfl ?_)
      refine wn_icmp_ne dX12_mixed_375 rfl (by omega) (by omega) (fun c375 => ?_) (fun c375 => absurd c375 (by omega))
      exact wp_iload dX12_mixed_383 rfl (wp_ireturn dX12_mixed_385 rfl rfl ⟨rfl, rfl⟩)
  | succ r ih =>
    intro a y9 y10 y11 ha
    refine wp_iload dX12_mixed_188 rfl (wp_bipush (v := nI 6) dX12_mixed_190 rfl ?_)
    refine wn_icmp_ge dX12_mixed_192 rfl (by omega) (by omega) (fun c192 => absurd c192 (by omega)) (fun c192 => ?_)
    refine wp_iconst (v := nI 0) dX12_mixed_195 rfl (wp_istore dX12_mixed_196 ⟨Nat.le_of_ble_eq_true rfl, Or.inr rfl⟩ rfl ?_)
    refine mz_in hs es h162 h1 (show a < 6 by omega) hX hM hD hA (fun y9 y10 y11 => ?_) 6 0 _ _ rfl
    exact wp_iinc dX12_mixed_348 rfl (nI_1 _) ⟨Nat.le_of_ble_eq_true rfl, Or.inr rfl⟩ rfl (wp_goto dX12_mixed_351 rfl (ih (a + 1) _ _ _ (by omega)))
theorem m_mixed_no1 {sv wv : Int32} (d : Nat) {S : xS} (hX : XC S) (g1 : xcall false (d + 3) j_X12_has [.ref 187, .int sv] (xSI S 187 0 (nI 0)) (some (.int (xB false))) (xSI S 187 0 (nI 0))) : xcall false (d + 4) j_X12_mixed [.ref 187, .int sv, .int wv] S (some (.int (-1))) (xSI S 187 0 (nI 0)) := by
  refine xcall_intro (ls := [.ref 187, .int sv, .int wv, .float 0, .float 0, .float 0, .float 0, .float 0, .float 0, .float 0, .float 0, .float 0]) q_X12_mixed (by decide) rfl (Nat.le_of_ble_eq_true rfl) rfl ?_
  refine wp_aload_n dX12_mixed_0 rfl rfl (wp_iconst (v := nI 0) dX12_mixed_1 rfl (p11_1 dX12_mixed_2 (xsh hX sh_187) (wp_aload_n dX12_mixed_5 rfl rfl (wp_iload_n dX12_mixed_6 rfl (wp_iv2 dX12_mixed_7 k11_231 q_X12_has (by decide) (xsh hX sh_187) (by decide) (Nat.le_of_ble_eq_true rfl) g1 ?_)))))
  refine wb_if_eq dX12_mixed_10 rfl (fun c10 => ?_) (fun c10 => absurd c10 (by decide))
  exact wp_iconst (v := -1) dX12_mixed_32 rfl (wp_ireturn dX12_mixed_33 rfl rfl ⟨rfl, rfl⟩)
theorem m_mixed_no2 {wv : Int32} {s q : Nat} (hs : s < 6) (hq : q < 2) (d : Nat) {S : xS} (hX : XC S) (k1 : S.2.1 203 s = nI q) (g1 : xcall false (d + 3) j_X12_has [.ref 187, .int (nI s)] (xSI S 187 0 (nI 0)) (some (.int (xB true))) (xSI S 187 0 (nI 0))) : xcall false (d + 4) j_X12_mixed [.ref 187, .int (nI s), .int wv] S (some (.int (-1))) (xSI S 187 0 (nI 0)) := by
  have F0 : xFl (fun i k => i = 187 ∧ k = 0) S (xSI S 187 0 (nI 0)) := (xFl.rf S).SI ⟨rfl, rfl⟩
  have k1 := F0.i k1 (by omega)
  refine xcall_intro (ls := [.ref 187, .int (nI s), .int wv, .float 0, .float 0, .float 0, .float 0, .float 0, .float 0, .float 0, .float 0, .float 0]) q_X12_mixed (by decide) rfl (Nat.le_of_ble_eq_true rfl) rfl ?_
  refine wp_aload_n dX12_mixed_0 rfl rfl (wp_iconst (v := nI 0) dX12_mixed_1 rfl (p11_1 dX12_mixed_2 (xsh hX sh_187) (wp_aload_n dX12_mixed_5 rfl rfl (wp_iload_n dX12_mixed_6 rfl (wp_iv2 dX12_mixed_7 k11_231 q_X12_has (by decide) (xsh hX sh_187) (by decide) (Nat.le_of_ble_eq_true rfl) g1 ?_)))))
  refine wb_if_eq dX12_mixed_10 rfl (fun c10 => absurd c10 (by decide)) (fun c10 => ?_)
  refine wp_aload_n dX12_mixed_13 rfl rfl (g11_222 dX12_mixed_14 (xsh hX sh_187) (xrr hX r187_37) (wp_iload_n dX12_mixed_17 rfl (wn_iaload dX12_mixed_18 (xsh hX sh_203) rfl (by omega) (by decide) k1 (wp_iconst (v := nI 2) dX12_mixed_19 rfl ?_))))
  refine wn_icmp_lt dX12_mixed_20 rfl (by omega) (by omega) (fun c20 => ?_) (fun c20 => absurd c20 (by omega))
  exact wp_iconst (v := -1) dX12_mixed_32 rfl (wp_ireturn dX12_mixed_33 rfl rfl ⟨rfl, rfl⟩)
theorem m_mixed_no3 {wv : Int32} {s q : Nat} (hs : s < 6) (hq : 2 ≤ q) (hq2 : q < 100) (hw : wv < 0 ∨ ¬ wv ≤ 3) (d : Nat) {S : xS} (hX : XC S) (k1 : S.2.1 203 s = nI q) (g1 : xcall false (d + 3) j_X12_has [.ref 187, .int (nI s)] (xSI S 187 0 (nI 0)) (some (.int (xB true))) (xSI S 187 0 (nI 0))) : xcall false (d + 4) j_X12_mixed [.ref 187, .int (nI s), .int wv] S (some (.int (-1))) (xSI S 187 0 (nI 0)) := by
  have F0 : xFl (fun i k => i = 187 ∧ k = 0) S (xSI S 187 0 (nI 0)) := (xFl.rf S).SI ⟨rfl, rfl⟩
  have k1 := F0.i k1 (by omega)
  rcases Decidable.em (wv < 0) with w | w
  · refine xcall_intro (ls := [.ref 187, .int (nI s), .int wv, .float 0, .float 0, .float 0, .float 0, .float 0, .float 0, .float 0, .float 0, .float 0]) q_X12_mixed (by decide) rfl (Nat.le_of_ble_eq_true rfl) rfl ?_
    refine wp_aload_n dX12_mixed_0 rfl rfl (wp_iconst (v := nI 0) dX12_mixed_1 rfl (p11_1 dX12_mixed_2 (xsh hX sh_187) (wp_aload_n dX12_mixed_5 rfl rfl (wp_iload_n dX12_mixed_6 rfl (wp_iv2 dX12_mixed_7 k11_231 q_X12_has (by decide) (xsh hX sh_187) (by decide) (Nat.le_of_ble_eq_true rfl) g1 ?_)))))
    refine wb_if_eq dX12_mixed_10 rfl (fun c10 => absurd c10 (by decide)) (fun c10 => ?_)
    refine wp_aload_n dX12_mixed_13 rfl rfl (g11_222 dX12_mixed_14 (xsh hX sh_187) (xrr hX r187_37) (wp_iload_n dX12_mixed_17 rfl (wn_iaload dX12_mixed_18 (xsh hX sh_203) rfl (by omega) (by decide) k1 (wp_iconst (v := nI 2) dX12_mixed_19 rfl ?_))))
    refine wn_icmp_lt dX12_mixed_20 rfl (by omega) (by omega) (fun c20 => absurd c20 (by omega)) (fun c20 => ?_)
    refine wp_iload_n dX12_mixed_23 rfl ?_
    refine wp_if_lt dX12_mixed_24 rfl (fun c24 => ?_) (fun c24 => absurd c24 (not_not_intro w))
    exact wp_iconst (v := -1) dX12_mixed_32 rfl (wp_ireturn dX12_mixed_33 rfl rfl ⟨rfl, rfl⟩)
  · refine xcall_intro (ls := [.ref 187, .int (nI s), .int wv, .float 0, .float 0, .float 0, .float 0, .float 0, .float 0, .float 0, .float 0, .float 0]) q_X12_mixed (by decide) rfl (Nat.le_of_ble_eq_true rfl) rfl ?_
    refine wp_aload_n dX12_mixed_0 rfl rfl (wp_iconst (v := nI 0) dX12_mixed_1 rfl (p11_1 dX12_mixed_2 (xsh hX sh_187) (wp_aload_n dX12_mixed_5 rfl rfl (wp_iload_n dX12_mixed_6 rfl (wp_iv2 dX12_mixed_7 k11_231 q_X12_has (by decide) (xsh hX sh_187) (by decide) (Nat.le_of_ble_eq_true rfl) g1 ?_)))))
    refine wb_if_eq dX12_mixed_10 rfl (fun c10 => absurd c10 (by decide)) (fun c10 => ?_)
    refine wp_aload_n dX12_mixed_13 rfl rfl (g11_222 dX12_mixed_14 (xsh hX sh_187) (xrr hX r187_37) (wp_iload_n dX12_mixed_17 rfl (wn_iaload dX12_mixed_18 (xsh hX sh_203) rfl (by omega) (by decide) k1 (wp_iconst (v := nI 2) dX12_mixed_19 rfl ?_))))
    refine wn_icmp_lt dX12_mixed_20 rfl (by omega) (by omega) (fun c20 => absurd c20 (by omega)) (fun c20 => ?_)
    refine wp_iload_n dX12_mixed_23 rfl ?_
    refine wp_if_lt dX12_mixed_24 rfl (fun c24 => absurd c24 w) (fun c24 => ?_)
    refine wp_iload_n dX12_mixed_27 rfl (wp_iconst (v := nI 3) dX12_mixed_28 rfl ?_)
    refine wp_icmp_le dX12_mixed_29 rfl (fun c29 => absurd c29 (fun h => hw.elim w (fun q => q h))) (fun c29 => ?_)
    exact wp_iconst (v := -1) dX12_mixed_32 rfl (wp_ireturn dX12_mixed_33 rfl rfl ⟨rfl, rfl⟩)
theorem m_mixed {σ : xSv} {δ : Nat → Int32} {s n2 : Nat} {t2 : Nat → Nat} {L2 : List xLn} {w : Nat} (hw : w ≤ 3) (d : Nat) (hs : s < 6) (es : σ s = some (n2, t2, L2)) (h2 : 2 ≤ L2.length) {S : xS} (hX : XC S) (hM : xMl S σ) (hD : xDM S σ δ) (g1 : xcall false (d + 3) j_X12_has [.ref 187, .int (nI s)] (xSI S 187 0 (nI 0)) (some (.int (xB true))) (xSI S 187 0 (nI 0))) : ∃ S', xcall false (d + 4) j_X12_mixed [.ref 187, .int (nI s), .int (nI w)] S (some (.int (xmx (xmo (xel σ δ s) (xmc σ s L2.length) L2.length 6) w))) S' ∧ xFl (fun i k => (i = 187 ∧ k = 0) ∨ (222 ≤ i ∧ i ≤ 227)) S S' := by
  have F0 : xFl (fun i k => i = 187 ∧ k = 0) S (xSI S 187 0 (nI 0)) := (xFl.rf S).SI ⟨rfl, rfl⟩
  have hM0 := hM.fr F0 (fun i k h => by omega)
  obtain ⟨M2, ok2, hn2, h162, hm2⟩ := (hM0 s hs).2 n2 t2 L2 es
  have k1 := M2.2.2.2.2
  obtain ⟨r, S', g, rfl, z⟩ := xcall_some (al := false) (d := d + 4) (ls := [.ref 187, .int (nI s), .int (nI w), .float 0, .float 0, .float 0, .float 0, .float 0, .float 0, .float 0, .float 0, .float 0]) (S := S) (as := [.ref 187, .int (nI s), .int (nI w)]) q_X12_mixed (by decide) rfl (Nat.le_of_ble_eq_true rfl) rfl
    (P := fun r S' => r = some (.int (xmx (xmo (xel σ δ s) (xmc σ s L2.length) L2.length 6) w)) ∧ xFl (fun i _ => 222 ≤ i ∧ i ≤ 227) (xSI S 187 0 (nI 0)) S') (by
      refine wp_aload_n dX12_mixed_0 rfl rfl (wp_iconst (v := nI 0) dX12_mixed_1 rfl (p11_1 dX12_mixed_2 (xsh hX sh_187) (wp_aload_n dX12_mixed_5 rfl rfl (wp_iload_n dX12_mixed_6 rfl (wp_iv2 dX12_mixed_7 k11_231 q_X12_has (by decide) (xsh hX sh_187) (by decide) (Nat.le_of_ble_eq_true rfl) g1 ?_)))))
      refine wb_if_eq dX12_mixed_10 rfl (fun c10 => absurd c10 (by decide)) (fun c10 => ?_)
      refine wp_aload_n dX12_mixed_13 rfl rfl (g11_222 dX12_mixed_14 (xsh hX sh_187) (xrr hX r187_37) (wp_iload_n dX12_mixed_17 rfl (wn_iaload dX12_mixed_18 (xsh hX sh_203) rfl (by omega) (by decide) k1 (wp_iconst (v := nI 2) dX12_mixed_19 rfl ?_))))
      refine wn_icmp_lt dX12_mixed_20 rfl (by omega) (by omega) (fun c20 => absurd c20 (by omega)) (fun c20 => ?_)
      refine wp_iload_n dX12_mixed_23 rfl ?_
      refine wn_if_lt dX12_mixed_24 rfl (by omega) ?_
      refine wp_iload_n dX12_mixed_27 rfl (wp_iconst (v := nI 3) dX12_mixed_28 rfl ?_)
      refine wn_icmp_le dX12_mixed_29 rfl (by omega) (by omega) (fun c29 => ?_) (fun c29 => absurd c29 (by omega))
      refine wp_aload_n dX12_mixed_34 rfl rfl (g11_222 dX12_mixed_35 (xsh hX sh_187) (xrr hX r187_37) (wp_iload_n dX12_mixed_38 rfl (wn_iaload dX12_mixed_39 (xsh hX sh_203) rfl (by omega) (by decide) k1 (wp_istore_n dX12_mixed_40 ⟨Nat.le_of_ble_eq_true rfl, Or.inr rfl⟩ rfl (wp_iconst (v := nI 0) dX12_mixed_41 rfl (wp_istore dX12_mixed_42 ⟨Nat.le_of_ble_eq_true rfl, Or.inr rfl⟩ rfl ?_))))))
      refine me_loop hs es 6 0 (xSI S 187 0 (nI 0)) _ rfl (F0.XC hX) hM0 (hD.fr F0 (fun k h => by omega)) (fun p hp => absurd hp (Nat.not_lt_zero p)) (fun S1 y4 y5 f1 h1 => ?_)
      have X1 := f1.XC (F0.XC hX)
      refine wp_iconst (v := -1) dX12_mixed_173 rfl (wp_istore dX12_mixed_174 ⟨Nat.le_of_ble_eq_true rfl, Or.inr rfl⟩ rfl (wp_iconst (v := -1) dX12_mixed_176 rfl (wp_istore dX12_mixed_177 ⟨Nat.le_of_ble_eq_true rfl, Or.inr rfl⟩ rfl (wp_iconst (v := -1) dX12_mixed_179 rfl (wp_istore dX12_mixed_180 ⟨Nat.le_of_ble_eq_true rfl, Or.inr rfl⟩ rfl (wp_iconst (v := -1) dX12_mixed_182 rfl (wp_istore dX12_mixed_183 ⟨Nat.le_of_ble_eq_true rfl, Or.inr rfl⟩ rfl (wp_iconst (v := nI 0) dX12_mixed_185 rfl (wp_istore dX12_mixed_186 ⟨Nat.le_of_ble_eq_true rfl, Or.inr rfl⟩ rfl ?_)))))))))
      refine (mz_out hw hs es h162 (by omega) X1 (hM0.fr f1 (fun i k h => by omega)) ((hD.fr F0 (fun k h => by omega)).fr f1 (fun k h => by omega)) h1 6 0 _ _ _ rfl).mono ?_
      rintro r S' ⟨z1, rfl⟩
      exact ⟨z1, f1⟩)
  exact ⟨S', g, (F0.mono (fun i k h => Or.inl h)).tt (z.mono (fun i k h => Or.inr h))⟩
