/-! records of the class: follow -/
def xflI (c : xPx) (t : Nat → Nat) (n m b : Nat) (M : Nat → Bool) (best : Nat) : Prop := xfg c t M ∧ best ≤ n ∧ (best = 0 ∨ ∃ i, i < n ∧ best = i + 1 ∧ xmtc c t i) ∧ (∀ m' s' k', xgd c m' s' k' → xdnk m b (m' * 8 + s') = true → M (m' * 8 + s') = true → xrch c t k' m' s' → xovr (xzg c) m' = false → k' < n → ∀ a, a < xzw c k' → xow (xgf (xzg c)) (xzh c 0 m' s' k' a) = t k' → k' + 1 ≤ best ∧ (xgs (xzg c) = false → M (xn1 c 0 m' s' k' a * 8 + xn2 c 0 m' s' k' a) = true)) ∧ M ((2 ^ xgH (xzg c) - 1) * 8 + 0) = true ∧ (xovr (xzg c) (2 ^ xgH (xzg c) - 1) = true → best = 0 ∧ ∀ y, M y = true → y = (2 ^ xgH (xzg c) - 1) * 8 + 0)
theorem xdnk_s {m b y : Nat} (hy : xdnk m (b + 1) y = true) : xdnk m b y = true ∨ y = m * 8 + b := by
  have h := of_decide_eq_true hy
  rcases Decidable.em (m < y / 8 ∨ (y / 8 = m ∧ y % 8 < b)) with w | w
  · exact Or.inl (decide_eq_true w)
  · exact Or.inr (by omega)
theorem xflI.no {c : xPx} {t : Nat → Nat} {n m b best : Nat} {M : Nat → Bool} (h : xflI c t n m b M best) (hm : M (m * 8 + b) = false) : xflI c t n m (b + 1) M best := by
  obtain ⟨h1, h2, h3, h4, h5, h6⟩ := h
  refine ⟨h1, h2, h3, fun m' s' k' hg hd hM => ?_, h5, h6⟩
  rcases xdnk_s hd with w | w
  · exact h4 m' s' k' hg w hM
  · rw [w, hm] at hM; cases hM
theorem xflI.st {c : xPx} {t : Nat → Nat} {n m s k best b : Nat} {M M' : Nat → Bool} (h8 : xgH (xzg c) ≤ 8) (hg : xgd c m s k) (hm : M (m * 8 + s) = true) (h : xflI c t n m s M best) (hR : (b = 0 ∧ M' = M ∧ (xovr (xzg c) m = true ∨ n ≤ k)) ∨ (xovr (xzg c) m = false ∧ k < n ∧ xrch c t k m s ∧ xffI c t m s k M M' b (xzw c k))) : xflI c t n m (s + 1) M' (max best b) := by
  obtain ⟨h1, h2, h3, h4, h5, h6⟩ := h
  obtain ⟨_, hs8, _⟩ := hg.key h8
  have same : ∀ m' s' k', xgd c m' s' k' → m' * 8 + s' = m * 8 + s → m' = m ∧ s' = s ∧ k' = k := by
    intro m' s' k' hg' e
    obtain ⟨_, hs', _⟩ := hg'.key h8
    have q1 : m' = m := by omega
    have q2 : s' = s := by omega
    subst q1; subst q2
    have := hg.2.2.2
    have := hg'.2.2.2
    exact ⟨rfl, rfl, by omega⟩
  rcases hR with ⟨rfl, rfl, hov⟩ | ⟨hov, hkn, hr, hI⟩
  · rw [Nat.max_zero]
    refine ⟨h1, h2, h3, fun m' s' k' hg' hd hM hr' hov' hk' => ?_, h5, h6⟩
    rcases xdnk_s hd with w | w
    · exact h4 m' s' k' hg' w hM hr' hov' hk'
    · obtain ⟨rfl, rfl, rfl⟩ := same m' s' k' hg' w
      rcases hov with q | q
      · rw [q] at hov'; cases hov'
      · omega
  · obtain ⟨i1, i2, i3, i4, i5⟩ := hI
    have nov : ¬ xovr (xzg c) (2 ^ xgH (xzg c) - 1) = true := fun q => by
      have e := (h6 q).2 _ hm
      have g0 : m * 8 + s = (2 ^ xgH (xzg c) - 1) * 8 + 0 := e
      have : m = 2 ^ xgH (xzg c) - 1 := by omega
      rw [this, q] at hov
      cases hov
    refine ⟨i4, ?_, ?_, fun m' s' k' hg' hd hM hr' hov' hk' a ha he => ?_, i2 _ h5, fun q => absurd q nov⟩
    · rcases i1 with ⟨q, _⟩ | ⟨q, _⟩
      · omega
      · omega
    · rcases i1 with ⟨q, e, q2, q3⟩ | ⟨q, _⟩
      · rcases Nat.le_total best b with w | w
        · rw [Nat.max_eq_right w]
          exact Or.inr ⟨k, hkn, q, m, s, e, hr, q2, q3⟩
        · rw [Nat.max_eq_left w]; exact h3
      · rw [q, Nat.max_zero]; exact h3
    · rcases xdnk_s hd with w | w
      · have hd' := of_decide_eq_true w
        have hM' : M (m' * 8 + s') = true := by rw [← i3 _ (by omega)]; exact hM
        obtain ⟨r1, r2⟩ := h4 m' s' k' hg' w hM' hr' hov' hk' a ha he
        exact ⟨Nat.le_trans r1 (Nat.le_max_left _ _), fun q => i2 _ (r2 q)⟩
      · obtain ⟨rfl, rfl, rfl⟩ := same m' s' k' hg' w
        rcases i1 with ⟨q, _⟩ | ⟨q, q2⟩
        · exact ⟨by rw [q]; exact Nat.le_max_right _ _, fun z => i5 a ha he z⟩
        · exact absurd he (q2 a ha)
theorem xflI.row {c : xPx} {t : Nat → Nat} {n m best : Nat} {M : Nat → Bool} (h8 : xgH (xzg c) ≤ 8) (h : xflI c t n (m + 1) (xgH (xzg c)) M best) : xflI c t n m 0 M best := by
  obtain ⟨h1, h2, h3, h4, h5, h6⟩ := h
  refine ⟨h1, h2, h3, fun m' s' k' hg hd => h4 m' s' k' hg ?_, h5, h6⟩
  obtain ⟨_, hs', _⟩ := hg.key h8
  have := hg.2.2.1
  have hd' := of_decide_eq_true hd
  exact decide_eq_true (by omega)
theorem xflI.end_ {c : xPx} {t : Nat → Nat} {n best : Nat} {M : Nat → Bool} (ho : xzo c) (h8 : xgH (xzg c) ≤ 8) (h : xflI c t n 0 0 M best) : xHT c t n best := by
  obtain ⟨h1, h2, h3, h4, h5, h6⟩ := h
  cases hov : xovr (xzg c) (2 ^ xgH (xzg c) - 1) with
  | true => exact Or.inl ⟨hov, (h6 hov).1⟩
  | false =>
    have done : ∀ m' s' k', xgd c m' s' k' → xdnk 0 0 (m' * 8 + s') = true := fun m' s' k' hg => by
      obtain ⟨_, hs', _⟩ := hg.key h8
      have := hg.2.1
      exact decide_eq_true (by omega)
    have all : ∀ k m s, xrch c t k m s → k ≤ n → M (m * 8 + s) = true := by
      intro k
      induction k with
      | zero => intro m s hr _; rw [hr.1, hr.2]; exact h5
      | succ k ih =>
        intro m' s' hr hk
        have hr' := hr
        obtain ⟨m, s, a, r1, r2, r3, r4, r5, r6⟩ := hr
        have hst : xgs (xzg c) = false := by
          cases e : xgs (xzg c) with
          | false => rfl
          | true => unfold xen at r4; rw [e, if_pos rfl] at r4; cases r4
        have hg := xrch_gd ho k m s r1
        rw [r5, r6]
        exact (h4 m s k hg (done m s k hg) (ih m s r1 (by omega)) r1 (xrch_no hov k m s r1) (by omega) a r2 r3).2 hst
    refine Or.inr ⟨hov, h2, fun i hi => ?_, fun hlt hm => ?_⟩
    · rcases h3 with q | ⟨i0, q1, q2, m, s, a, q3, q4, q5⟩
      · omega
      · rcases Nat.lt_or_ge i i0 with w | w
        · exact xrch_lo i0 m s q3 i w
        · rw [show i = i0 by omega]; exact ⟨m, s, a, q3, q4, q5⟩
    · obtain ⟨m, s, a, q3, q4, q5⟩ := hm
      have hg := xrch_gd ho best m s q3
      have := (h4 m s best hg (done m s best hg) (all best m s q3 h2) q3 (xrch_no hov best m s q3) hlt a q4 q5).1
      omega
theorem fw_in {c : xPx} {t : Nat → Nat} {n m nw d : Nat} (ho : xzo c) (ha : xzal c = true) (h8 : xgH (xzg c) ≤ 8) (hnw : nw < 2 ^ 30) (hm : m < 2 ^ xgH (xzg c)) {Q : Option Value → xS → Prop} : ∀ (j b best : Nat) (S : xS) (M : Nat → Bool) (y6 : Value), b + j = xgH (xzg c) → XC S → xRD S c 0 → xTb S n t → S.2.1 73 3 = nI nw → xFM S nw M → xflI c t n m b M best → (∀ S' M' best' y5 y6, xFl (fun i q => (i = 74 ∧ q = 7) ∨ i = 79 ∨ i = 80 ∨ (82 ≤ i ∧ i ≤ 105) ∨ i = 130 ∨ i = 131) S S' → xFM S' nw M' → xflI c t n m (xgH (xzg c)) M' best' → Wp false (d + 5) 2 cX2_follow (some .int) false 106 [.ref 73, .ref 2, .int (nI n), .int (nI best'), .int (nI m), .int y5, y6] [] S' Q) → Wp false (d + 5) 2 cX2_follow (some .int) false 42 [.ref 73, .ref 2, .int (nI n), .int (nI best), .int (nI m), .int (nI b), y6] [] S Q := by
  have g24 := ho.g.H
  have hm8 : m < 256 := Nat.lt_of_lt_of_le hm (Nat.pow_le_pow_right (by decide) h8)
  intro j
  induction j with
  | zero =>
    intro b best S M y6 hb hX hD hT kn hS hr K
    have hbb : b = xgH (xzg c) := by omega
    subst hbb
    have k12 := hD.1.2.2.1
    have nx := K S M best (nI (xgH (xzg c))) y6 (xFl.rf S) hS hr
    refine wp_iload dX2_follow_42 rfl (wp_aload_n dX2_follow_44 rfl rfl (g2_14 dX2_follow_45 (xsh hX sh_73) (xrr hX r73_0) (gv2_28 dX2_follow_48 (xsh hX sh_74) k12 ?_)))
    refine wn_icmp_ge dX2_follow_51 rfl (by omega) (by omega) (fun c51 => ?_) (fun c51 => absurd c51 (by omega))
    exact nx
  | succ j ih =>
    intro b best S M y6 hb hX hD hT kn hS hr K
    have k12 := hD.1.2.2.1
    have h260 := hT.1
    have hbn := hr.2.1
    have hkey : m * 8 + b < 2048 := by omega
    have gk := c_key (m := m) (s := b) (d + 4) (S := S)
    have gy := c_isKey (x := m * 8 + b) (d + 4) hkey (S := S)
    cases e : M (m * 8 + b) with
    | false =>
      have k2 : ∃ v, v < nw ∧ S.2.1 131 (m * 8 + b) = nI v := by
        obtain ⟨sh, hs⟩ := hS
        exact ((hs.1 _ hkey).2 e).2
      obtain ⟨v, k1, k2⟩ := k2
      have nx := ih (b + 1) best S M (.int (nI (m * 8 + b))) (by omega) hX hD hT kn hS (hr.no e) K
      refine wp_iload dX2_follow_42 rfl (wp_aload_n dX2_follow_44 rfl rfl (g2_14 dX2_follow_45 (xsh hX sh_73) (xrr hX r73_0) (gv2_28 dX2_follow_48 (xsh hX sh_74) k12 ?_)))
      refine wn_icmp_ge dX2_follow_51 rfl (by omega) (by omega) (fun c51 => absurd c51 (by omega)) (fun c51 => ?_)
      refine wp_iload dX2_follow_54 rfl (wp_iload dX2_follow_56 rfl (wp_is2 dX2_follow_58 k2_100 q_X2_key (by decide) (Nat.le_of_ble_eq_true rfl) gk (wp_istore dX2_follow_61 ⟨Nat.le_of_ble_eq_true rfl, Or.inr rfl⟩ rfl (wp_iload dX2_follow_63 rfl (wp_is1 dX2_follow_65 k2_103 q_X2_isKey (by decide) (Nat.le_of_ble_eq_true rfl) gy ?_)))))
      refine wb_if_eq dX2_follow_68 rfl (fun c68 => absurd c68 (by decide)) (fun c68 => ?_)
      refine wp_aload_n dX2_follow_71 rfl rfl (g2_22 dX2_follow_72 (xsh hX sh_73) (xrr hX r73_2) (wp_iload dX2_follow_75 rfl (wn_iaload dX2_follow_77 (xsh hX sh_131) rfl (by omega) (by decide) k2 (wp_aload_n dX2_follow_78 rfl rfl (gv2_91 dX2_follow_79 (xsh hX sh_73) kn ?_)))))
      refine wn_icmp_ne dX2_follow_82 rfl (by omega) (by omega) (fun c82 => ?_) (fun c82 => absurd c82 (by omega))
      exact wp_iinc dX2_follow_100 rfl (nI_1 _) ⟨Nat.le_of_ble_eq_true rfl, Or.inr rfl⟩ rfl (wp_goto dX2_follow_103 rfl nx)
    | true =>
      have k1 : S.2.1 131 (m * 8 + b) = nI nw := by
        obtain ⟨sh, hs⟩ := hS
        exact ((hs.1 _ hkey).1 e).1
      obtain ⟨m', s', k, e1, hg, hrc⟩ := hr.1 _ e
      obtain ⟨_, p1, _⟩ := hg.key h8
      have q1 : m' = m := by omega
      have q2 : s' = b := by omega
      subst q1; subst q2
      obtain ⟨v, S1, M', g1, f1, h1, hR⟩ := c_followFrom (d + 0) ho ha h8 hnw hg hrc hX hD hT kn hS hr.1
      have X1 := f1.XC hX
      have hr' := hr.st h8 hg e hR
      have hb2 := hr'.2.1
      have hv : v ≤ 260 := by have := Nat.le_max_right best v; omega
      have nx := ih (s' + 1) (max best v) S1 M' (.int (nI (m' * 8 + s'))) (by omega) X1 (hD.fr f1 (fun i q h => by omega) ho) (hT.fr f1 (fun q h => by omega)) (f1.i kn (by omega)) h1 hr' (fun S2 M2 best2 y5 y6 f2 a1 a2 => K S2 M2 best2 y5 y6 (f1.tt f2) a1 a2)
      refine wp_iload dX2_follow_42 rfl (wp_aload_n dX2_follow_44 rfl rfl (g2_14 dX2_follow_45 (xsh hX sh_73) (xrr hX r73_0) (gv2_28 dX2_follow_48 (xsh hX sh_74) k12 ?_)))
      refine wn_icmp_ge dX2_follow_51 rfl (by omega) (by omega) (fun c51 => absurd c51 (by omega)) (fun c51 => ?_)
      refine wp_iload dX2_follow_54 rfl (wp_iload dX2_follow_56 rfl (wp_is2 dX2_follow_58 k2_100 q_X2_key (by decide) (Nat.le_of_ble_eq_true rfl) gk (wp_istore dX2_follow_61 ⟨Nat.le_of_ble_eq_true rfl, Or.inr rfl⟩ rfl (wp_iload dX2_follow_63 rfl (wp_is1 dX2_follow_65 k2_103 q_X2_isKey (by decide) (Nat.le_of_ble_eq_true rfl) gy ?_)))))
      refine wb_if_eq dX2_follow_68 rfl (fun c68 => absurd c68 (by decide)) (fun c68 => ?_)
      refine wp_aload_n dX2_follow_71 rfl rfl (g2_22 dX2_follow_72 (xsh hX sh_73) (xrr hX r73_2) (wp_iload dX2_follow_75 rfl (wn_iaload dX2_follow_77 (xsh hX sh_131) rfl (by omega) (by decide) k1 (wp_aload_n dX2_follow_78 rfl rfl (gv2_91 dX2_follow_79 (xsh hX sh_73) kn ?_)))))
      refine wn_icmp_ne dX2_follow_82 rfl (by omega) (by omega) (fun c82 => absurd c82 (by omega)) (fun c82 => ?_)
      exact wp_iload_n dX2_follow_85 rfl (wp_aload_n dX2_follow_86 rfl rfl (wp_iload dX2_follow_87 rfl (wp_iload dX2_follow_89 rfl (wp_aload_n dX2_follow_91 rfl rfl (wp_iload_n dX2_follow_92 rfl (wp_iv5 dX2_follow_93 k2_147 q_X2_followFrom (by decide) (xsh hX sh_73) (by decide) (Nat.le_of_ble_eq_true rfl) g1 (wn_max dX2_follow_96 k2_151 (Nat.le_of_ble_eq_true rfl) (by omega) (by omega) rfl (wp_istore_n dX2_follow_99 ⟨Nat.le_of_ble_eq_true rfl, Or.inr rfl⟩ rfl (wp_iinc dX2_follow_100 rfl (nI_1 _) ⟨Nat.le_of_ble_eq_true rfl, Or.inr rfl⟩ rfl (wp_goto dX2_follow_103 rfl nx))))))))))
theorem fw_out {c : xPx} {t : Nat → Nat} {n nw d : Nat} (ho : xzo c) (ha : xzal c = true) (h8 : xgH (xzg c) ≤ 8) (hnw : nw < 2 ^ 30) : ∀ (m best : Nat) (S : xS) (M : Nat → Bool) (y5 y6 : Value), m < 2 ^ xgH (xzg c) → XC S → xRD S c 0 → xTb S n t → S.2.1 73 3 = nI nw → xFM S nw M → xflI c t n m 0 M best → Wp false (d + 5) 2 cX2_follow (some .int) false 34 [.ref 73, .ref 2, .int (nI n), .int (nI best), .int (nI m), y5, y6] [] S (fun r S' => ∃ best' M', r = some (.int (nI best')) ∧ xFl (fun i q => (i = 74 ∧ q = 7) ∨ i = 79 ∨ i = 80 ∨ (82 ≤ i ∧ i ≤ 105) ∨ i = 130 ∨ i = 131) S S' ∧ xFM S' nw M' ∧ xflI c t n 0 0 M' best') := by
  intro m
  induction m with
  | zero =>
    intro best S M y5 y6 hm hX hD hT kn hS hr
    have fin : ∃ best' M', some (Value.int (nI best)) = some (.int (nI best')) ∧ xFl (fun i q => (i = 74 ∧ q = 7) ∨ i = 79 ∨ i = 80 ∨ (82 ≤ i ∧ i ≤ 105) ∨ i = 130 ∨ i = 131) S S ∧ xFM S nw M' ∧ xflI c t n 0 0 M' best' := ⟨best, M, rfl, xFl.rf S, hS, hr⟩
    refine wp_iload dX2_follow_34 rfl ?_
    refine wn_if_le dX2_follow_36 rfl (by omega) (fun c36 => ?_) (fun c36 => absurd c36 (by omega))
    exact wp_iload_n dX2_follow_112 rfl (wp_ireturn dX2_follow_113 rfl rfl fin)
  | succ m ih =>
    intro best S M y5 y6 hm hX hD hT kn hS hr
    have hm8 : m + 1 < 256 := Nat.lt_of_lt_of_le hm (Nat.pow_le_pow_right (by decide) h8)
    have em : nI (m + 1) + (-1) = nI m := pk_m1 m
    have lp := fw_in (d := d) ho ha h8 hnw hm (Q := (fun r S' => ∃ best' M', r = some (.int (nI best')) ∧ xFl (fun i q => (i = 74 ∧ q = 7) ∨ i = 79 ∨ i = 80 ∨ (82 ≤ i ∧ i ≤ 105) ∨ i = 130 ∨ i = 131) S S' ∧ xFM S' nw M' ∧ xflI c t n 0 0 M' best')) (xgH (xzg c)) 0 best S M y6 (Nat.zero_add _) hX hD hT kn hS hr (fun S1 M1 best1 y5 y6 f1 h1 r1 => by
      have X1 := f1.XC hX
      have nx := (ih best1 S1 M1 (.int y5) y6 (by omega) X1 (hD.fr f1 (fun i q h => by omega) ho) (hT.fr f1 (fun q h => by omega)) (f1.i kn (by omega)) h1 (r1.row h8)).mono (Q' := (fun r S' => ∃ best' M', r = some (.int (nI best')) ∧ xFl (fun i q => (i = 74 ∧ q = 7) ∨ i = 79 ∨ i = 80 ∨ (82 ≤ i ∧ i ≤ 105) ∨ i = 130 ∨ i = 131) S S' ∧ xFM S' nw M' ∧ xflI c t n 0 0 M' best')) (fun r S' z => by
        obtain ⟨b', M', z1, z2, z3⟩ := z
        exact ⟨b', M', z1, f1.tt z2, z3⟩)
      exact wp_iinc dX2_follow_106 rfl em ⟨Nat.le_of_ble_eq_true rfl, Or.inr rfl⟩ rfl (wp_goto dX2_follow_109 rfl nx))
    refine wp_iload dX2_follow_34 rfl ?_
    refine wn_if_le dX2_follow_36 rfl (by omega) (fun c36 => absurd c36 (by omega)) (fun c36 => ?_)
    exact wp_iconst (v := nI 0) dX2_follow_39 rfl (wp_istore dX2_follow_40 ⟨Nat.le_of_ble_eq_true rfl, Or.inr rfl⟩ rfl lp)
theorem xI_nat (x : Int32) : nI x.toBitVec.toNat = x := by
  refine b_ext (fun i hi => ?_)
  rw [bt_nI _ _ hi]
  rfl
theorem c_follow {c : xPx} {t : Nat → Nat} {n N : Nat} (d : Nat) (ho : xzo c) (ha : xzal c = true) (h8 : xgH (xzg c) ≤ 8) (hN : N < 2 ^ 29) {S : xS} (hX : XC S) (hD : xRD S c 0) (hT : xTb S n t) (hNw : xNw S N) : ∃ r S', xcall false (d + 5) j_X2_follow [.ref 73, .ref 2, .int (nI n)] S (some (.int (nI r))) S' ∧ xFl (fun i q => (i = 73 ∧ q = 3) ∨ (i = 74 ∧ q = 7) ∨ i = 79 ∨ i = 80 ∨ (82 ≤ i ∧ i ≤ 105) ∨ i = 130 ∨ i = 131) S S' ∧ xNw S' (N + 1) ∧ r ≤ n ∧ xHT c t n r := by
  have g0 := xgd_0 ho
  have hk := (g0.key h8).2.2
  have F2 : xFl (fun i q => i = 73 ∧ q = 3) S (xSI S 73 3 (nI (N + 1))) := (xFl.rf S).SI ⟨rfl, rfl⟩
  have X2 := F2.XC hX
  have D2 := hD.fr F2 (fun i q h => by omega) ho
  have kn2 : (xSI S 73 3 (nI (N + 1))).2.1 73 3 = nI (N + 1) := xI_same _ _ _ _
  have M2 : xFM (xSI S 73 3 (nI (N + 1))) (N + 1) (fun _ => false) := ⟨fun p => (S.2.1 132 p).toBitVec.toNat, fun x hx => ⟨fun h => (by cases h), fun _ => ⟨rfl, by
    obtain ⟨v, h1, h2⟩ := hNw.2 x hx
    exact ⟨v, by omega, F2.i h2 (by omega)⟩⟩⟩, fun p hp => F2.i (xI_nat _).symm (by omega)⟩
  have ga := c_allHands (d + 4) ho.g X2 D2.1
  have gd : xcall false (d + 4) j_X2_add [.ref 73, .int (nI (2 ^ xgH (xzg c) - 1)), .int (nI 0), .int (nI 0)] (xSI S 73 3 (nI (N + 1))) none (xSI (xSI (xSI S 73 3 (nI (N + 1))) 130 ((2 ^ xgH (xzg c) - 1) * 8 + 0) (nI (0 + 0))) 131 ((2 ^ xgH (xzg c) - 1) * 8 + 0) (nI (N + 1))) := by
    obtain ⟨sh, hs⟩ := M2
    exact c_add (W := 0) (d + 3) hk (show N + 1 < 2 ^ 30 by omega) X2 kn2 hs
  have M3 := M2.add (z := (2 ^ xgH (xzg c) - 1) * 8 + 0)
  have F3 : xFl (fun i q => i = 130 ∨ i = 131) (xSI S 73 3 (nI (N + 1))) (xSI (xSI (xSI S 73 3 (nI (N + 1))) 130 ((2 ^ xgH (xzg c) - 1) * 8 + 0) (nI (0 + 0))) 131 ((2 ^ xgH (xzg c) - 1) * 8 + 0) (nI (N + 1))) := ((xFl.rf _).SI (Or.inl rfl)).SI (Or.inr rfl)
  have X3 := F3.XC X2
  have D3 := D2.fr F3 (fun i q h => by omega) ho
  have ga3 := c_allHands (d + 4) ho.g X3 D3.1
  have I0 : xflI c t n (2 ^ xgH (xzg c) - 1) 0 (fun y => false || decide (y = (2 ^ xgH (xzg c) - 1) * 8 + 0)) 0 := by
    refine ⟨fun x hx => ⟨_, 0, 0, of_decide_eq_true (show decide (x = (2 ^ xgH (xzg c) - 1) * 8 + 0) = true from hx), g0, Or.inr ⟨rfl, rfl⟩⟩, Nat.zero_le _, Or.inl rfl, fun m' s' k' hg hd hM => ?_, ?_, fun _ => ⟨rfl, fun y hy => of_decide_eq_true (show decide (y = (2 ^ xgH (xzg c) - 1) * 8 + 0) = true from hy)⟩⟩
    · have hM' : (false || decide (m' * 8 + s' = (2 ^ xgH (xzg c) - 1) * 8 + 0)) = true := hM
      rw [Bool.false_or] at hM'
      have e := of_decide_eq_true hM'
      have hd' := of_decide_eq_true hd
      omega
    · show (false || decide (_ = _)) = true
      rw [decide_eq_true rfl]; rfl
  have lp := fw_out (d := d) ho ha h8 (show N + 1 < 2 ^ 30 by omega) (2 ^ xgH (xzg c) - 1) 0 _ _ (.float 0) (.float 0) g0.1 X3 D3 ((hT.fr F2 (fun q h => by omega)).fr F3 (fun q h => by omega)) (F3.i kn2 (by omega)) M3 I0
  obtain ⟨r, S', g1, b', M', rfl, z1, z2, z3⟩ := xcall_some (al := false) (d := d + 5) (ls := [.ref 73, .ref 2, .int (nI n), .float 0, .float 0, .float 0, .float 0]) (S := S) (as := [.ref 73, .ref 2, .int (nI n)]) q_X2_follow (by decide) rfl (Nat.le_of_ble_eq_true rfl) rfl (P := (fun r S' => ∃ best' M', r = some (.int (nI best')) ∧ xFl (fun i q => (i = 74 ∧ q = 7) ∨ i = 79 ∨ i = 80 ∨ (82 ≤ i ∧ i ≤ 105) ∨ i = 130 ∨ i = 131) (xSI (xSI (xSI S 73 3 (nI (N + 1))) 130 ((2 ^ xgH (xzg c) - 1) * 8 + 0) (nI (0 + 0))) 131 ((2 ^ xgH (xzg c) - 1) * 8 + 0) (nI (N + 1))) S' ∧ xFM S' (N + 1) M' ∧ xflI c t n 0 0 M' best')) (by
      exact wp_iconst (v := nI 0) dX2_follow_0 rfl (wp_istore_n dX2_follow_1 ⟨Nat.le_of_ble_eq_true rfl, Or.inr rfl⟩ rfl (wp_aload_n dX2_follow_2 rfl rfl (wp_dup dX2_follow_3 rfl (gv2_91 dX2_follow_4 (xsh hX sh_73) hNw.1 (wp_iconst (v := nI 1) dX2_follow_7 rfl (wv_iadd dX2_follow_8 (nI_add _ _) (p2_91 dX2_follow_9 (xsh hX sh_73) (wp_aload_n dX2_follow_12 rfl rfl (wp_aload_n dX2_follow_13 rfl rfl (g2_14 dX2_follow_14 (xsh hX sh_73) (xrr hX r73_0) (wp_iv1 dX2_follow_17 k2_42 q_X4_allHands (by decide) (xsh hX sh_74) (by decide) (Nat.le_of_ble_eq_true rfl) ga (wp_iconst (v := nI 0) dX2_follow_20 rfl (wp_iconst (v := nI 0) dX2_follow_21 rfl (wp_iv4 dX2_follow_22 k2_133 q_X2_add (by decide) (xsh hX sh_73) (by decide) (Nat.le_of_ble_eq_true rfl) gd (wp_aload_n dX2_follow_25 rfl rfl (g2_14 dX2_follow_26 (xsh X3 sh_73) (xrr X3 r73_0) (wp_iv1 dX2_follow_29 k2_42 q_X4_allHands (by decide) (xsh X3 sh_74) (by decide) (Nat.le_of_ble_eq_true rfl) ga3 (wp_istore dX2_follow_32 ⟨Nat.le_of_ble_eq_true rfl, Or.inr rfl⟩ rfl lp)))))))))))))))))))
  have hN' : xNw S' (N + 1) := by
    obtain ⟨sh, hs⟩ := z2
    exact ⟨z1.i (F3.i kn2 (by omega)) (by omega), fun x hx => by
      cases e : M' x with
      | true => exact ⟨N + 1, Nat.le_refl _, ((hs.1 x hx).1 e).1⟩
      | false =>
        obtain ⟨_, v, h1, h2⟩ := (hs.1 x hx).2 e
        exact ⟨v, by omega, h2⟩⟩
  exact ⟨b', S', g1, ((F2.mono (fun i q h => by omega)).tt (F3.mono (fun i q h => by omega))).tt (z1.mono (fun i q h => by omega)), hN', z3.2.1, z3.end_ ho h8⟩
