/-! shares of the class: the sums; add, giveTo, hitsBefore, wholeShare -/
def xUs (c : xPx) (ex p m s k : Nat) : Nat := if xovr (xzg c) m = true then (if (xpm (xzg c) m).testBit p = true then c.2.2.2.1.length ^ (xgH (xzg c) - k) else 0) else xVw c ex p m s k
def xku (c : xPx) (ex p x : Nat) : Nat := xUs c ex p (x / 8) (x % 8) (xgH (xzg c) - xcb (x / 8) (xgH (xzg c))) * c.2.2.2.1.length ^ (xgH (xzg c) - xcb (x / 8) (xgH (xzg c)))
theorem xku_at {c : xPx} {ex p m s k : Nat} (h8 : xgH (xzg c) ≤ 8) (h : xgd c m s k) : xku c ex p (m * 8 + s) = xUs c ex p m s k * c.2.2.2.1.length ^ k := by
  obtain ⟨_, hs, _⟩ := h.key h8
  have hc := h.2.2.2
  unfold xku
  rw [show (m * 8 + s) / 8 = m by omega, show (m * 8 + s) % 8 = s by omega, show xgH (xzg c) - xcb m (xgH (xzg c)) = k by omega]
/-- a sum over the keys that are not done -/
def xsdn (dn : Nat → Bool) (f : Nat → Nat) : Nat := xsum (fun y => if dn y = true then 0 else f y) 2048
theorem xsum_one (f : Nat → Nat) (z d : Nat) : ∀ n, z < n → xsum (fun y => f y + if y = z then d else 0) n = xsum f n + d
  | 0, h => absurd h (Nat.not_lt_zero _)
  | n + 1, h => by
    rw [xsum, xsum]
    rcases Nat.lt_or_ge z n with w | w
    · rw [xsum_one f z d n w, if_neg (by omega)]; omega
    · have e : xsum (fun y => f y + if y = z then d else 0) n = xsum f n := xsum_congr n (fun k hk => by rw [if_neg (by omega)]; rfl)
      rw [e, if_pos (by omega)]; omega
theorem xsdn_up {dn : Nat → Bool} {f u : Nat → Nat} {z W : Nat} (hz : z < 2048) (hd : dn z = false) : xsdn dn (fun y => (f y + if y = z then W else 0) * u y) = xsdn dn (fun y => f y * u y) + W * u z := by
  unfold xsdn
  rw [← xsum_one _ z (W * u z) 2048 hz]
  refine xsum_congr 2048 (fun k _ => ?_)
  show (if dn k = true then 0 else (f k + if k = z then W else 0) * u k) = (if dn k = true then 0 else f k * u k) + if k = z then W * u z else 0
  rcases Decidable.em (k = z) with w | w
  · subst w
    rw [hd, if_neg Bool.false_ne_true, if_neg Bool.false_ne_true, if_pos rfl, if_pos rfl, Nat.add_mul]
  · rw [if_neg w, if_neg w, Nat.add_zero, Nat.add_zero]
theorem xsdn_up1 {dn : Nat → Bool} {f : Nat → Nat} {z W : Nat} (hz : z < 2048) (hd : dn z = false) : xsdn dn (fun y => f y + if y = z then W else 0) = xsdn dn f + W := by
  unfold xsdn
  rw [← xsum_one _ z W 2048 hz]
  refine xsum_congr 2048 (fun k _ => ?_)
  show (if dn k = true then 0 else f k + if k = z then W else 0) = (if dn k = true then 0 else f k) + if k = z then W else 0
  rcases Decidable.em (k = z) with w | w
  · subst w
    rw [hd, if_neg Bool.false_ne_true, if_neg Bool.false_ne_true]
  · rw [if_neg w]; rfl
theorem xsdn_rm {dn dn' : Nat → Bool} {f : Nat → Nat} {z : Nat} (hz : z < 2048) (hd : dn z = false) (hd' : dn' z = true) (hs : ∀ y, y ≠ z → dn' y = dn y) : xsdn dn f = xsdn dn' f + f z := by
  unfold xsdn
  rw [← xsum_one _ z (f z) 2048 hz]
  refine xsum_congr 2048 (fun k _ => ?_)
  rcases Decidable.em (k = z) with w | w
  · subst w
    rw [hd, hd', if_neg (by decide), if_pos rfl, if_pos rfl, Nat.zero_add]
  · rw [hs k w, if_neg w]; rfl
theorem xsdn_cg {dn dn' : Nat → Bool} {f g : Nat → Nat} (h : ∀ y, y < 2048 → (if dn y = true then 0 else f y) = (if dn' y = true then 0 else g y)) : xsdn dn f = xsdn dn' g := xsum_congr 2048 h
/-- the weights and shares of the class -/
def xSh (S : xS) (nw : Nat) (M : Nat → Bool) (wt sh : Nat → Nat) : Prop := (∀ x, x < 2048 → (M x = true → S.2.1 131 x = nI nw ∧ S.2.1 130 x = nI (wt x)) ∧ (M x = false → wt x = 0 ∧ ∃ v, v < nw ∧ S.2.1 131 x = nI v)) ∧ ∀ p, p < 8 → S.2.1 132 p = nI (sh p)
theorem xSh.fr {S S' : xS} {nw : Nat} {M : Nat → Bool} {wt sh : Nat → Nat} {P : Nat → Nat → Prop} (h : xSh S nw M wt sh) (hf : xFl P S S') (hn : ∀ i q, (i = 130 ∨ i = 131 ∨ i = 132) → ¬ P i q) : xSh S' nw M wt sh := ⟨fun x hx => ⟨fun hm => ⟨hf.i ((h.1 x hx).1 hm).1 (hn _ _ (by omega)), hf.i ((h.1 x hx).1 hm).2 (hn _ _ (by omega))⟩, fun hm => ⟨((h.1 x hx).2 hm).1, by obtain ⟨v, h1, h2⟩ := ((h.1 x hx).2 hm).2; exact ⟨v, h1, hf.i h2 (hn _ _ (by omega))⟩⟩⟩, fun p hp => hf.i (h.2 p hp) (hn _ _ (by omega))⟩
def xSg (c : xPx) (M : Nat → Bool) (wt : Nat → Nat) : Prop := ∀ x, M x = true → ∃ m s k, x = m * 8 + s ∧ xgd c m s k ∧ c.2.2.2.1.length ^ (8 - k) ∣ wt x
theorem xSh.add {S : xS} {nw : Nat} {M : Nat → Bool} {wt sh : Nat → Nat} {z W : Nat} (h : xSh S nw M wt sh) : xSh (xSI (xSI S 130 z (nI (W + wt z))) 131 z (nI nw)) nw (fun y => M y || decide (y = z)) (fun y => wt y + if y = z then W else 0) sh := by
  have F : xFl (fun i q => (i = 130 ∨ i = 131) ∧ q = z) S (xSI (xSI S 130 z (nI (W + wt z))) 131 z (nI nw)) := ((xFl.rf S).SI ⟨Or.inl rfl, rfl⟩).SI ⟨Or.inr rfl, rfl⟩
  refine ⟨fun x hx => ?_, fun p hp => F.i (h.2 p hp) (by omega)⟩
  rcases Decidable.em (x = z) with w | w
  · subst w
    refine ⟨fun _ => ⟨xI_same _ _ _ _, ?_⟩, fun hm => ?_⟩
    · show _ = nI (wt x + if x = x then W else 0)
      rw [if_pos rfl, Nat.add_comm]
      exact xi (xI_same _ _ _ _) (Or.inl (by decide))
    · have : (M x || decide (x = x)) = false := hm
      rw [decide_eq_true rfl, Bool.or_true] at this
      cases this
  · have e : (M x || decide (x = z)) = M x := by rw [decide_eq_false w, Bool.or_false]
    refine ⟨fun hm => ?_, fun hm => ?_⟩
    · have hm' : M x = true := e.symm.trans hm
      refine ⟨F.i ((h.1 x hx).1 hm').1 (by omega), ?_⟩
      show _ = nI (wt x + if x = z then W else 0)
      rw [if_neg w]
      exact F.i ((h.1 x hx).1 hm').2 (by omega)
    · have hm' : M x = false := e.symm.trans hm
      obtain ⟨h0, v, h1, h2⟩ := (h.1 x hx).2 hm'
      refine ⟨?_, v, h1, F.i h2 (by omega)⟩
      show wt x + (if x = z then W else 0) = 0
      rw [if_neg w, h0]
theorem xSg.add {c : xPx} {M : Nat → Bool} {wt : Nat → Nat} {m s k W : Nat} (h : xSg c M wt) (h8 : xgH (xzg c) ≤ 8) (hM : ∀ x, x < 2048 → M x = false → wt x = 0) (hg : xgd c m s k) (hW : c.2.2.2.1.length ^ (8 - k) ∣ W) : xSg c (fun y => M y || decide (y = m * 8 + s)) (fun y => wt y + if y = m * 8 + s then W else 0) := by
  intro x hx
  rcases Decidable.em (x = m * 8 + s) with w | w
  · refine ⟨m, s, k, w, hg, ?_⟩
    show _ ∣ wt x + if x = m * 8 + s then W else 0
    rw [if_pos w]
    refine Nat.dvd_add ?_ hW
    cases e : M x with
    | false => rw [hM x (by rw [w]; exact (hg.key h8).2.2) e]; exact Nat.dvd_zero _
    | true =>
      obtain ⟨m', s', k', e1, g1, d1⟩ := h x e
      obtain ⟨_, p1, _⟩ := hg.key h8
      obtain ⟨_, p2, _⟩ := g1.key h8
      have q1 : m' = m := by omega
      have q2 : s' = s := by omega
      subst q1; subst q2
      have q3 : k' = k := by have := hg.2.2.2; have := g1.2.2.2; omega
      subst q3
      exact d1
  · have hm : M x = true := by
      have : (M x || decide (x = m * 8 + s)) = true := hx
      rw [decide_eq_false w, Bool.or_false] at this
      exact this
    obtain ⟨m', s', k', e1, g1, d1⟩ := h x hm
    refine ⟨m', s', k', e1, g1, ?_⟩
    show _ ∣ wt x + if x = m * 8 + s then W else 0
    rw [if_neg w]
    exact d1
theorem c_add {m s W nw : Nat} {M : Nat → Bool} {wt sh : Nat → Nat} (d : Nat) (hk : m * 8 + s < 2048) (hnw : nw < 2 ^ 30) {S : xS} (hX : XC S) (kn : S.2.1 73 3 = nI nw) (h : xSh S nw M wt sh) : xcall false (d + 1) j_X2_add [.ref 73, .int (nI m), .int (nI s), .int (nI W)] S none (xSI (xSI S 130 (m * 8 + s) (nI (W + wt (m * 8 + s)))) 131 (m * 8 + s) (nI nw)) := by
  have gk := c_key (m := m) (s := s) (d + 0) (S := S)
  have gy := c_isKey (x := m * 8 + s) (d + 0) hk (S := S)
  obtain ⟨h1, h2⟩ := h.1 _ hk
  cases e : M (m * 8 + s) with
  | true =>
    obtain ⟨k1, k2⟩ := h1 e
    refine xcall_intro (ls := [.ref 73, .int (nI m), .int (nI s), .int (nI W), .float 0]) q_X2_add (by decide) rfl (Nat.le_of_ble_eq_true rfl) rfl ?_
    refine wp_iload_n dX2_add_0 rfl (wp_iload_n dX2_add_1 rfl (wp_is2 dX2_add_2 k2_100 q_X2_key (by decide) (Nat.le_of_ble_eq_true rfl) gk (wp_istore dX2_add_5 ⟨Nat.le_of_ble_eq_true rfl, Or.inr rfl⟩ rfl (wp_iload dX2_add_7 rfl (wp_is1 dX2_add_9 k2_103 q_X2_isKey (by decide) (Nat.le_of_ble_eq_true rfl) gy ?_)))))
    refine wb_if_eq dX2_add_12 rfl (fun c12 => absurd c12 (by decide)) (fun c12 => ?_)
    refine wp_aload_n dX2_add_15 rfl rfl (g2_18 dX2_add_16 (xsh hX sh_73) (xrr hX r73_1) (wp_iload dX2_add_19 rfl (wp_iload_n dX2_add_21 rfl (wp_aload_n dX2_add_22 rfl rfl (g2_22 dX2_add_23 (xsh hX sh_73) (xrr hX r73_2) (wp_iload dX2_add_26 rfl (wn_iaload dX2_add_28 (xsh hX sh_131) rfl (by omega) (by decide) k1 (wp_aload_n dX2_add_29 rfl rfl (gv2_91 dX2_add_30 (xsh hX sh_73) kn ?_)))))))))
    refine wn_icmp_ne dX2_add_33 rfl (by omega) (by omega) (fun c33 => absurd c33 (by omega)) (fun c33 => ?_)
    exact wp_aload_n dX2_add_36 rfl rfl (g2_18 dX2_add_37 (xsh hX sh_73) (xrr hX r73_1) (wp_iload dX2_add_40 rfl (wn_iaload dX2_add_42 (xsh hX sh_130) rfl (by omega) (by decide) k2 (wp_goto dX2_add_43 rfl (wv_iadd dX2_add_47 (nI_add _ _) (wn_iastore dX2_add_48 (xsh hX sh_130) rfl (by omega) (by decide) (wp_aload_n dX2_add_49 rfl rfl (g2_22 dX2_add_50 (xsh hX sh_73) (xrr hX r73_2) (wp_iload dX2_add_53 rfl (wp_aload_n dX2_add_55 rfl rfl (gv2_91 dX2_add_56 (xsh hX sh_73) (xi kn (Or.inl (by decide))) (wn_iastore dX2_add_59 (xsh hX sh_131) rfl (by omega) (by decide) (wp_return dX2_add_60 rfl ⟨rfl, rfl⟩)))))))))))))
  | false =>
    obtain ⟨k0, v, k1, k2⟩ := h2 e
    rw [k0]
    refine xcall_intro (ls := [.ref 73, .int (nI m), .int (nI s), .int (nI W), .float 0]) q_X2_add (by decide) rfl (Nat.le_of_ble_eq_true rfl) rfl ?_
    refine wp_iload_n dX2_add_0 rfl (wp_iload_n dX2_add_1 rfl (wp_is2 dX2_add_2 k2_100 q_X2_key (by decide) (Nat.le_of_ble_eq_true rfl) gk (wp_istore dX2_add_5 ⟨Nat.le_of_ble_eq_true rfl, Or.inr rfl⟩ rfl (wp_iload dX2_add_7 rfl (wp_is1 dX2_add_9 k2_103 q_X2_isKey (by decide) (Nat.le_of_ble_eq_true rfl) gy ?_)))))
    refine wb_if_eq dX2_add_12 rfl (fun c12 => absurd c12 (by decide)) (fun c12 => ?_)
    refine wp_aload_n dX2_add_15 rfl rfl (g2_18 dX2_add_16 (xsh hX sh_73) (xrr hX r73_1) (wp_iload dX2_add_19 rfl (wp_iload_n dX2_add_21 rfl (wp_aload_n dX2_add_22 rfl rfl (g2_22 dX2_add_23 (xsh hX sh_73) (xrr hX r73_2) (wp_iload dX2_add_26 rfl (wn_iaload dX2_add_28 (xsh hX sh_131) rfl (by omega) (by decide) k2 (wp_aload_n dX2_add_29 rfl rfl (gv2_91 dX2_add_30 (xsh hX sh_73) kn ?_)))))))))
    refine wn_icmp_ne dX2_add_33 rfl (by omega) (by omega) (fun c33 => ?_) (fun c33 => absurd c33 (by omega))
    exact wp_iconst (v := nI 0) dX2_add_46 rfl (wv_iadd dX2_add_47 (nI_add _ _) (wn_iastore dX2_add_48 (xsh hX sh_130) rfl (by omega) (by decide) (wp_aload_n dX2_add_49 rfl rfl (g2_22 dX2_add_50 (xsh hX sh_73) (xrr hX r73_2) (wp_iload dX2_add_53 rfl (wp_aload_n dX2_add_55 rfl rfl (gv2_91 dX2_add_56 (xsh hX sh_73) (xi kn (Or.inl (by decide))) (wn_iastore dX2_add_59 (xsh hX sh_131) rfl (by omega) (by decide) (wp_return dX2_add_60 rfl ⟨rfl, rfl⟩)))))))))
theorem gt_loop {b W d : Nat} {sh : Nat → Nat} (hb : b < 2 ^ 31) : ∀ (j p : Nat) (S : xS), p + j = 8 → XC S → (∀ q, q < p → S.2.1 132 q = nI (sh q + if b.testBit q = true then W else 0)) → (∀ q, p ≤ q → q < 8 → S.2.1 132 q = nI (sh q)) → Wp false d 2 cX2_giveTo none false 2 [.ref 73, .int (nI b), .int (nI W), .int (nI p)] [] S (fun r S' => r = none ∧ xFl (fun i _ => i = 132) S S' ∧ ∀ q, q < 8 → S'.2.1 132 q = nI (sh q + if b.testBit q = true then W else 0)) := by
  intro j
  induction j with
  | zero =>
    intro p S hp hX h1 h2
    have hpp : p = 8 := by omega
    subst hpp
    have fin : xFl (fun i _ => i = 132) S S ∧ ∀ q, q < 8 → S.2.1 132 q = nI (sh q + if b.testBit q = true then W else 0) := ⟨xFl.rf S, h1⟩
    refine wp_iload_n dX2_giveTo_2 rfl (wp_aload_n dX2_giveTo_3 rfl rfl (g2_25 dX2_giveTo_4 (xsh hX sh_73) (xrr hX r73_4) (wp_alen (v := nI 8) dX2_giveTo_7 (xsh hX sh_132) ⟨by decide, by decide⟩ rfl ?_)))
    refine wn_icmp_ge dX2_giveTo_8 rfl (by omega) (by omega) (fun c8 => ?_) (fun c8 => absurd c8 (by omega))
    exact wp_return dX2_giveTo_35 rfl ⟨rfl, fin⟩
  | succ j ih =>
    intro p S hp hX h1 h2
    have eb := xbitt (m := b) (h := p) hb
    have v := h2 p (Nat.le_refl _) (by omega)
    cases ht : b.testBit p with
    | true =>
      rw [ht, if_pos rfl] at eb
      have F1 : xFl (fun i q => i = 132 ∧ q = p) S (xSI S 132 p (nI (sh p + W))) := (xFl.rf S).SI ⟨rfl, rfl⟩
      have nx := (ih (p + 1) (xSI S 132 p (nI (sh p + W))) (by omega) (F1.XC hX) (fun q hq => by
        rcases Decidable.em (q = p) with w | w
        · subst w; rw [ht, if_pos rfl]; exact xI_same _ _ _ _
        · exact F1.i (h1 q (by omega)) (by omega)) (fun q h3 h4 => F1.i (h2 q (by omega) h4) (by omega))).mono (Q' := (fun r S' => r = none ∧ xFl (fun i _ => i = 132) S S' ∧ ∀ q, q < 8 → S'.2.1 132 q = nI (sh q + if b.testBit q = true then W else 0))) (fun r S' z => ⟨z.1, (F1.mono (fun i q h => h.1)).tt z.2.1, z.2.2⟩)
      refine wp_iload_n dX2_giveTo_2 rfl (wp_aload_n dX2_giveTo_3 rfl rfl (g2_25 dX2_giveTo_4 (xsh hX sh_73) (xrr hX r73_4) (wp_alen (v := nI 8) dX2_giveTo_7 (xsh hX sh_132) ⟨by decide, by decide⟩ rfl ?_)))
      refine wn_icmp_ge dX2_giveTo_8 rfl (by omega) (by omega) (fun c8 => absurd c8 (by omega)) (fun c8 => ?_)
      refine wp_iload_n dX2_giveTo_11 rfl (wp_iload_n dX2_giveTo_12 rfl (wv_ishr dX2_giveTo_13 (xshR hb (by omega)) (wp_iconst (v := nI 1) dX2_giveTo_14 rfl (wv_iand dX2_giveTo_15 eb ?_))))
      refine wn_if_eq dX2_giveTo_16 rfl (by omega) (fun c16 => absurd c16 (by omega)) (fun c16 => ?_)
      exact wp_aload_n dX2_giveTo_19 rfl rfl (g2_25 dX2_giveTo_20 (xsh hX sh_73) (xrr hX r73_4) (wp_iload_n dX2_giveTo_23 rfl (wp_dup2 dX2_giveTo_24 ⟨rfl, rfl⟩ (wn_iaload dX2_giveTo_25 (xsh hX sh_132) rfl (by omega) (by decide) v (wp_iload_n dX2_giveTo_26 rfl (wv_iadd dX2_giveTo_27 (nI_add _ _) (wn_iastore dX2_giveTo_28 (xsh hX sh_132) rfl (by omega) (by decide) (wp_iinc dX2_giveTo_29 rfl (nI_1 _) ⟨Nat.le_of_ble_eq_true rfl, Or.inr rfl⟩ rfl (wp_goto dX2_giveTo_32 rfl nx)))))))))
    | false =>
      rw [ht, if_neg (by decide)] at eb
      have nx := ih (p + 1) S (by omega) hX (fun q hq => by
        rcases Decidable.em (q = p) with w | w
        · subst w; rw [ht, if_neg (by decide)]; exact v
        · exact h1 q (by omega)) (fun q h3 h4 => h2 q (by omega) h4)
      refine wp_iload_n dX2_giveTo_2 rfl (wp_aload_n dX2_giveTo_3 rfl rfl (g2_25 dX2_giveTo_4 (xsh hX sh_73) (xrr hX r73_4) (wp_alen (v := nI 8) dX2_giveTo_7 (xsh hX sh_132) ⟨by decide, by decide⟩ rfl ?_)))
      refine wn_icmp_ge dX2_giveTo_8 rfl (by omega) (by omega) (fun c8 => absurd c8 (by omega)) (fun c8 => ?_)
      refine wp_iload_n dX2_giveTo_11 rfl (wp_iload_n dX2_giveTo_12 rfl (wv_ishr dX2_giveTo_13 (xshR hb (by omega)) (wp_iconst (v := nI 1) dX2_giveTo_14 rfl (wv_iand dX2_giveTo_15 eb ?_))))
      refine wn_if_eq dX2_giveTo_16 rfl (by omega) (fun c16 => ?_) (fun c16 => absurd c16 (by omega))
      exact wp_iinc dX2_giveTo_29 rfl (nI_1 _) ⟨Nat.le_of_ble_eq_true rfl, Or.inr rfl⟩ rfl (wp_goto dX2_giveTo_32 rfl nx)
theorem c_giveTo {b W nw : Nat} {M : Nat → Bool} {wt sh : Nat → Nat} (d : Nat) (hb : b < 2 ^ 31) {S : xS} (hX : XC S) (h : xSh S nw M wt sh) : ∃ S', xcall false d j_X2_giveTo [.ref 73, .int (nI b), .int (nI W)] S none S' ∧ xFl (fun i _ => i = 132) S S' ∧ xSh S' nw M wt (fun p => (sh p + if b.testBit p = true then W else 0)) := by
  have lp := gt_loop (W := W) (sh := sh) (d := d) hb 8 0 S (Nat.zero_add _) hX (fun q hq => absurd hq (Nat.not_lt_zero q)) (fun q _ h4 => h.2 q h4)
  obtain ⟨r, S', g1, rfl, z1, z2⟩ := xcall_some (al := false) (d := d) (ls := [.ref 73, .int (nI b), .int (nI W), .float 0]) (S := S) (as := [.ref 73, .int (nI b), .int (nI W)]) q_X2_giveTo (by decide) rfl (Nat.le_of_ble_eq_true rfl) rfl (P := (fun r S' => r = none ∧ xFl (fun i _ => i = 132) S S' ∧ ∀ q, q < 8 → S'.2.1 132 q = nI (sh q + if b.testBit q = true then W else 0))) (by
      exact wp_iconst (v := nI 0) dX2_giveTo_0 rfl (wp_istore_n dX2_giveTo_1 ⟨Nat.le_of_ble_eq_true rfl, Or.inr rfl⟩ rfl lp))
  refine ⟨S', g1, z1, ⟨fun x hx => ⟨fun hm => ⟨z1.i ((h.1 x hx).1 hm).1 (by omega), z1.i ((h.1 x hx).1 hm).2 (by omega)⟩, fun hm => ⟨((h.1 x hx).2 hm).1, by obtain ⟨v, h1, h2⟩ := ((h.1 x hx).2 hm).2; exact ⟨v, h1, z1.i h2 (by omega)⟩⟩⟩, z2⟩⟩
theorem c_hitsBefore {c : xPx} {ex m s k : Nat} (d : Nat) (ho : xzo c) (h8 : xgH (xzg c) ≤ 8) (hg : xgd c m s k) {S : xS} (hX : XC S) (hD : xRD S c ex) : xcall false (d + 1) j_X2_hitsBefore [.ref 73, .int (nI m)] S (some (.int (nI k))) S := by
  have k12 := hD.1.2.2.1
  have gb := c_bitCount m (d + 0) (S := S) (by have := (hg.key h8).1; omega)
  rw [xcb_up hg.1 12 (by omega)] at gb
  have hc := hg.2.2.2
  have e : nI (xgH (xzg c)) - nI (xcb m (xgH (xzg c))) = nI k := by rw [pk_sub (by omega), show xgH (xzg c) - xcb m (xgH (xzg c)) = k by omega]
  refine xcall_intro (ls := [.ref 73, .int (nI m)]) q_X2_hitsBefore (by decide) rfl (Nat.le_of_ble_eq_true rfl) rfl ?_
  exact wp_aload_n dX2_hitsBefore_0 rfl rfl (g2_14 dX2_hitsBefore_1 (xsh hX sh_73) (xrr hX r73_0) (gv2_28 dX2_hitsBefore_4 (xsh hX sh_74) k12 (wp_iload_n dX2_hitsBefore_7 rfl (wp_is1 dX2_hitsBefore_8 k2_32 q_J6_bitCount_0f7a4 (by decide) (Nat.le_of_ble_eq_true rfl) gb (wv_isub dX2_hitsBefore_11 e (wp_ireturn dX2_hitsBefore_12 rfl rfl ⟨rfl, rfl⟩))))))
theorem ws_loop {N d : Nat} {S : xS} (hX : XC S) (k5 : S.2.1 74 5 = nI N) : ∀ (j i : Nat), i + j = 8 → Wp false d 2 cX2_wholeShare (some .int) false 4 [.ref 73, .int (nI (N ^ i)), .int (nI i)] [] S (fun r S' => r = some (.int (nI (N ^ 8))) ∧ S' = S) := by
  intro j
  induction j with
  | zero =>
    intro i hi
    have hii : i = 8 := by omega
    subst hii
    refine wp_iload_n dX2_wholeShare_4 rfl (wp_bipush (v := nI 8) dX2_wholeShare_5 rfl ?_)
    refine wn_icmp_ge dX2_wholeShare_7 rfl (by omega) (by omega) (fun c7 => ?_) (fun c7 => absurd c7 (by omega))
    exact wp_iload_n dX2_wholeShare_26 rfl (wp_ireturn dX2_wholeShare_27 rfl rfl ⟨rfl, rfl⟩)
  | succ j ih =>
    intro i hi
    have nx := ih (i + 1) (by omega)
    rw [Nat.pow_succ] at nx
    refine wp_iload_n dX2_wholeShare_4 rfl (wp_bipush (v := nI 8) dX2_wholeShare_5 rfl ?_)
    refine wn_icmp_ge dX2_wholeShare_7 rfl (by omega) (by omega) (fun c7 => absurd c7 (by omega)) (fun c7 => ?_)
    exact wp_iload_n dX2_wholeShare_10 rfl (wp_aload_n dX2_wholeShare_11 rfl rfl (g2_14 dX2_wholeShare_12 (xsh hX sh_73) (xrr hX r73_0) (gv2_115 dX2_wholeShare_15 (xsh hX sh_74) k5 (wv_imul dX2_wholeShare_18 (pk_mul _ _) (wp_istore_n dX2_wholeShare_19 ⟨Nat.le_of_ble_eq_true rfl, Or.inr rfl⟩ rfl (wp_iinc dX2_wholeShare_20 rfl (nI_1 _) ⟨Nat.le_of_ble_eq_true rfl, Or.inr rfl⟩ rfl (wp_goto dX2_wholeShare_23 rfl nx)))))))
theorem c_wholeShare {N : Nat} (d : Nat) {S : xS} (hX : XC S) (k5 : S.2.1 74 5 = nI N) : xcall false d j_X2_wholeShare [.ref 73] S (some (.int (nI (N ^ 8)))) S := by
  have lp := ws_loop (d := d) hX k5 8 0 (Nat.zero_add _)
  rw [Nat.pow_zero] at lp
  refine xcall_intro (ls := [.ref 73, .float 0, .float 0]) q_X2_wholeShare (by decide) rfl (Nat.le_of_ble_eq_true rfl) rfl ?_
  exact wp_iconst (v := nI 1) dX2_wholeShare_0 rfl (wp_istore_n dX2_wholeShare_1 ⟨Nat.le_of_ble_eq_true rfl, Or.inr rfl⟩ rfl (wp_iconst (v := nI 0) dX2_wholeShare_2 rfl (wp_istore_n dX2_wholeShare_3 ⟨Nat.le_of_ble_eq_true rfl, Or.inr rfl⟩ rfl lp)))
theorem c_shareOf {p : Nat} {v : Int32} (d : Nat) (hp : p < 8) {S : xS} (hX : XC S) (h : S.2.1 132 p = v) : xcall false d j_X2_shareOf [.ref 73, .int (nI p)] S (some (.int v)) S := by
  refine xcall_intro (ls := [.ref 73, .int (nI p)]) q_X2_shareOf (by decide) rfl (Nat.le_of_ble_eq_true rfl) rfl ?_
  refine wp_iload_n dX2_shareOf_0 rfl ?_
  refine wn_if_lt dX2_shareOf_1 rfl (by omega) ?_
  refine wp_iload_n dX2_shareOf_4 rfl (wp_aload_n dX2_shareOf_5 rfl rfl (g2_25 dX2_shareOf_6 (xsh hX sh_73) (xrr hX r73_4) (wp_alen (v := nI 8) dX2_shareOf_9 (xsh hX sh_132) ⟨by decide, by decide⟩ rfl ?_)))
  refine wn_icmp_ge dX2_shareOf_10 rfl (by omega) (by omega) (fun c10 => absurd c10 (by omega)) (fun c10 => ?_)
  exact wp_aload_n dX2_shareOf_13 rfl rfl (g2_25 dX2_shareOf_14 (xsh hX sh_73) (xrr hX r73_4) (wp_iload_n dX2_shareOf_17 rfl (wn_iaload dX2_shareOf_18 (xsh hX sh_132) rfl (by omega) (by decide) h (wp_goto dX2_shareOf_19 rfl (wp_ireturn dX2_shareOf_23 rfl rfl ⟨rfl, rfl⟩)))))
