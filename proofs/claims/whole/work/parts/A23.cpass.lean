/-! shares of the class: pass -/
theorem xpi_one (f : Bool) (h : Nat) : ∀ n, xpi f (2 ^ h) n = if h < n then 2 ^ xow f h else 0
  | 0 => by rw [xpi, if_neg (by omega)]
  | n + 1 => by
    rw [xpi, Nat.testBit_two_pow, xpi_one f h n]
    rcases Decidable.em (h = n) with w | w
    · subst w
      rw [decide_eq_true rfl, if_pos rfl, if_neg (Nat.lt_irrefl h), if_pos (Nat.lt_succ_self h), Nat.zero_or]
    · rw [decide_eq_false w, if_neg Bool.false_ne_true]
      rcases Nat.lt_or_ge h n with q | q
      · rw [if_pos q, if_pos (by omega)]
      · rw [if_neg (by omega), if_neg (by omega)]
theorem xcb_one {j : Nat} (h : j < 12) : xcb (2 ^ j) 12 = 1 := by
  have e := xcb_rm (m := 2 ^ j) (h := j) (by rw [Nat.testBit_two_pow, decide_eq_true rfl]) 12 h
  rw [Nat.xor_self] at e
  have z : xcb 0 12 = 0 := by decide
  omega
theorem xgd.nx0 {c : xPx} {ex m s k a : Nat} (ho : xzo c) (h : xgd c m s k) (hov : xovr (xzg c) m = false) (hst : xgs (xzg c) = false) : xgd c (xn1 c ex m s k a) (xn2 c ex m s k a) (k + 1) := by
  obtain ⟨x, hx, hb⟩ := xtb_ex h.1 h.2.1
  have hr1 := xzR_pos (k := k) hx hb h.2.2.1
  have hh : xzh c ex m s k a < xgH (xzg c) := xzh_lt ex m k a h.2.2.1
  have hbit : m.testBit (xzh c ex m s k a) = true := xha_tb h.2.2.1 hr1
  have hcb := xcb_rm hbit (xgH (xzg c)) hh
  have hc := h.2.2.2
  have hown := xow_lt hh
  have hP : xgP (xzg c) ≤ 12 := ho.g.2.1
  refine ⟨xrm_lt h.1 hh, ?_, xnb1_lt ho.g h.2.2.1 hh, ?_⟩
  · rcases Nat.eq_zero_or_pos (xn1 c ex m s k a) with z | z
    · have em : m = 2 ^ xzh c ex m s k a := by
        refine Nat.eq_of_testBit_eq (fun i => ?_)
        have q := xtb_rm (m := m) (h := xzh c ex m s k a) (i := i)
        rw [show m ^^^ 2 ^ xzh c ex m s k a = 0 from z, Nat.zero_testBit] at q
        rw [Nat.testBit_two_pow]
        cases e1 : m.testBit i <;> cases e2 : decide (xzh c ex m s k a = i) <;> rw [e1, e2] at q <;> first | rfl | cases q
      have ep : xpm (xzg c) m = 2 ^ xow (xgf (xzg c)) (xzh c ex m s k a) := by
        rw [← xpi_pm h.1]
        have := xpi_one (xgf (xzg c)) (xzh c ex m s k a) (xgH (xzg c))
        rw [← em, if_pos hh] at this
        exact this
      have l1 : 1 ≤ xgl (xzg c) := ho.1.2.1
      unfold xovr at hov
      rw [hst, ep, xcb_one (by omega), decide_eq_true l1] at hov
      cases hov
    · exact z
  · show xcb (m ^^^ 2 ^ xzh c ex m s k a) (xgH (xzg c)) + (k + 1) = xgH (xzg c)
    omega
theorem xvl_Us {c : xPx} {ex p m s k a : Nat} (hk : k + 1 ≤ xgH (xzg c)) (hst : xgs (xzg c) = false) : xvl c ex (xEw c p) (xVw c ex p) m s k a = xUs c ex p (xn1 c ex m s k a) (xn2 c ex m s k a) (k + 1) := by
  unfold xvl xen xUs
  rw [hst, if_neg Bool.false_ne_true]
  cases xovr (xzg c) (xn1 c ex m s k a) with
  | true =>
    rw [if_pos rfl, if_pos rfl]
    show xEw c p k _ = _
    unfold xEw
    rw [show xgH (xzg c) - k - 1 = xgH (xzg c) - (k + 1) by omega]
  | false => rw [if_neg Bool.false_ne_true, if_neg Bool.false_ne_true]; rfl
theorem xvl_st {c : xPx} {ex p m s k a : Nat} (hst : xgs (xzg c) = true) : xvl c ex (xEw c p) (xVw c ex p) m s k a = if (2 ^ xow (xgf (xzg c)) (xzh c ex m s k a)).testBit p = true then c.2.2.2.1.length ^ (xgH (xzg c) - k - 1) else 0 := by
  unfold xvl xen
  rw [hst, if_pos rfl]
  rfl
def xok (m : Nat) (dn : Nat → Bool) : Prop := ∀ y, y < m * 8 → dn y = false
def xpsI (c : xPx) (ex m s k v : Nat) (M0 : Nat → Bool) (wt0 sh0 : Nat → Nat) (M : Nat → Bool) (wt sh : Nat → Nat) (a : Nat) : Prop := (∀ y, m * 8 ≤ y → wt y = wt0 y ∧ M y = M0 y) ∧ ∀ p dn, p < xgP (xzg c) → xok m dn → (sh p * c.2.2.2.1.length ^ xgH (xzg c) + xsdn dn (fun y => wt y * xku c ex p y) = sh0 p * c.2.2.2.1.length ^ xgH (xzg c) + xsdn dn (fun y => wt0 y * xku c ex p y) + v * c.2.2.2.1.length ^ (k + 1) * xsum (fun a => xvl c ex (xEw c p) (xVw c ex p) m s k a) a) ∧ sh p + xsdn dn wt ≤ sh0 p + xsdn dn wt0 + v * a
def xpsR (c : xPx) (ex m s k W : Nat) (M0 : Nat → Bool) (wt0 sh0 : Nat → Nat) (M : Nat → Bool) (wt sh : Nat → Nat) : Prop := (∀ y, m * 8 ≤ y → wt y = wt0 y ∧ M y = M0 y) ∧ ∀ p dn, p < xgP (xzg c) → xok m dn → (sh p * c.2.2.2.1.length ^ xgH (xzg c) + xsdn dn (fun y => wt y * xku c ex p y) = sh0 p * c.2.2.2.1.length ^ xgH (xzg c) + xsdn dn (fun y => wt0 y * xku c ex p y) + W * (xUs c ex p m s k * c.2.2.2.1.length ^ k)) ∧ sh p + xsdn dn wt ≤ sh0 p + xsdn dn wt0 + W
theorem xpsI.z {c : xPx} {ex m s k v : Nat} {M0 : Nat → Bool} {wt0 sh0 : Nat → Nat} : xpsI c ex m s k v M0 wt0 sh0 M0 wt0 sh0 0 := ⟨fun y _ => ⟨rfl, rfl⟩, fun p dn _ _ => ⟨by rw [xsum, Nat.mul_zero, Nat.add_zero], by omega⟩⟩
theorem xpsI.give {c : xPx} {ex m s k v a : Nat} {M0 M : Nat → Bool} {wt0 sh0 wt sh : Nat → Nat} (hk : k + 1 ≤ xgH (xzg c)) (hst : xgs (xzg c) = true) (h : xpsI c ex m s k v M0 wt0 sh0 M wt sh a) : xpsI c ex m s k v M0 wt0 sh0 M wt (fun p => sh p + if (2 ^ xow (xgf (xzg c)) (xzh c ex m s k a)).testBit p = true then v else 0) (a + 1) := by
  refine ⟨h.1, fun p dn hp hd => ?_⟩
  obtain ⟨e1, e2⟩ := h.2 p dn hp hd
  show (sh p + if (2 ^ xow (xgf (xzg c)) (xzh c ex m s k a)).testBit p = true then v else 0) * _ + _ = _ ∧ (sh p + if (2 ^ xow (xgf (xzg c)) (xzh c ex m s k a)).testBit p = true then v else 0) + _ ≤ _
  rw [xsum, Nat.mul_add (v * c.2.2.2.1.length ^ (k + 1)), xvl_st hst, Nat.mul_add v a 1, Nat.mul_one]
  cases ht : (2 ^ xow (xgf (xzg c)) (xzh c ex m s k a)).testBit p with
  | true =>
    have e3 : v * c.2.2.2.1.length ^ (k + 1) * c.2.2.2.1.length ^ (xgH (xzg c) - k - 1) = v * c.2.2.2.1.length ^ xgH (xzg c) := by
      rw [Nat.mul_assoc, ← Nat.pow_add, show k + 1 + (xgH (xzg c) - k - 1) = xgH (xzg c) by omega]
    rw [if_pos rfl, if_pos rfl, Nat.add_mul, e3]
    constructor <;> omega
  | false =>
    rw [if_neg Bool.false_ne_true, if_neg Bool.false_ne_true, Nat.add_zero, Nat.mul_zero]
    constructor <;> omega
theorem xpsI.add {c : xPx} {ex m s k v a : Nat} {M0 M : Nat → Bool} {wt0 sh0 wt sh : Nat → Nat} (ho : xzo c) (h8 : xgH (xzg c) ≤ 8) (hg : xgd c m s k) (hov : xovr (xzg c) m = false) (hst : xgs (xzg c) = false) (h : xpsI c ex m s k v M0 wt0 sh0 M wt sh a) : xpsI c ex m s k v M0 wt0 sh0 (fun y => M y || decide (y = xn1 c ex m s k a * 8 + xn2 c ex m s k a)) (fun y => wt y + if y = xn1 c ex m s k a * 8 + xn2 c ex m s k a then v else 0) sh (a + 1) := by
  have hn := hg.nx0 (ex := ex) (a := a) ho hov hst
  obtain ⟨_, hs, hkey⟩ := hn.key h8
  obtain ⟨x, hx, hb⟩ := xtb_ex hg.1 hg.2.1
  have hr1 := xzR_pos (k := k) hx hb hg.2.2.1
  have lt : xn1 c ex m s k a < m := xxor_lt (xha_tb hg.2.2.1 hr1)
  refine ⟨fun y hy => ?_, fun p dn hp hd => ?_⟩
  · have ne : ¬ y = xn1 c ex m s k a * 8 + xn2 c ex m s k a := by omega
    show (wt y + if y = _ then v else 0) = _ ∧ (M y || decide (y = _)) = _
    rw [if_neg ne, decide_eq_false ne, Bool.or_false, Nat.add_zero]
    exact h.1 y hy
  · obtain ⟨e1, e2⟩ := h.2 p dn hp hd
    have hz : dn (xn1 c ex m s k a * 8 + xn2 c ex m s k a) = false := hd _ (by omega)
    show _ + xsdn dn (fun y => (wt y + if y = _ then v else 0) * xku c ex p y) = _ ∧ _ + xsdn dn (fun y => wt y + if y = _ then v else 0) ≤ _
    rw [xsdn_up hkey hz, xsdn_up1 hkey hz, xku_at h8 hn, xsum, Nat.mul_add (v * c.2.2.2.1.length ^ (k + 1)), xvl_Us hg.k hst, Nat.mul_add v a 1, Nat.mul_one]
    have e3 : v * (xUs c ex p (xn1 c ex m s k a) (xn2 c ex m s k a) (k + 1) * c.2.2.2.1.length ^ (k + 1)) = v * c.2.2.2.1.length ^ (k + 1) * xUs c ex p (xn1 c ex m s k a) (xn2 c ex m s k a) (k + 1) := by
      rw [Nat.mul_comm (xUs c ex p _ _ _), Nat.mul_assoc]
    rw [e3]
    constructor <;> omega
theorem xpsI.fin {c : xPx} {ex m s k W v : Nat} {M0 M : Nat → Bool} {wt0 sh0 wt sh : Nat → Nat} (hg : xgd c m s k) (hov : xovr (xzg c) m = false) (hv : v * xzw c k = W) (h : xpsI c ex m s k v M0 wt0 sh0 M wt sh (xzw c k)) : xpsR c ex m s k W M0 wt0 sh0 M wt sh := by
  refine ⟨h.1, fun p dn hp hd => ?_⟩
  obtain ⟨e1, e2⟩ := h.2 p dn hp hd
  rw [hv] at e2
  refine ⟨?_, e2⟩
  rw [e1]
  have eU : xUs c ex p m s k = xJw c m s k (xvl c ex (xEw c p) (xVw c ex p) m s k) := by
    unfold xUs
    rw [hov, if_neg Bool.false_ne_true]
    exact xV_eq _ _ hg
  rw [eU]
  congr 1
  unfold xJw
  unfold xzw at hv ⊢
  cases hask : xzA c k with
  | true =>
    rw [hask, if_pos rfl] at hv
    rw [if_pos rfl, if_pos rfl, ← hv, Nat.pow_succ]
    generalize c.2.2.2.1.length ^ k = A
    generalize xsum (fun a => xvl c ex (xEw c p) (xVw c ex p) m s k a) c.2.2.2.1.length = B
    rw [Nat.mul_comm A, ← Nat.mul_assoc v, Nat.mul_assoc, Nat.mul_comm A]
  | false =>
    rw [hask, if_neg Bool.false_ne_true, Nat.mul_one] at hv
    rw [if_neg Bool.false_ne_true, if_neg Bool.false_ne_true, hv, xsum, xsum, Nat.zero_add, Nat.pow_succ]
    generalize c.2.2.2.1.length ^ k = A
    generalize xvl c ex (xEw c p) (xVw c ex p) m s k 0 = B
    rw [Nat.mul_assoc, Nat.mul_assoc, Nat.mul_comm A, Nat.mul_assoc]
theorem xpsR.over {c : xPx} {ex m s k W : Nat} {M0 : Nat → Bool} {wt0 sh0 : Nat → Nat} (hg : xgd c m s k) (hov : xovr (xzg c) m = true) : xpsR c ex m s k W M0 wt0 sh0 M0 wt0 (fun p => sh0 p + if (xpm (xzg c) m).testBit p = true then W else 0) := by
  have hk := hg.k
  refine ⟨fun y _ => ⟨rfl, rfl⟩, fun p dn hp hd => ?_⟩
  show (sh0 p + if (xpm (xzg c) m).testBit p = true then W else 0) * _ + _ = _ ∧ (sh0 p + if (xpm (xzg c) m).testBit p = true then W else 0) + _ ≤ _
  unfold xUs
  rw [hov, if_pos rfl]
  cases ht : (xpm (xzg c) m).testBit p with
  | true =>
    rw [if_pos rfl, if_pos rfl, Nat.add_mul, ← Nat.pow_add, show xgH (xzg c) - k + k = xgH (xzg c) by omega]
    constructor <;> omega
  | false =>
    rw [if_neg Bool.false_ne_true, if_neg Bool.false_ne_true, Nat.add_zero, Nat.zero_mul, Nat.mul_zero]
    constructor <;> omega
def xFP (i q : Nat) : Prop := (i = 74 ∧ q = 7) ∨ i = 79 ∨ i = 80 ∨ (82 ≤ i ∧ i ≤ 105) ∨ i = 130 ∨ i = 131 ∨ i = 132
theorem ps_loop {c : xPx} {ex m s k W v nw d : Nat} {M0 : Nat → Bool} {wt0 sh0 : Nat → Nat} (ho : xzo c) (ha : xzal c = true) (h8 : xgH (xzg c) ≤ 8) (hex : ex ≤ 1000) (hnw : nw < 2 ^ 30) (hg : xgd c m s k) (hov : xovr (xzg c) m = false) (hW : W < 2 ^ 30) (hv : v * xzw c k = W) (hdv : c.2.2.2.1.length ^ (8 - (k + 1)) ∣ v) : ∀ (j a : Nat) (S : xS) (M : Nat → Bool) (wt sh : Nat → Nat) (y7 y8 : Value), a + j = xzw c k → XC S → xRD S c ex → S.2.1 73 3 = nI nw → xSh S nw M wt sh → xSg c M wt → (∀ e, e < xzw c k → S.2.1 (82 + k) e = nI (xzh c ex m s k e)) → xpsI c ex m s k v M0 wt0 sh0 M wt sh a → Wp false (d + 4) 2 cX2_pass none false 55 [.ref 73, .int (nI m), .int (nI s), .int (nI W), .int (nI k), .int (nI (xzw c k)), .int (nI a), y7, y8] [] S (fun r S' => r = none ∧ xFl xFP S S' ∧ ∃ M' wt' sh', xSh S' nw M' wt' sh' ∧ xSg c M' wt' ∧ xpsR c ex m s k W M0 wt0 sh0 M' wt' sh') := by
  have hgg := ho.g
  have g24 := hgg.H
  have hN := ho.2.2.1
  have hk := hg.k
  have hP12 : xgP (xzg c) ≤ 12 := hgg.2.1
  have hw1 : 1 ≤ xzw c k ∧ xzw c k ≤ 5 := by unfold xzw; split <;> omega
  have hdiv : W / xzw c k = v := by rw [← hv]; exact Nat.mul_div_cancel v (by omega)
  intro j
  induction j with
  | zero =>
    intro a S M wt sh y7 y8 haj hX hD kn hS hG h82 hI
    have haa : a = xzw c k := by omega
    subst haa
    have fin : xFl xFP S S ∧ ∃ M' wt' sh', xSh S nw M' wt' sh' ∧ xSg c M' wt' ∧ xpsR c ex m s k W M0 wt0 sh0 M' wt' sh' := ⟨xFl.rf S, M, wt, sh, hS, hG, hI.fin hg hov hv⟩
    refine wp_iload dX2_pass_55 rfl (wp_iload dX2_pass_57 rfl ?_)
    refine wn_icmp_ge dX2_pass_59 rfl (by omega) (by omega) (fun c59 => ?_) (fun c59 => absurd c59 (by omega))
    exact wp_return dX2_pass_149 rfl ⟨rfl, fin⟩
  | succ j ih =>
    intro a S M wt sh y7 y8 haj hX hD kn hS hG h82 hI
    have hh : xzh c ex m s k a < xgH (xzg c) := xzh_lt ex m k a hg.2.2.1
    have hown := xow_lt hh
    have gh := c_handHit (d + 3) (show k < 24 by omega) (show a < 5 by omega) hX (h82 a (by omega))
    have ks := hD.1.2.2.2.2.2.1
    cases hst : xgs (xzg c) with
    | true =>
      rw [hst] at ks
      have p12 : 2 ^ xow (xgf (xzg c)) (xzh c ex m s k a) < 2 ^ 12 := Nat.pow_lt_pow_right (by decide) (by omega)
      have go := c_ownerOf (h := xzh c ex m s k a) (d + 3) (by omega) hX hD.1
      obtain ⟨S1, g1, f1, s1⟩ := c_giveTo (b := 2 ^ xow (xgf (xzg c)) (xzh c ex m s k a)) (W := v) (d + 3) (by omega) hX hS
      have F1 : xFl xFP S S1 := f1.mono (fun i q h => by unfold xFP; omega)
      have X1 := F1.XC hX
      have nx := (ih (a + 1) S1 M wt _ (.int (nI (xzh c ex m s k a))) y8 (by omega) X1 (hD.fr f1 (fun i q h => by omega) ho) (f1.i kn (by omega)) s1 hG (fun e he => f1.i (h82 e he) (by omega)) (hI.give hk hst)).mono (Q' := (fun r S' => r = none ∧ xFl xFP S S' ∧ ∃ M' wt' sh', xSh S' nw M' wt' sh' ∧ xSg c M' wt' ∧ xpsR c ex m s k W M0 wt0 sh0 M' wt' sh')) (fun r S' z => ⟨z.1, F1.tt z.2.1, z.2.2⟩)
      refine wp_iload dX2_pass_55 rfl (wp_iload dX2_pass_57 rfl ?_)
      refine wn_icmp_ge dX2_pass_59 rfl (by omega) (by omega) (fun c59 => absurd c59 (by omega)) (fun c59 => ?_)
      refine wp_aload_n dX2_pass_62 rfl rfl (g2_14 dX2_pass_63 (xsh hX sh_73) (xrr hX r73_0) (wp_iload dX2_pass_66 rfl (wp_iload dX2_pass_68 rfl (wp_iv3 dX2_pass_70 k2_75 q_X4_handHit (by decide) (xsh hX sh_74) (by decide) (Nat.le_of_ble_eq_true rfl) gh (wp_istore dX2_pass_73 ⟨Nat.le_of_ble_eq_true rfl, Or.inr rfl⟩ rfl (wp_aload_n dX2_pass_75 rfl rfl (g2_14 dX2_pass_76 (xsh hX sh_73) (xrr hX r73_0) (gv2_71 dX2_pass_79 (xsh hX sh_74) ks ?_))))))))
      refine wb_if_eq dX2_pass_82 rfl (fun c82 => absurd c82 (by decide)) (fun c82 => ?_)
      exact wp_aload_n dX2_pass_85 rfl rfl (wp_iconst (v := nI 1) dX2_pass_86 rfl (wp_aload_n dX2_pass_87 rfl rfl (g2_14 dX2_pass_88 (xsh hX sh_73) (xrr hX r73_0) (wp_iload dX2_pass_91 rfl (wp_iv2 dX2_pass_93 k2_112 q_X4_ownerOf (by decide) (xsh hX sh_74) (by decide) (Nat.le_of_ble_eq_true rfl) go (wv_ishl dX2_pass_96 (xshl1 (by omega)) (wp_iload_n dX2_pass_97 rfl (wp_iload dX2_pass_98 rfl (wv_idiv dX2_pass_100 (nI_n0 (by omega) (by omega)) ((pk_div (by omega) (by omega) (by omega)).trans (congrArg nI hdiv)) (wp_iv3 dX2_pass_101 k2_140 q_X2_giveTo (by decide) (xsh hX sh_73) (by decide) (Nat.le_of_ble_eq_true rfl) g1 (wp_goto dX2_pass_104 rfl (wp_iinc dX2_pass_143 rfl (nI_1 _) ⟨Nat.le_of_ble_eq_true rfl, Or.inr rfl⟩ rfl (wp_goto dX2_pass_146 rfl nx)))))))))))))
    | false =>
      rw [hst] at ks
      have hn := hg.nx0 (ex := ex) (a := a) ho hov hst
      obtain ⟨x, hx, hb⟩ := xtb_ex hg.1 hg.2.1
      have hr1 := xzR_pos (k := k) hx hb hg.2.2.1
      have hbit : m.testBit (xzh c ex m s k a) = true := xha_tb hg.2.2.1 hr1
      have h24 := x24 g24.2.1 hg.1
      have h242 := x24 g24.2.1 hn.1
      have gn := c_nextBegin (m := xn1 c ex m s k a) (s := s) (h := xzh c ex m s k a) (k := k + 1) (d + 1) hgg (by omega) hg.2.2.1 hh (by omega) hX hD.1
      have gd := c_add (m := xn1 c ex m s k a) (s := xn2 c ex m s k a) (W := v) (d + 2) (hn.key h8).2.2 hnw hX kn hS
      have s1 := hS.add (z := xn1 c ex m s k a * 8 + xn2 c ex m s k a) (W := v)
      have F : xFl (fun i q => i = 130 ∨ i = 131) S (xSI (xSI S 130 (xn1 c ex m s k a * 8 + xn2 c ex m s k a) (nI (v + wt (xn1 c ex m s k a * 8 + xn2 c ex m s k a)))) 131 (xn1 c ex m s k a * 8 + xn2 c ex m s k a) (nI nw)) := ((xFl.rf S).SI (Or.inl rfl)).SI (Or.inr rfl)
      have F1 := F.mono (Q := xFP) (fun i q h => by unfold xFP; omega)
      have X1 := F1.XC hX
      have nx := (ih (a + 1) _ _ _ sh (.int (nI (xzh c ex m s k a))) (.int (nI (xn1 c ex m s k a))) (by omega) X1 (hD.fr F (fun i q h => by omega) ho) (F.i kn (by omega)) s1 (hG.add h8 (fun x hx e => ((hS.1 x hx).2 e).1) hn hdv) (fun e he => F.i (h82 e he) (by omega)) (hI.add ho h8 hg hov hst)).mono (Q' := (fun r S' => r = none ∧ xFl xFP S S' ∧ ∃ M' wt' sh', xSh S' nw M' wt' sh' ∧ xSg c M' wt' ∧ xpsR c ex m s k W M0 wt0 sh0 M' wt' sh')) (fun r S' z => ⟨z.1, F1.tt z.2.1, z.2.2⟩)
      refine wp_iload dX2_pass_55 rfl (wp_iload dX2_pass_57 rfl ?_)
      refine wn_icmp_ge dX2_pass_59 rfl (by omega) (by omega) (fun c59 => absurd c59 (by omega)) (fun c59 => ?_)
      refine wp_aload_n dX2_pass_62 rfl rfl (g2_14 dX2_pass_63 (xsh hX sh_73) (xrr hX r73_0) (wp_iload dX2_pass_66 rfl (wp_iload dX2_pass_68 rfl (wp_iv3 dX2_pass_70 k2_75 q_X4_handHit (by decide) (xsh hX sh_74) (by decide) (Nat.le_of_ble_eq_true rfl) gh (wp_istore dX2_pass_73 ⟨Nat.le_of_ble_eq_true rfl, Or.inr rfl⟩ rfl (wp_aload_n dX2_pass_75 rfl rfl (g2_14 dX2_pass_76 (xsh hX sh_73) (xrr hX r73_0) (gv2_71 dX2_pass_79 (xsh hX sh_74) ks ?_))))))))
      refine wb_if_eq dX2_pass_82 rfl (fun c82 => ?_) (fun c82 => absurd c82 (by decide))
      exact wp_iload_n dX2_pass_107 rfl (wp_iconst (v := nI 1) dX2_pass_108 rfl (wp_iload dX2_pass_109 rfl (wv_ishl dX2_pass_111 (xshl1 (by omega)) (wp_iconst (v := -1) dX2_pass_112 rfl (wp_ixor dX2_pass_113 (wv_iand dX2_pass_114 (xrmb (by omega) hbit) (wp_istore dX2_pass_115 ⟨Nat.le_of_ble_eq_true rfl, Or.inr rfl⟩ rfl (wp_aload_n dX2_pass_117 rfl rfl (wp_iload dX2_pass_118 rfl (wp_aload_n dX2_pass_120 rfl rfl (g2_14 dX2_pass_121 (xsh hX sh_73) (xrr hX r73_0) (wp_iload dX2_pass_124 rfl (wp_iload_n dX2_pass_126 rfl (wp_iload dX2_pass_127 rfl (wp_iload dX2_pass_129 rfl (wp_iconst (v := nI 1) dX2_pass_131 rfl (wv_iadd dX2_pass_132 (nI_add _ _) (wp_iv5 dX2_pass_133 k2_79 q_X4_nextBegin (by decide) (xsh hX sh_74) (by decide) (Nat.le_of_ble_eq_true rfl) gn (wp_iload_n dX2_pass_136 rfl (wp_iload dX2_pass_137 rfl (wv_idiv dX2_pass_139 (nI_n0 (by omega) (by omega)) ((pk_div (by omega) (by omega) (by omega)).trans (congrArg nI hdiv)) (wp_iv4 dX2_pass_140 k2_133 q_X2_add (by decide) (xsh hX sh_73) (by decide) (Nat.le_of_ble_eq_true rfl) gd (wp_iinc dX2_pass_143 rfl (nI_1 _) ⟨Nat.le_of_ble_eq_true rfl, Or.inr rfl⟩ rfl (wp_goto dX2_pass_146 rfl nx))))))))))))))))))))))))
theorem c_pass {c : xPx} {ex m s k W nw : Nat} {M0 : Nat → Bool} {wt0 sh0 : Nat → Nat} (d : Nat) (ho : xzo c) (ha : xzal c = true) (h8 : xgH (xzg c) ≤ 8) (hex : ex ≤ 1000) (hnw : nw < 2 ^ 30) (hg : xgd c m s k) (hW : W < 2 ^ 30) (hdW : c.2.2.2.1.length ^ (8 - k) ∣ W) {S : xS} (hX : XC S) (hD : xRD S c ex) (kn : S.2.1 73 3 = nI nw) (hS : xSh S nw M0 wt0 sh0) (hG : xSg c M0 wt0) : ∃ S', xcall false (d + 4) j_X2_pass [.ref 73, .int (nI m), .int (nI s), .int (nI W)] S none S' ∧ xFl xFP S S' ∧ ∃ M' wt' sh', xSh S' nw M' wt' sh' ∧ xSg c M' wt' ∧ xpsR c ex m s k W M0 wt0 sh0 M' wt' sh' := by
  have hgg := ho.g
  have g24 := hgg.H
  have hN := ho.2.2.1
  have hk := hg.k
  have hP12 : xgP (xzg c) ≤ 12 := hgg.2.1
  have h24 := x24 g24.2.1 hg.1
  have gi := c_isOver (d + 2) hgg hg.1 hX hD.1
  cases hov : xovr (xzg c) m with
  | true =>
    rw [hov] at gi
    have go := c_owners (m := m) (d + 3) hgg (by omega) hX hD.1
    have hpm := xpm_lt hg.1
    have p12 : 2 ^ xgP (xzg c) ≤ 2 ^ 12 := Nat.pow_le_pow_right (by decide) hP12
    obtain ⟨S1, g1, f1, s1⟩ := c_giveTo (b := xpm (xzg c) m) (W := W) (d + 3) (by omega) hX hS
    refine ⟨S1, ?_, f1.mono (fun i q h => by unfold xFP; omega), M0, wt0, _, s1, hG, xpsR.over hg hov⟩
    refine xcall_intro (ls := [.ref 73, .int (nI m), .int (nI s), .int (nI W), .float 0, .float 0, .float 0, .float 0, .float 0]) q_X2_pass (by decide) rfl (Nat.le_of_ble_eq_true rfl) rfl ?_
    refine wp_aload_n dX2_pass_0 rfl rfl (g2_14 dX2_pass_1 (xsh hX sh_73) (xrr hX r73_0) (wp_iload_n dX2_pass_4 rfl (wp_iv2 dX2_pass_5 k2_50 q_X4_isOver (by decide) (xsh hX sh_74) (by decide) (Nat.le_of_ble_eq_true rfl) gi ?_)))
    refine wb_if_eq dX2_pass_8 rfl (fun c8 => absurd c8 (by decide)) (fun c8 => ?_)
    exact wp_aload_n dX2_pass_11 rfl rfl (wp_aload_n dX2_pass_12 rfl rfl (g2_14 dX2_pass_13 (xsh hX sh_73) (xrr hX r73_0) (wp_iload_n dX2_pass_16 rfl (wp_iv2 dX2_pass_17 k2_94 q_X4_owners (by decide) (xsh hX sh_74) (by decide) (Nat.le_of_ble_eq_true rfl) go (wp_iload_n dX2_pass_20 rfl (wp_iv3 dX2_pass_21 k2_140 q_X2_giveTo (by decide) (xsh hX sh_73) (by decide) (Nat.le_of_ble_eq_true rfl) g1 (wp_return dX2_pass_24 rfl ⟨rfl, rfl⟩)))))))
  | false =>
    rw [hov] at gi
    have hw1 : 1 ≤ xzw c k ∧ xzw c k ≤ 5 := by unfold xzw; split <;> omega
    have gb := c_hitsBefore (d + 2) ho h8 hg hX hD
    obtain ⟨S1, gr, f1, h80, h82⟩ := c_reckonZ (ex := ex) (m := m) (s := s) (k := k) (d + 0) ho ha hex hg.1 hg.2.1 hg.2.2.1 (by omega) hX hD
    have X1 := f1.XC hX
    obtain ⟨v, hv, hdv⟩ : ∃ v, v * xzw c k = W ∧ c.2.2.2.1.length ^ (8 - (k + 1)) ∣ v := by
      obtain ⟨q, hq⟩ := hdW
      have e8 : 8 - k = (8 - (k + 1)) + 1 := by omega
      unfold xzw
      cases hask : xzA c k with
      | true =>
        refine ⟨c.2.2.2.1.length ^ (8 - (k + 1)) * q, ?_, Nat.dvd_mul_right _ _⟩
        rw [if_pos rfl, hq, e8, Nat.pow_succ]
        generalize c.2.2.2.1.length ^ (8 - (k + 1)) = A
        rw [Nat.mul_assoc, Nat.mul_comm q, ← Nat.mul_assoc]
      | false =>
        refine ⟨W, by rw [if_neg Bool.false_ne_true, Nat.mul_one], ?_⟩
        rw [hq, e8, Nat.pow_succ, Nat.mul_assoc]
        exact Nat.dvd_mul_right _ _
    have lp := (ps_loop (d := d) (sh0 := sh0) ho ha h8 hex hnw hg hov hW hv hdv (xzw c k) 0 S1 M0 wt0 sh0 (.float 0) (.float 0) (Nat.zero_add _) X1 (hD.fr f1 (fun i q h => by omega) ho) (f1.i kn (by omega)) (hS.fr f1 (fun i q h => by omega)) hG h82 xpsI.z).mono (Q' := (fun r S' => r = none ∧ xFl xFP S S' ∧ ∃ M' wt' sh', xSh S' nw M' wt' sh' ∧ xSg c M' wt' ∧ xpsR c ex m s k W M0 wt0 sh0 M' wt' sh')) (fun r S' z => ⟨z.1, (f1.mono (fun i q h => by unfold xFP; omega)).tt z.2.1, z.2.2⟩)
    obtain ⟨r, S', g1, rfl, z⟩ := xcall_some (al := false) (d := d + 4) (ls := [.ref 73, .int (nI m), .int (nI s), .int (nI W), .float 0, .float 0, .float 0, .float 0, .float 0]) (S := S) (as := [.ref 73, .int (nI m), .int (nI s), .int (nI W)]) q_X2_pass (by decide) rfl (Nat.le_of_ble_eq_true rfl) rfl (P := (fun r S' => r = none ∧ xFl xFP S S' ∧ ∃ M' wt' sh', xSh S' nw M' wt' sh' ∧ xSg c M' wt' ∧ xpsR c ex m s k W M0 wt0 sh0 M' wt' sh')) (by
        refine wp_aload_n dX2_pass_0 rfl rfl (g2_14 dX2_pass_1 (xsh hX sh_73) (xrr hX r73_0) (wp_iload_n dX2_pass_4 rfl (wp_iv2 dX2_pass_5 k2_50 q_X4_isOver (by decide) (xsh hX sh_74) (by decide) (Nat.le_of_ble_eq_true rfl) gi ?_)))
        refine wb_if_eq dX2_pass_8 rfl (fun c8 => ?_) (fun c8 => absurd c8 (by decide))
        refine wp_aload_n dX2_pass_25 rfl rfl (wp_iload_n dX2_pass_26 rfl (wp_iv2 dX2_pass_27 k2_144 q_X2_hitsBefore (by decide) (xsh hX sh_73) (by decide) (Nat.le_of_ble_eq_true rfl) gb (wp_istore dX2_pass_30 ⟨Nat.le_of_ble_eq_true rfl, Or.inr rfl⟩ rfl (wp_aload_n dX2_pass_32 rfl rfl (g2_14 dX2_pass_33 (xsh hX sh_73) (xrr hX r73_0) (wp_iload_n dX2_pass_36 rfl (wp_iload_n dX2_pass_37 rfl (wp_iload dX2_pass_38 rfl (wp_iv4 dX2_pass_40 k2_54 q_X4_reckon (by decide) (xsh hX sh_74) (by decide) (Nat.le_of_ble_eq_true rfl) gr (wp_istore dX2_pass_43 ⟨Nat.le_of_ble_eq_true rfl, Or.inr rfl⟩ rfl (wp_iload dX2_pass_45 rfl (wp_iconst (v := nI 1) dX2_pass_47 rfl ?_))))))))))))
        refine wn_icmp_ge dX2_pass_48 rfl (by omega) (by omega) (fun c48 => ?_) (fun c48 => absurd c48 (by omega))
        exact wp_iconst (v := nI 0) dX2_pass_52 rfl (wp_istore dX2_pass_53 ⟨Nat.le_of_ble_eq_true rfl, Or.inr rfl⟩ rfl lp))
    exact ⟨S', g1, z⟩
