/-! shares of the class: reckonShares -/
def xdnk (m b y : Nat) : Bool := decide (m < y / 8 ∨ (y / 8 = m ∧ y % 8 < b))
theorem xsdn_0 {dn : Nat → Bool} {f : Nat → Nat} (h : ∀ y, y < 2048 → dn y = false → f y = 0) : xsdn dn f = 0 := by
  have e : ∀ n, n ≤ 2048 → xsum (fun y => if dn y = true then 0 else f y) n = 0 := by
    intro n
    induction n with
    | zero => intro _; rfl
    | succ n ih =>
      intro hn
      rw [xsum, ih (by omega)]
      cases e : dn n with
      | true => rw [if_pos rfl]
      | false => rw [if_neg Bool.false_ne_true, h n (by omega) e]
  exact e 2048 (Nat.le_refl _)
theorem xUs_f {c : xPx} {ex p : Nat} (ho : xzo c) (hp : p < xgP (xzg c)) : xUs c ex p (2 ^ xgH (xzg c) - 1) 0 0 = xwys c ex p := by
  unfold xUs xwys
  rw [xpm_fl, Nat.testBit_two_pow_sub_one, decide_eq_true hp, if_pos rfl, Nat.sub_zero]
/-- the reckoning of shares that is on -/
def xrsh (c : xPx) (ex m b : Nat) (M : Nat → Bool) (wt sh : Nat → Nat) : Prop := xSg c M wt ∧ ∀ p, p < xgP (xzg c) → sh p * c.2.2.2.1.length ^ xgH (xzg c) + xsdn (xdnk m b) (fun y => wt y * xku c ex p y) = c.2.2.2.1.length ^ 8 * xwys c ex p ∧ sh p + xsdn (xdnk m b) wt ≤ c.2.2.2.1.length ^ 8
theorem xSg.s {c : xPx} {M : Nat → Bool} {wt : Nat → Nat} (h : xSg c M wt) (h8 : xgH (xzg c) ≤ 8) {x : Nat} (hx : M x = true) : x % 8 < xgH (xzg c) ∧ 0 < x / 8 := by
  obtain ⟨m, s, k, e, g, _⟩ := h x hx
  obtain ⟨_, p1, _⟩ := g.key h8
  have := g.2.2.1
  have := g.2.1
  omega
theorem xrsh.skip {c : xPx} {ex m b : Nat} {M : Nat → Bool} {wt sh : Nat → Nat} (hk : m * 8 + b < 2048) (hb : b < 8) (hz : wt (m * 8 + b) = 0) (h : xrsh c ex m b M wt sh) : xrsh c ex m (b + 1) M wt sh := by
  have d0 : xdnk m b (m * 8 + b) = false := decide_eq_false (by omega)
  have d1 : xdnk m (b + 1) (m * 8 + b) = true := decide_eq_true (by omega)
  have ds : ∀ y, y ≠ m * 8 + b → xdnk m (b + 1) y = xdnk m b y := fun y hy => by
    unfold xdnk
    rcases Decidable.em (m < y / 8 ∨ (y / 8 = m ∧ y % 8 < b)) with w | w
    · rw [decide_eq_true w, decide_eq_true (by omega)]
    · rw [decide_eq_false w, decide_eq_false (by omega)]
  refine ⟨h.1, fun p hp => ?_⟩
  obtain ⟨e1, e2⟩ := h.2 p hp
  have q1 := xsdn_rm (f := fun y => wt y * xku c ex p y) hk d0 d1 ds
  have q2 := xsdn_rm (f := wt) hk d0 d1 ds
  have q3 : wt (m * 8 + b) * xku c ex p (m * 8 + b) = 0 := by rw [hz, Nat.zero_mul]
  constructor
  · have q1' : xsdn (xdnk m b) (fun y => wt y * xku c ex p y) = xsdn (xdnk m (b + 1)) (fun y => wt y * xku c ex p y) + wt (m * 8 + b) * xku c ex p (m * 8 + b) := q1
    omega
  · omega
theorem xrsh.pass {c : xPx} {ex m b k : Nat} {M M' : Nat → Bool} {wt sh wt' sh' : Nat → Nat} (h8 : xgH (xzg c) ≤ 8) (hg : xgd c m b k) (h : xrsh c ex m b M wt sh) (hG : xSg c M' wt') (hR : xpsR c ex m b k (wt (m * 8 + b)) M wt sh M' wt' sh') : xrsh c ex m (b + 1) M' wt' sh' := by
  obtain ⟨_, hb, hk⟩ := hg.key h8
  have d0 : xdnk m b (m * 8 + b) = false := decide_eq_false (by omega)
  have d1 : xdnk m (b + 1) (m * 8 + b) = true := decide_eq_true (by omega)
  have ds : ∀ y, y ≠ m * 8 + b → xdnk m (b + 1) y = xdnk m b y := fun y hy => by
    unfold xdnk
    rcases Decidable.em (m < y / 8 ∨ (y / 8 = m ∧ y % 8 < b)) with w | w
    · rw [decide_eq_true w, decide_eq_true (by omega)]
    · rw [decide_eq_false w, decide_eq_false (by omega)]
  have ok : xok m (xdnk m (b + 1)) := fun y hy => decide_eq_false (by omega)
  refine ⟨hG, fun p hp => ?_⟩
  obtain ⟨e1, e2⟩ := h.2 p hp
  obtain ⟨r1, r2⟩ := hR.2 p _ hp ok
  have q1 : xsdn (xdnk m b) (fun y => wt y * xku c ex p y) = xsdn (xdnk m (b + 1)) (fun y => wt y * xku c ex p y) + wt (m * 8 + b) * xku c ex p (m * 8 + b) := xsdn_rm (f := fun y => wt y * xku c ex p y) hk d0 d1 ds
  have q2 := xsdn_rm (f := wt) hk d0 d1 ds
  rw [xku_at h8 hg] at q1
  constructor <;> omega
theorem xrsh.le {c : xPx} {ex m b : Nat} {M : Nat → Bool} {wt sh : Nat → Nat} (hk : m * 8 + b < 2048) (hb : b < 8) (hP : 0 < xgP (xzg c)) (h : xrsh c ex m b M wt sh) : wt (m * 8 + b) ≤ c.2.2.2.1.length ^ 8 := by
  have d0 : xdnk m b (m * 8 + b) = false := decide_eq_false (by omega)
  have d1 : xdnk m (b + 1) (m * 8 + b) = true := decide_eq_true (by omega)
  have ds : ∀ y, y ≠ m * 8 + b → xdnk m (b + 1) y = xdnk m b y := fun y hy => by
    unfold xdnk
    rcases Decidable.em (m < y / 8 ∨ (y / 8 = m ∧ y % 8 < b)) with w | w
    · rw [decide_eq_true w, decide_eq_true (by omega)]
    · rw [decide_eq_false w, decide_eq_false (by omega)]
  have q2 := xsdn_rm (f := wt) hk d0 d1 ds
  have := (h.2 0 hP).2
  omega
theorem xrsh.row {c : xPx} {ex m : Nat} {M : Nat → Bool} {wt sh : Nat → Nat} (h8 : xgH (xzg c) ≤ 8) (hM : ∀ x, x < 2048 → M x = false → wt x = 0) (h : xrsh c ex (m + 1) (xgH (xzg c)) M wt sh) : xrsh c ex m 0 M wt sh := by
  have key : ∀ y, y < 2048 → ∀ f : Nat → Nat, (wt y = 0 → f y = 0) → (if xdnk (m + 1) (xgH (xzg c)) y = true then 0 else f y) = (if xdnk m 0 y = true then 0 else f y) := by
    intro y hy f hf
    rcases Decidable.em (m + 1 < y / 8 ∨ (y / 8 = m + 1 ∧ y % 8 < xgH (xzg c))) with w | w
    · rw [show xdnk (m + 1) (xgH (xzg c)) y = true from decide_eq_true w, show xdnk m 0 y = true from decide_eq_true (by omega)]
    · rw [show xdnk (m + 1) (xgH (xzg c)) y = false from decide_eq_false w]
      rcases Decidable.em (m < y / 8 ∨ (y / 8 = m ∧ y % 8 < 0)) with w2 | w2
      · rw [show xdnk m 0 y = true from decide_eq_true w2, if_neg Bool.false_ne_true, if_pos rfl]
        cases e : M y with
        | false => exact hf (hM y hy e)
        | true => have := h.1.s h8 e; omega
      · rw [show xdnk m 0 y = false from decide_eq_false w2]
  refine ⟨h.1, fun p hp => ?_⟩
  obtain ⟨e1, e2⟩ := h.2 p hp
  rw [xsdn_cg (dn' := xdnk m 0) (g := fun y => wt y * xku c ex p y) (fun y hy => key y hy _ (fun z => by show wt y * _ = 0; rw [z, Nat.zero_mul]))] at e1
  rw [xsdn_cg (dn' := xdnk m 0) (g := wt) (fun y hy => key y hy _ id)] at e2
  exact ⟨e1, e2⟩
theorem xrsh.end_ {c : xPx} {ex : Nat} {M : Nat → Bool} {wt sh : Nat → Nat} (h8 : xgH (xzg c) ≤ 8) (hM : ∀ x, x < 2048 → M x = false → wt x = 0) (h : xrsh c ex 0 0 M wt sh) (p : Nat) (hp : p < xgP (xzg c)) : sh p * c.2.2.2.1.length ^ xgH (xzg c) = c.2.2.2.1.length ^ 8 * xwys c ex p ∧ sh p ≤ c.2.2.2.1.length ^ 8 := by
  obtain ⟨e1, e2⟩ := h.2 p hp
  have z : ∀ y, y < 2048 → xdnk 0 0 y = false → wt y = 0 := fun y hy hd => by
    have hd' := of_decide_eq_false hd
    cases e : M y with
    | false => exact hM y hy e
    | true => have := h.1.s h8 e; omega
  rw [xsdn_0 (fun y hy hd => by show wt y * _ = 0; rw [z y hy hd, Nat.zero_mul])] at e1
  exact ⟨e1, by omega⟩
theorem xrsh.beg {c : xPx} {ex : Nat} (ho : xzo c) (h8 : xgH (xzg c) ≤ 8) : xrsh c ex (2 ^ xgH (xzg c) - 1) 0 (fun y => false || decide (y = (2 ^ xgH (xzg c) - 1) * 8 + 0)) (fun y => 0 + if y = (2 ^ xgH (xzg c) - 1) * 8 + 0 then c.2.2.2.1.length ^ 8 else 0) (fun _ => 0) := by
  have g0 := xgd_0 ho
  have hk := (g0.key h8).2.2
  have d0 : xdnk (2 ^ xgH (xzg c) - 1) 0 ((2 ^ xgH (xzg c) - 1) * 8 + 0) = false := decide_eq_false (by omega)
  refine ⟨xSg.add (wt := fun _ => 0) (M := fun _ => false) (fun x hx => by cases hx) h8 (fun _ _ _ => rfl) g0 (Nat.dvd_refl _), fun p hp => ?_⟩
  have q1 := xsdn_up (dn := xdnk (2 ^ xgH (xzg c) - 1) 0) (f := fun _ => 0) (u := xku c ex p) (W := c.2.2.2.1.length ^ 8) hk d0
  have q2 := xsdn_up1 (dn := xdnk (2 ^ xgH (xzg c) - 1) 0) (f := fun _ => 0) (W := c.2.2.2.1.length ^ 8) hk d0
  rw [xku_at h8 g0, xsdn_0 (f := fun y => 0 * xku c ex p y) (fun y _ _ => Nat.zero_mul _), xUs_f ho hp, Nat.pow_zero, Nat.mul_one] at q1
  rw [xsdn_0 (f := fun _ => 0) (fun y _ _ => rfl)] at q2
  refine ⟨?_, ?_⟩
  · show 0 * _ + xsdn _ (fun y => (0 + if y = (2 ^ xgH (xzg c) - 1) * 8 + 0 then c.2.2.2.1.length ^ 8 else 0) * xku c ex p y) = _
    rw [q1]; omega
  · show 0 + xsdn _ (fun y => 0 + if y = (2 ^ xgH (xzg c) - 1) * 8 + 0 then c.2.2.2.1.length ^ 8 else 0) ≤ _
    rw [q2]; omega
theorem rs_in {c : xPx} {ex m nw d : Nat} (ho : xzo c) (ha : xzal c = true) (h8 : xgH (xzg c) ≤ 8) (hex : ex ≤ 1000) (hnw : nw < 2 ^ 30) (hm : m < 2 ^ xgH (xzg c)) {Q : Option Value → xS → Prop} : ∀ (j b : Nat) (S : xS) (M : Nat → Bool) (wt sh : Nat → Nat) (y3 : Value), b + j = xgH (xzg c) → XC S → xRD S c ex → S.2.1 73 3 = nI nw → xSh S nw M wt sh → xrsh c ex m b M wt sh → (∀ S' M' wt' sh' y2 y3, xFl xFP S S' → xSh S' nw M' wt' sh' → xrsh c ex m (xgH (xzg c)) M' wt' sh' → Wp false (d + 5) 2 cX2_reckonShares none false 103 [.ref 73, .int (nI m), .int y2, y3] [] S' Q) → Wp false (d + 5) 2 cX2_reckonShares none false 48 [.ref 73, .int (nI m), .int (nI b), y3] [] S Q := by
  have g24 := ho.g.H
  have hm8 : m < 256 := Nat.lt_of_lt_of_le hm (Nat.pow_le_pow_right (by decide) h8)
  have hP1 : 0 < xgP (xzg c) := ho.g.1
  have n8 : c.2.2.2.1.length ^ 8 ≤ 390625 := xpow_le ho.2.2.1.2.1 ho.2.2.1.1 (Nat.le_refl 8)
  intro j
  induction j with
  | zero =>
    intro b S M wt sh y3 hb hX hD kn hS hr K
    have hbb : b = xgH (xzg c) := by omega
    subst hbb
    have k12 := hD.1.2.2.1
    have nx := K S M wt sh (nI (xgH (xzg c))) y3 (xFl.rf S) hS hr
    refine wp_iload_n dX2_reckonShares_48 rfl (wp_aload_n dX2_reckonShares_49 rfl rfl (g2_14 dX2_reckonShares_50 (xsh hX sh_73) (xrr hX r73_0) (gv2_28 dX2_reckonShares_53 (xsh hX sh_74) k12 ?_)))
    refine wn_icmp_ge dX2_reckonShares_56 rfl (by omega) (by omega) (fun c56 => ?_) (fun c56 => absurd c56 (by omega))
    exact nx
  | succ j ih =>
    intro b S M wt sh y3 hb hX hD kn hS hr K
    have k12 := hD.1.2.2.1
    have hkey : m * 8 + b < 2048 := by omega
    have gk := c_key (m := m) (s := b) (d + 4) (S := S)
    have gy := c_isKey (x := m * 8 + b) (d + 4) hkey (S := S)
    cases e : M (m * 8 + b) with
    | false =>
      obtain ⟨k0, v, k1, k2⟩ := (hS.1 _ hkey).2 e
      have nx := ih (b + 1) S M wt sh (.int (nI (m * 8 + b))) (by omega) hX hD kn hS (hr.skip hkey (by omega) k0) K
      refine wp_iload_n dX2_reckonShares_48 rfl (wp_aload_n dX2_reckonShares_49 rfl rfl (g2_14 dX2_reckonShares_50 (xsh hX sh_73) (xrr hX r73_0) (gv2_28 dX2_reckonShares_53 (xsh hX sh_74) k12 ?_)))
      refine wn_icmp_ge dX2_reckonShares_56 rfl (by omega) (by omega) (fun c56 => absurd c56 (by omega)) (fun c56 => ?_)
      refine wp_iload_n dX2_reckonShares_59 rfl (wp_iload_n dX2_reckonShares_60 rfl (wp_is2 dX2_reckonShares_61 k2_100 q_X2_key (by decide) (Nat.le_of_ble_eq_true rfl) gk (wp_istore_n dX2_reckonShares_64 ⟨Nat.le_of_ble_eq_true rfl, Or.inr rfl⟩ rfl (wp_iload_n dX2_reckonShares_65 rfl (wp_is1 dX2_reckonShares_66 k2_103 q_X2_isKey (by decide) (Nat.le_of_ble_eq_true rfl) gy ?_)))))
      refine wb_if_eq dX2_reckonShares_69 rfl (fun c69 => absurd c69 (by decide)) (fun c69 => ?_)
      refine wp_aload_n dX2_reckonShares_72 rfl rfl (g2_22 dX2_reckonShares_73 (xsh hX sh_73) (xrr hX r73_2) (wp_iload_n dX2_reckonShares_76 rfl (wn_iaload dX2_reckonShares_77 (xsh hX sh_131) rfl (by omega) (by decide) k2 (wp_aload_n dX2_reckonShares_78 rfl rfl (gv2_91 dX2_reckonShares_79 (xsh hX sh_73) kn ?_)))))
      refine wn_icmp_ne dX2_reckonShares_82 rfl (by omega) (by omega) (fun c82 => ?_) (fun c82 => absurd c82 (by omega))
      exact wp_iinc dX2_reckonShares_97 rfl (nI_1 _) ⟨Nat.le_of_ble_eq_true rfl, Or.inr rfl⟩ rfl (wp_goto dX2_reckonShares_100 rfl nx)
    | true =>
      obtain ⟨k1, k2⟩ := (hS.1 _ hkey).1 e
      obtain ⟨m', s', k, e1, hg, hdv⟩ := hr.1 _ e
      obtain ⟨_, p1, _⟩ := hg.key h8
      have q1 : m' = m := by omega
      have q2 : s' = b := by omega
      subst q1; subst q2
      have hle := hr.le hkey (by omega) hP1
      obtain ⟨S1, g1, f1, M', wt', sh', hS', hG', hR⟩ := c_pass (d + 0) ho ha h8 hex hnw hg (show wt (m' * 8 + s') < 2 ^ 30 by omega) hdv hX hD kn hS hr.1
      have X1 := f1.XC hX
      have nx := ih (s' + 1) S1 M' wt' sh' (.int (nI (m' * 8 + s'))) (by omega) X1 (hD.fr f1 (fun i q h => by unfold xFP; omega) ho) (f1.i kn (by unfold xFP; omega)) hS' (hr.pass h8 hg hG' hR) (fun S2 M2 wt2 sh2 y2 y3 f2 a1 a2 => K S2 M2 wt2 sh2 y2 y3 (f1.tt f2) a1 a2)
      refine wp_iload_n dX2_reckonShares_48 rfl (wp_aload_n dX2_reckonShares_49 rfl rfl (g2_14 dX2_reckonShares_50 (xsh hX sh_73) (xrr hX r73_0) (gv2_28 dX2_reckonShares_53 (xsh hX sh_74) k12 ?_)))
      refine wn_icmp_ge dX2_reckonShares_56 rfl (by omega) (by omega) (fun c56 => absurd c56 (by omega)) (fun c56 => ?_)
      refine wp_iload_n dX2_reckonShares_59 rfl (wp_iload_n dX2_reckonShares_60 rfl (wp_is2 dX2_reckonShares_61 k2_100 q_X2_key (by decide) (Nat.le_of_ble_eq_true rfl) gk (wp_istore_n dX2_reckonShares_64 ⟨Nat.le_of_ble_eq_true rfl, Or.inr rfl⟩ rfl (wp_iload_n dX2_reckonShares_65 rfl (wp_is1 dX2_reckonShares_66 k2_103 q_X2_isKey (by decide) (Nat.le_of_ble_eq_true rfl) gy ?_)))))
      refine wb_if_eq dX2_reckonShares_69 rfl (fun c69 => absurd c69 (by decide)) (fun c69 => ?_)
      refine wp_aload_n dX2_reckonShares_72 rfl rfl (g2_22 dX2_reckonShares_73 (xsh hX sh_73) (xrr hX r73_2) (wp_iload_n dX2_reckonShares_76 rfl (wn_iaload dX2_reckonShares_77 (xsh hX sh_131) rfl (by omega) (by decide) k1 (wp_aload_n dX2_reckonShares_78 rfl rfl (gv2_91 dX2_reckonShares_79 (xsh hX sh_73) kn ?_)))))
      refine wn_icmp_ne dX2_reckonShares_82 rfl (by omega) (by omega) (fun c82 => absurd c82 (by omega)) (fun c82 => ?_)
      exact wp_aload_n dX2_reckonShares_85 rfl rfl (wp_iload_n dX2_reckonShares_86 rfl (wp_iload_n dX2_reckonShares_87 rfl (wp_aload_n dX2_reckonShares_88 rfl rfl (g2_18 dX2_reckonShares_89 (xsh hX sh_73) (xrr hX r73_1) (wp_iload_n dX2_reckonShares_92 rfl (wn_iaload dX2_reckonShares_93 (xsh hX sh_130) rfl (by omega) (by decide) k2 (wp_iv4 dX2_reckonShares_94 k2_137 q_X2_pass (by decide) (xsh hX sh_73) (by decide) (Nat.le_of_ble_eq_true rfl) g1 (wp_iinc dX2_reckonShares_97 rfl (nI_1 _) ⟨Nat.le_of_ble_eq_true rfl, Or.inr rfl⟩ rfl (wp_goto dX2_reckonShares_100 rfl nx)))))))))
theorem rs_out {c : xPx} {ex nw d : Nat} (ho : xzo c) (ha : xzal c = true) (h8 : xgH (xzg c) ≤ 8) (hex : ex ≤ 1000) (hnw : nw < 2 ^ 30) : ∀ (m : Nat) (S : xS) (M : Nat → Bool) (wt sh : Nat → Nat) (y2 y3 : Value), m < 2 ^ xgH (xzg c) → XC S → xRD S c ex → S.2.1 73 3 = nI nw → xSh S nw M wt sh → xrsh c ex m 0 M wt sh → Wp false (d + 5) 2 cX2_reckonShares none false 42 [.ref 73, .int (nI m), y2, y3] [] S (fun r S' => r = none ∧ xFl xFP S S' ∧ ∃ M' wt' sh', xSh S' nw M' wt' sh' ∧ xrsh c ex 0 0 M' wt' sh') := by
  intro m
  induction m with
  | zero =>
    intro S M wt sh y2 y3 hm hX hD kn hS hr
    have fin : xFl xFP S S ∧ ∃ M' wt' sh', xSh S nw M' wt' sh' ∧ xrsh c ex 0 0 M' wt' sh' := ⟨xFl.rf S, M, wt, sh, hS, hr⟩
    refine wp_iload_n dX2_reckonShares_42 rfl ?_
    refine wn_if_le dX2_reckonShares_43 rfl (by omega) (fun c43 => ?_) (fun c43 => absurd c43 (by omega))
    exact wp_return dX2_reckonShares_109 rfl ⟨rfl, fin⟩
  | succ m ih =>
    intro S M wt sh y2 y3 hm hX hD kn hS hr
    have hm8 : m + 1 < 256 := Nat.lt_of_lt_of_le hm (Nat.pow_le_pow_right (by decide) h8)
    have em : nI (m + 1) + (-1) = nI m := pk_m1 m
    have lp := rs_in (d := d) ho ha h8 hex hnw hm (Q := (fun r S' => r = none ∧ xFl xFP S S' ∧ ∃ M' wt' sh', xSh S' nw M' wt' sh' ∧ xrsh c ex 0 0 M' wt' sh')) (xgH (xzg c)) 0 S M wt sh y3 (Nat.zero_add _) hX hD kn hS hr (fun S1 M1 wt1 sh1 y2 y3 f1 h1 r1 => by
      have X1 := f1.XC hX
      have nx := (ih S1 M1 wt1 sh1 (.int y2) y3 (by omega) X1 (hD.fr f1 (fun i q h => by unfold xFP; omega) ho) (f1.i kn (by unfold xFP; omega)) h1 (r1.row h8 (fun x hx e => ((h1.1 x hx).2 e).1))).mono (Q' := (fun r S' => r = none ∧ xFl xFP S S' ∧ ∃ M' wt' sh', xSh S' nw M' wt' sh' ∧ xrsh c ex 0 0 M' wt' sh')) (fun r S' z => ⟨z.1, f1.tt z.2.1, z.2.2⟩)
      exact wp_iinc dX2_reckonShares_103 rfl em ⟨Nat.le_of_ble_eq_true rfl, Or.inr rfl⟩ rfl (wp_goto dX2_reckonShares_106 rfl nx))
    refine wp_iload_n dX2_reckonShares_42 rfl ?_
    refine wn_if_le dX2_reckonShares_43 rfl (by omega) (fun c43 => absurd c43 (by omega)) (fun c43 => ?_)
    exact wp_iconst (v := nI 0) dX2_reckonShares_46 rfl (wp_istore_n dX2_reckonShares_47 ⟨Nat.le_of_ble_eq_true rfl, Or.inr rfl⟩ rfl lp)
theorem c_reckonShares {c : xPx} {ex n : Nat} (d : Nat) (ho : xzo c) (ha : xzal c = true) (h8 : xgH (xzg c) ≤ 8) (hex : ex ≤ 1000) (hn : n < 2 ^ 29) {S : xS} (hX : XC S) (hD : xRD S c ex) (hN : xNw S n) : ∃ (S' : xS) (sh : Nat → Nat), xcall false (d + 5) j_X2_reckonShares [.ref 73] S none S' ∧ xFl (fun i q => (i = 73 ∧ q = 3) ∨ xFP i q) S S' ∧ xNw S' (n + 1) ∧ (∀ p, p < 8 → S'.2.1 132 p = nI (sh p)) ∧ ∀ p, p < xgP (xzg c) → sh p * c.2.2.2.1.length ^ xgH (xzg c) = c.2.2.2.1.length ^ 8 * xwys c ex p ∧ sh p ≤ c.2.2.2.1.length ^ 8 := by
  have g0 := xgd_0 ho
  have hk := (g0.key h8).2.2
  obtain ⟨S1, gf, f1, h132⟩ := c_fill (x := nI 0) (d + 4) (by decide) (xsh hX sh_132)
  have X1 := f1.XC hX
  have F2 : xFl (fun i q => i = 73 ∧ q = 3) S1 (xSI S1 73 3 (nI (n + 1))) := (xFl.rf S1).SI ⟨rfl, rfl⟩
  have X2 := F2.XC X1
  have D2 := (hD.fr f1 (fun i q h => by omega) ho).fr F2 (fun i q h => by omega) ho
  have kn1 := f1.i hN.1 (by omega)
  have kn2 : (xSI S1 73 3 (nI (n + 1))).2.1 73 3 = nI (n + 1) := xI_same _ _ _ _
  have hS2 : xSh (xSI S1 73 3 (nI (n + 1))) (n + 1) (fun _ => false) (fun _ => 0) (fun _ => 0) := ⟨fun x hx => ⟨fun h => (by cases h), fun _ => ⟨rfl, by
    obtain ⟨v, h1, h2⟩ := hN.2 x hx
    exact ⟨v, by omega, F2.i (f1.i h2 (by omega)) (by omega)⟩⟩⟩, fun p hp => F2.i (h132 p hp) (by omega)⟩
  have ga := c_allHands (d + 4) ho.g X2 D2.1
  have gw := c_wholeShare (d + 4) X2 D2.2.2.1.1
  have gd := c_add (m := 2 ^ xgH (xzg c) - 1) (s := 0) (W := c.2.2.2.1.length ^ 8) (d + 3) hk (show n + 1 < 2 ^ 30 by omega) X2 kn2 hS2
  have s3 := hS2.add (z := (2 ^ xgH (xzg c) - 1) * 8 + 0) (W := c.2.2.2.1.length ^ 8)
  have F3 : xFl (fun i q => i = 130 ∨ i = 131) (xSI S1 73 3 (nI (n + 1))) (xSI (xSI (xSI S1 73 3 (nI (n + 1))) 130 ((2 ^ xgH (xzg c) - 1) * 8 + 0) (nI (c.2.2.2.1.length ^ 8 + 0))) 131 ((2 ^ xgH (xzg c) - 1) * 8 + 0) (nI (n + 1))) := ((xFl.rf _).SI (Or.inl rfl)).SI (Or.inr rfl)
  have X3 := F3.XC X2
  have D3 := D2.fr F3 (fun i q h => by omega) ho
  have ga3 := c_allHands (d + 4) ho.g X3 D3.1
  have lp := rs_out (d := d) ho ha h8 hex (show n + 1 < 2 ^ 30 by omega) (2 ^ xgH (xzg c) - 1) _ _ _ _ (.float 0) (.float 0) g0.1 X3 D3 (F3.i kn2 (by omega)) s3 (xrsh.beg ho h8)
  obtain ⟨r, S', g1, rfl, z1, M', wt', sh', hS', hr'⟩ := xcall_some (al := false) (d := d + 5) (ls := [.ref 73, .float 0, .float 0, .float 0]) (S := S) (as := [.ref 73]) q_X2_reckonShares (by decide) rfl (Nat.le_of_ble_eq_true rfl) rfl (P := (fun r S' => r = none ∧ xFl xFP (xSI (xSI (xSI S1 73 3 (nI (n + 1))) 130 ((2 ^ xgH (xzg c) - 1) * 8 + 0) (nI (c.2.2.2.1.length ^ 8 + 0))) 131 ((2 ^ xgH (xzg c) - 1) * 8 + 0) (nI (n + 1))) S' ∧ ∃ M' wt' sh', xSh S' (n + 1) M' wt' sh' ∧ xrsh c ex 0 0 M' wt' sh')) (by
      exact wp_aload_n dX2_reckonShares_0 rfl rfl (g2_25 dX2_reckonShares_1 (xsh hX sh_73) (xrr hX r73_4) (wp_iconst (v := nI 0) dX2_reckonShares_4 rfl (wp_is2 dX2_reckonShares_5 k2_124 q_J7_fill_53178 (by decide) (Nat.le_of_ble_eq_true rfl) gf (wp_aload_n dX2_reckonShares_8 rfl rfl (wp_dup dX2_reckonShares_9 rfl (gv2_91 dX2_reckonShares_10 (xsh X1 sh_73) kn1 (wp_iconst (v := nI 1) dX2_reckonShares_13 rfl (wv_iadd dX2_reckonShares_14 (nI_add _ _) (p2_91 dX2_reckonShares_15 (xsh X1 sh_73) (wp_aload_n dX2_reckonShares_18 rfl rfl (wp_aload_n dX2_reckonShares_19 rfl rfl (g2_14 dX2_reckonShares_20 (xsh X1 sh_73) (xrr X1 r73_0) (wp_iv1 dX2_reckonShares_23 k2_42 q_X4_allHands (by decide) (xsh X1 sh_74) (by decide) (Nat.le_of_ble_eq_true rfl) ga (wp_iconst (v := nI 0) dX2_reckonShares_26 rfl (wp_aload_n dX2_reckonShares_27 rfl rfl (wp_iv1 dX2_reckonShares_28 k2_130 q_X2_wholeShare (by decide) (xsh X1 sh_73) (by decide) (Nat.le_of_ble_eq_true rfl) gw (wp_iv4 dX2_reckonShares_31 k2_133 q_X2_add (by decide) (xsh X1 sh_73) (by decide) (Nat.le_of_ble_eq_true rfl) gd (wp_aload_n dX2_reckonShares_34 rfl rfl (g2_14 dX2_reckonShares_35 (xsh X3 sh_73) (xrr X3 r73_0) (wp_iv1 dX2_reckonShares_38 k2_42 q_X4_allHands (by decide) (xsh X3 sh_74) (by decide) (Nat.le_of_ble_eq_true rfl) ga3 (wp_istore_n dX2_reckonShares_41 ⟨Nat.le_of_ble_eq_true rfl, Or.inr rfl⟩ rfl lp))))))))))))))))))))))
  have hN' : xNw S' (n + 1) := ⟨z1.i (F3.i kn2 (by omega)) (by unfold xFP; omega), fun x hx => by
    cases e : M' x with
    | true => exact ⟨n + 1, Nat.le_refl _, ((hS'.1 x hx).1 e).1⟩
    | false =>
      obtain ⟨_, v, h1, h2⟩ := (hS'.1 x hx).2 e
      exact ⟨v, by omega, h2⟩⟩
  refine ⟨S', sh', g1, ?_, hN', hS'.2, fun p hp => hr'.end_ h8 (fun x hx e => ((hS'.1 x hx).2 e).1) p hp⟩
  exact (((f1.mono (fun i q h => by unfold xFP; omega)).tt (F2.mono (fun i q h => by omega))).tt (F3.mono (fun i q h => by unfold xFP; omega))).tt (z1.mono (fun i q h => Or.inr h))
