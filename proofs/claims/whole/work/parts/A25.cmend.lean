/-! shares of the class: areSharesEven, mend, commonDivisor, share -/
theorem xfrac {a b c d : Nat} (hb : 0 < b) (hd : 0 < d) (h : a * d = b * c) : a / Nat.gcd a b = c / Nat.gcd c d ∧ b / Nat.gcd a b = d / Nat.gcd c d := by
  have g1 := Nat.gcd_pos_of_pos_right a hb
  have g2 := Nat.gcd_pos_of_pos_right c hd
  have e : Nat.gcd a b * d = Nat.gcd c d * b := by
    rw [← Nat.gcd_mul_right, ← Nat.gcd_mul_right, h, Nat.mul_comm b c, Nat.mul_comm b d]
  obtain ⟨a', ha⟩ := Nat.gcd_dvd_left a b
  obtain ⟨b', hb'⟩ := Nat.gcd_dvd_right a b
  obtain ⟨c', hc⟩ := Nat.gcd_dvd_left c d
  obtain ⟨d', hd'⟩ := Nat.gcd_dvd_right c d
  generalize Nat.gcd a b = g at *
  generalize Nat.gcd c d = k at *
  subst ha; subst hb'; subst hc; subst hd'
  rw [Nat.mul_div_cancel_left _ g1, Nat.mul_div_cancel_left _ g2, Nat.mul_div_cancel_left _ g1, Nat.mul_div_cancel_left _ g2]
  have e2 : d' = b' := by
    have : g * k * d' = g * k * b' := by rw [Nat.mul_assoc, e, ← Nat.mul_assoc, Nat.mul_comm k g]
    exact Nat.eq_of_mul_eq_mul_left (Nat.mul_pos g1 g2) this
  refine ⟨?_, e2.symm⟩
  subst e2
  have hd0 : 0 < d' := by
    rcases Nat.eq_zero_or_pos d' with z | z
    · rw [z, Nat.mul_zero] at hd; exact absurd hd (Nat.lt_irrefl 0)
    · exact z
  have h2 : g * k * d' * a' = g * k * d' * c' := by
    calc g * k * d' * a' = (g * a') * (k * d') := by simp only [Nat.mul_assoc, Nat.mul_comm, Nat.mul_left_comm]
      _ = (g * d') * (k * c') := h
      _ = g * k * d' * c' := by simp only [Nat.mul_assoc, Nat.mul_comm, Nat.mul_left_comm]
  exact Nat.eq_of_mul_eq_mul_left (Nat.mul_pos (Nat.mul_pos g1 g2) hd0) h2
theorem xze_w {c : xPx} (h : xzb c = false) (ex k : Nat) : xze c ex k = xze c 0 k := by
  unfold xze
  rw [if_neg (fun q => by rw [h] at q; exact absurd q.2 (by decide)), if_neg (fun q => by rw [h] at q; exact absurd q.2 (by decide))]
theorem xzh_w {c : xPx} (h : xzb c = false) (ex m s k a : Nat) : xzh c ex m s k a = xzh c 0 m s k a := by
  unfold xzh xzT
  rw [xze_w h]
theorem xn1_w {c : xPx} (h : xzb c = false) (ex m s k a : Nat) : xn1 c ex m s k a = xn1 c 0 m s k a := by unfold xn1; rw [xzh_w h]
theorem xn2_w {c : xPx} (h : xzb c = false) (ex m s k a : Nat) : xn2 c ex m s k a = xn2 c 0 m s k a := by unfold xn2; rw [xn1_w h, xzh_w h]
theorem xen_w {c : xPx} (h : xzb c = false) (ex m s k a : Nat) : xen c ex m s k a = xen c 0 m s k a := by unfold xen; rw [xn1_w h, xzh_w h]
theorem xev_w {c : xPx} (h : xzb c = false) (ex : Nat) (E : Nat → Nat → Nat) (J : Nat → Nat → Nat → (Nat → Nat) → Nat) : ∀ f m s k, xev c ex E J f m s k = xev c 0 E J f m s k
  | 0, _, _, _ => rfl
  | f + 1, m, s, k => by
    rw [xev, xev]
    congr 1
    funext a
    rw [xen_w h, xn1_w h, xn2_w h, xev_w h ex E J f]
theorem xevn_w {c : xPx} (h : xzb c = false) (ex : Nat) : xevn c ex = xevn c 0 := by
  have e : ∀ p, xwys c ex p = xwys c 0 p := fun p => by
    unfold xwys
    rw [show xVw c ex p (2 ^ xgH (xzg c) - 1) 0 0 = xVw c 0 p (2 ^ xgH (xzg c) - 1) 0 0 from xev_w h ex _ _ _ _ _ _]
  unfold xevn
  have e2 : (∀ k, k < xgP (xzg c) → xwys c ex k = xwys c ex 0) ↔ (∀ k, k < xgP (xzg c) → xwys c 0 k = xwys c 0 0) := by
    constructor
    · intro q k hk; rw [← e, ← e]; exact q k hk
    · intro q k hk; rw [e, e]; exact q k hk
  rcases Decidable.em (∀ k, k < xgP (xzg c) → xwys c ex k = xwys c ex 0) with w | w
  · rw [decide_eq_true w, decide_eq_true (e2.mp w)]
  · rw [decide_eq_false w, decide_eq_false (fun q => w (e2.mpr q))]
theorem xmnd_w {p : Nat → Bool} (h : ∀ n, p n = p 0) (h0 : p 0 = false) : ∀ j n, xmnd p j n = -1
  | 0, _ => rfl
  | j + 1, n => by rw [xmnd, h n, h0, if_neg Bool.false_ne_true]; exact xmnd_w h h0 j (n + 1)
theorem ae_loop {P B d : Nat} {sh : Nat → Nat} (hP : P ≤ 8) (hB : ∀ p, p < P → sh p < 2 ^ 30) {S : xS} (hX : XC S) (k10 : S.2.1 74 10 = nI P) (h : ∀ p, p < 8 → S.2.1 132 p = nI (sh p)) : ∀ (j p : Nat), 1 ≤ p → p + j = P → (∀ q, q < p → sh q = sh 0) → Wp false (d + 1) 2 cX2_areSharesEven (some .boolean) false 2 [.ref 73, .int (nI p)] [] S (fun r S' => r = some (.int (xB (decide (∀ q, q < P → sh q = sh 0)))) ∧ S' = S) := by
  intro j
  induction j with
  | zero =>
    intro p h1 hp hq
    have hpp : p = P := by omega
    subst hpp
    rw [decide_eq_true hq]
    refine wp_iload_n dX2_areSharesEven_2 rfl (wp_aload_n dX2_areSharesEven_3 rfl rfl (g2_14 dX2_areSharesEven_4 (xsh hX sh_73) (xrr hX r73_0) (gv2_118 dX2_areSharesEven_7 (xsh hX sh_74) k10 ?_)))
    refine wn_icmp_ge dX2_areSharesEven_10 rfl (by omega) (by omega) (fun c10 => ?_) (fun c10 => absurd c10 (by omega))
    exact wp_iconst (v := nI 1) dX2_areSharesEven_34 rfl (wb_ret dX2_areSharesEven_35 rfl rfl ⟨rfl, rfl⟩)
  | succ j ih =>
    intro p h1 hp hq
    have g1 := c_shareOf (d + 0) (show p < 8 by omega) hX (h p (by omega))
    have g0 := c_shareOf (d + 0) (show 0 < 8 by decide) hX (h 0 (by decide))
    have b1 := hB p (by omega)
    have b0 := hB 0 (by omega)
    rcases Decidable.em (sh p = sh 0) with w | w
    · have nx := ih (p + 1) (by omega) (by omega) (fun q h => by
        rcases Nat.lt_or_ge q p with z | z
        · exact hq q z
        · rw [show q = p by omega]; exact w)
      refine wp_iload_n dX2_areSharesEven_2 rfl (wp_aload_n dX2_areSharesEven_3 rfl rfl (g2_14 dX2_areSharesEven_4 (xsh hX sh_73) (xrr hX r73_0) (gv2_118 dX2_areSharesEven_7 (xsh hX sh_74) k10 ?_)))
      refine wn_icmp_ge dX2_areSharesEven_10 rfl (by omega) (by omega) (fun c10 => absurd c10 (by omega)) (fun c10 => ?_)
      refine wp_aload_n dX2_areSharesEven_13 rfl rfl (wp_iload_n dX2_areSharesEven_14 rfl (wp_iv2 dX2_areSharesEven_15 k2_121 q_X2_shareOf (by decide) (xsh hX sh_73) (by decide) (Nat.le_of_ble_eq_true rfl) g1 (wp_aload_n dX2_areSharesEven_18 rfl rfl (wp_iconst (v := nI 0) dX2_areSharesEven_19 rfl (wp_iv2 dX2_areSharesEven_20 k2_121 q_X2_shareOf (by decide) (xsh hX sh_73) (by decide) (Nat.le_of_ble_eq_true rfl) g0 ?_)))))
      refine wn_icmp_eq dX2_areSharesEven_23 rfl (by omega) (by omega) (fun c23 => ?_) (fun c23 => absurd c23 (by omega))
      exact wp_iinc dX2_areSharesEven_28 rfl (nI_1 _) ⟨Nat.le_of_ble_eq_true rfl, Or.inr rfl⟩ rfl (wp_goto dX2_areSharesEven_31 rfl nx)
    · rw [decide_eq_false (fun q => w (q p (by omega)))]
      refine wp_iload_n dX2_areSharesEven_2 rfl (wp_aload_n dX2_areSharesEven_3 rfl rfl (g2_14 dX2_areSharesEven_4 (xsh hX sh_73) (xrr hX r73_0) (gv2_118 dX2_areSharesEven_7 (xsh hX sh_74) k10 ?_)))
      refine wn_icmp_ge dX2_areSharesEven_10 rfl (by omega) (by omega) (fun c10 => absurd c10 (by omega)) (fun c10 => ?_)
      refine wp_aload_n dX2_areSharesEven_13 rfl rfl (wp_iload_n dX2_areSharesEven_14 rfl (wp_iv2 dX2_areSharesEven_15 k2_121 q_X2_shareOf (by decide) (xsh hX sh_73) (by decide) (Nat.le_of_ble_eq_true rfl) g1 (wp_aload_n dX2_areSharesEven_18 rfl rfl (wp_iconst (v := nI 0) dX2_areSharesEven_19 rfl (wp_iv2 dX2_areSharesEven_20 k2_121 q_X2_shareOf (by decide) (xsh hX sh_73) (by decide) (Nat.le_of_ble_eq_true rfl) g0 ?_)))))
      refine wn_icmp_eq dX2_areSharesEven_23 rfl (by omega) (by omega) (fun c23 => absurd c23 (by omega)) (fun c23 => ?_)
      exact wp_iconst (v := nI 0) dX2_areSharesEven_26 rfl (wb_ret dX2_areSharesEven_27 rfl rfl ⟨rfl, rfl⟩)
theorem c_areSharesEven {P d : Nat} {sh : Nat → Nat} (hP1 : 1 ≤ P) (hP : P ≤ 8) (hB : ∀ p, p < P → sh p < 2 ^ 30) {S : xS} (hX : XC S) (k10 : S.2.1 74 10 = nI P) (h : ∀ p, p < 8 → S.2.1 132 p = nI (sh p)) : xcall false (d + 1) j_X2_areSharesEven [.ref 73] S (some (.int (xB (decide (∀ q, q < P → sh q = sh 0))))) S := by
  have lp := ae_loop (d := d) (B := 0) hP hB hX k10 h (P - 1) 1 (Nat.le_refl 1) (by omega) (fun q hq => by rw [show q = 0 by omega])
  refine xcall_intro (ls := [.ref 73, .float 0]) q_X2_areSharesEven (by decide) rfl (Nat.le_of_ble_eq_true rfl) rfl ?_
  exact wp_iconst (v := nI 1) dX2_areSharesEven_0 rfl (wp_istore_n dX2_areSharesEven_1 ⟨Nat.le_of_ble_eq_true rfl, Or.inr rfl⟩ rfl lp)
theorem xRD.ex {S : xS} {c : xPx} {e : Nat} (h : xRD S c e) (ho : xzo c) (n : Nat) (hb : xzb c = true ∨ n = 0) : xRD (xSI S (106 + 4 * c.1.2.getD 0 0) 4 (nI n)) c n := by
  have h0 : c.1.2.getD 0 0 < 6 := ho.1.2.2.2.2 _ (xmem_getD (d := 0) (show 0 < c.1.2.length from ho.1.2.2.1))
  have F : xFl (fun i k => i = 106 + 4 * c.1.2.getD 0 0 ∧ k = 4) S (xSI S (106 + 4 * c.1.2.getD 0 0) 4 (nI n)) := (xFl.rf S).SI ⟨rfl, rfl⟩
  obtain ⟨h1, h2, h3, h4, h5, h6⟩ := h
  refine ⟨h1.fr F (fun k w => by omega), h2.fr F (fun k w => by omega), h3.fr F (fun i k w => by omega), F.i h4 (by omega), fun i hi => F.i (h5 i hi) (by omega), fun i hi => ?_⟩
  have hs : c.1.2.getD i 0 < 6 := ho.1.2.2.2.2 _ (xmem_getD (d := 0) hi)
  obtain ⟨q1, q2, q3, q4, q5, q6⟩ := h6 i hi
  refine ⟨F.i q1 (by omega), ?_, F.i q3 (by omega), fun l hl => F.i (q4 l hl) (by omega), fun l hl => F.i (q5 l hl) (by omega), fun l hl => F.i (q6 l hl) (by omega)⟩
  rcases Decidable.em (c.1.2.getD i 0 = c.1.2.getD 0 0) with w | w
  · rw [w]
    have e : (if c.1.2.getD 0 0 = c.1.2.getD 0 0 ∧ xzb c = true then n else 0) = n := by
      rcases hb with z | z
      · rw [if_pos ⟨rfl, z⟩]
      · rw [z]; split <;> rfl
    rw [e]
    exact xI_same _ _ _ _
  · rw [if_neg (fun z => w z.1)]
    rw [if_neg (fun z => w z.1)] at q2
    exact F.i q2 (by omega)
theorem xshE {c : xPx} {ex : Nat} {sh : Nat → Nat} (ho : xzo c) (h : ∀ p, p < xgP (xzg c) → sh p * c.2.2.2.1.length ^ xgH (xzg c) = c.2.2.2.1.length ^ 8 * xwys c ex p ∧ sh p ≤ c.2.2.2.1.length ^ 8) : decide (∀ q, q < xgP (xzg c) → sh q = sh 0) = xevn c ex := by
  have hN := ho.2.2.1.1
  have hP1 : 1 ≤ xgP (xzg c) := ho.g.1
  have d1 : 0 < c.2.2.2.1.length ^ xgH (xzg c) := Nat.pow_pos hN
  have d2 : 0 < c.2.2.2.1.length ^ 8 := Nat.pow_pos hN
  have e0 := (h 0 (by omega)).1
  have key : ∀ q, q < xgP (xzg c) → (sh q = sh 0 ↔ xwys c ex q = xwys c ex 0) := by
    intro q hq
    have eq := (h q hq).1
    constructor
    · intro z
      rw [z, e0] at eq
      exact (Nat.eq_of_mul_eq_mul_left d2 eq).symm
    · intro z
      rw [z, ← e0] at eq
      exact Nat.eq_of_mul_eq_mul_right d1 eq
  unfold xevn
  rcases Decidable.em (∀ q, q < xgP (xzg c) → sh q = sh 0) with w | w
  · rw [decide_eq_true w, decide_eq_true (fun q hq => (key q hq).mp (w q hq))]
  · rw [decide_eq_false w, decide_eq_false (fun z => w (fun q hq => (key q hq).mpr (z q hq)))]
theorem cme_loop {c : xPx} {d K : Nat} {y yb yc : Nat} (q1 : xYdC y yb yc) (ho : xzo c) (ha : xzal c = true) (h8 : xgH (xzg c) ≤ 8) (hK : K ≤ 40) (hb : xzb c = true ∨ K = 0) : ∀ (j n e N : Nat) (S : xS), n + j = K + 1 → N + j < 2 ^ 29 → XC S → S.2.2.1 0 4 = some y → xYdV y yb yc S c.1 → xRD S c e → xNw S N → Wp false (d + 6) 10 cX11_mend (some .int) false 28 [.ref 0, .int (nI K), .int (nI n)] [] S (fun r S' => r = some (.int (xmnd (xevn c) j n)) ∧ xFl (fun i q => (i = 73 ∧ (q = 3 ∨ q = 5 ∨ q = 6 ∨ q = 7)) ∨ i = 74 ∨ (76 ≤ i ∧ i ≤ 132)) S S' ∧ ∃ n', n' ≤ (N + j) ∧ xNw S' n') := by
  have hP1 : 1 ≤ xgP (xzg c) := ho.g.1
  have hPH := ho.g.H
  have n8 : c.2.2.2.1.length ^ 8 ≤ 390625 := xpow_le ho.2.2.1.2.1 ho.2.2.1.1 (Nat.le_refl 8)
  have hyu : (11 ≤ y ∧ y < 17) ∧ (11 ≤ yb ∧ yb < 17) ∧ (11 ≤ yc ∧ yc < 17) := by rcases q1 with h | h <;> omega
  have h06 : c.1.2.getD 0 0 < 6 := ho.1.2.2.2.2 _ (xmem_getD (d := 0) (show 0 < c.1.2.length from ho.1.2.2.1))
  intro j
  induction j with
  | zero =>
    intro n e N S hn hN hX h4 hY hD hNw
    have fin : xFl (fun i q => (i = 73 ∧ (q = 3 ∨ q = 5 ∨ q = 6 ∨ q = 7)) ∨ i = 74 ∨ (76 ≤ i ∧ i ≤ 132)) S S ∧ ∃ n', n' ≤ N + 0 ∧ xNw S n' := ⟨xFl.rf S, N, Nat.le_refl _, hNw⟩
    refine wp_iload_n dX11_mend_28 rfl (wp_iload_n dX11_mend_29 rfl ?_)
    refine wn_icmp_gt dX11_mend_30 rfl (by omega) (by omega) (fun c30 => ?_) (fun c30 => absurd c30 (by omega))
    exact wp_iconst (v := -1) dX11_mend_74 rfl (wp_ireturn dX11_mend_75 rfl rfl ⟨rfl, fin⟩)
  | succ j ih =>
    intro n e N S hn hN hX h4 hY hD hNw
    have hy := (q1.sh hX).1
    have gr := c_rhymeAt (i := 0) (d + 5) q1 hX hY ho.1.2.2.1
    have gt := c_rest (s := c.1.2.getD 0 0) (r := n) (d + 3) h06 hX
    have F0 : xFl (fun i k => i = 106 + 4 * c.1.2.getD 0 0 ∧ k = 4) S (xSI S (106 + 4 * c.1.2.getD 0 0) 4 (nI n)) := (xFl.rf S).SI ⟨rfl, rfl⟩
    have X0 := F0.XC hX
    have D0 := hD.ex ho n (hb.imp id (fun z => by omega))
    obtain ⟨S1, sh, g1, f1, n1, s1, e1⟩ := c_reckonShares (d + 0) ho ha h8 (show n ≤ 1000 by omega) (by omega) X0 D0 (hNw.fr F0 ⟨by omega, fun x => by omega⟩)
    have X1 := f1.XC X0
    have FF : xFl (fun i q => (i = 73 ∧ (q = 3 ∨ q = 5 ∨ q = 6 ∨ q = 7)) ∨ i = 74 ∨ (76 ≤ i ∧ i ≤ 132)) S S1 := (F0.mono (fun i q h => by omega)).tt (f1.mono (fun i q h => by unfold xFP at h; omega))
    have D1 := D0.fr f1 (fun i q h => by unfold xFP; omega) ho
    have ge := c_areSharesEven (d := d + 4) hP1 (by omega) (fun p hp => by have := (e1 p hp).2; omega) X1 D1.1.1 s1
    rw [xshE ho e1] at ge
    rw [xmnd]
    cases ev : xevn c n with
    | true =>
      rw [ev] at ge
      rw [if_pos rfl]
      have fin : xFl (fun i q => (i = 73 ∧ (q = 3 ∨ q = 5 ∨ q = 6 ∨ q = 7)) ∨ i = 74 ∨ (76 ≤ i ∧ i ≤ 132)) S S1 ∧ ∃ n', n' ≤ N + (j + 1) ∧ xNw S1 n' := ⟨FF, N + 1, by omega, n1⟩
      refine wp_iload_n dX11_mend_28 rfl (wp_iload_n dX11_mend_29 rfl ?_)
      refine wn_icmp_gt dX11_mend_30 rfl (by omega) (by omega) (fun c30 => absurd c30 (by omega)) (fun c30 => ?_)
      refine wp_aload_n dX11_mend_33 rfl rfl (g10_82 dX11_mend_34 (xsh hX sh_0) (xrr hX r0_14) (wp_aload_n dX11_mend_37 rfl rfl (g10_36 dX11_mend_38 (xsh hX sh_0) h4 (wp_iconst (v := nI 0) dX11_mend_41 rfl (wp_iv2 dX11_mend_42 k10_219 q_X10_rhymeAt (by decide) hy (by decide) (Nat.le_of_ble_eq_true rfl) gr (wp_iload_n dX11_mend_45 rfl (wp_iv3 dX11_mend_46 k10_272 q_X4_rest (by decide) (xsh hX sh_74) (by decide) (Nat.le_of_ble_eq_true rfl) gt (wp_aload_n dX11_mend_49 rfl rfl (g10_74 dX11_mend_50 (xsh X0 sh_0) (xrr X0 r0_15) (wp_iv1 dX11_mend_53 k10_259 q_X2_reckonShares (by decide) (xsh X0 sh_73) (by decide) (Nat.le_of_ble_eq_true rfl) g1 (wp_aload_n dX11_mend_56 rfl rfl (g10_74 dX11_mend_57 (xsh X1 sh_0) (xrr X1 r0_15) (wp_iv1 dX11_mend_60 k10_276 q_X2_areSharesEven (by decide) (xsh X1 sh_73) (by decide) (Nat.le_of_ble_eq_true rfl) ge ?_)))))))))))))
      refine wb_if_eq dX11_mend_63 rfl (fun c63 => absurd c63 (by decide)) (fun c63 => ?_)
      exact wp_iload_n dX11_mend_66 rfl (wp_ireturn dX11_mend_67 rfl rfl ⟨rfl, fin⟩)
    | false =>
      rw [ev] at ge
      rw [if_neg Bool.false_ne_true]
      have nx := (ih (n + 1) n (N + 1) S1 (by omega) (by omega) X1 (FF.r h4) (xYdV.fr _ _ _ _ hY FF (fun i k h => by omega)) D1 n1).mono (Q' := (fun r S' => r = some (.int (xmnd (xevn c) j (n + 1))) ∧ xFl (fun i q => (i = 73 ∧ (q = 3 ∨ q = 5 ∨ q = 6 ∨ q = 7)) ∨ i = 74 ∨ (76 ≤ i ∧ i ≤ 132)) S S' ∧ ∃ n', n' ≤ (N + (j + 1)) ∧ xNw S' n')) (fun r S' z => by
        obtain ⟨z1, z2, n', z3, z4⟩ := z
        exact ⟨z1, FF.tt z2, n', by omega, z4⟩)
      refine wp_iload_n dX11_mend_28 rfl (wp_iload_n dX11_mend_29 rfl ?_)
      refine wn_icmp_gt dX11_mend_30 rfl (by omega) (by omega) (fun c30 => absurd c30 (by omega)) (fun c30 => ?_)
      refine wp_aload_n dX11_mend_33 rfl rfl (g10_82 dX11_mend_34 (xsh hX sh_0) (xrr hX r0_14) (wp_aload_n dX11_mend_37 rfl rfl (g10_36 dX11_mend_38 (xsh hX sh_0) h4 (wp_iconst (v := nI 0) dX11_mend_41 rfl (wp_iv2 dX11_mend_42 k10_219 q_X10_rhymeAt (by decide) hy (by decide) (Nat.le_of_ble_eq_true rfl) gr (wp_iload_n dX11_mend_45 rfl (wp_iv3 dX11_mend_46 k10_272 q_X4_rest (by decide) (xsh hX sh_74) (by decide) (Nat.le_of_ble_eq_true rfl) gt (wp_aload_n dX11_mend_49 rfl rfl (g10_74 dX11_mend_50 (xsh X0 sh_0) (xrr X0 r0_15) (wp_iv1 dX11_mend_53 k10_259 q_X2_reckonShares (by decide) (xsh X0 sh_73) (by decide) (Nat.le_of_ble_eq_true rfl) g1 (wp_aload_n dX11_mend_56 rfl rfl (g10_74 dX11_mend_57 (xsh X1 sh_0) (xrr X1 r0_15) (wp_iv1 dX11_mend_60 k10_276 q_X2_areSharesEven (by decide) (xsh X1 sh_73) (by decide) (Nat.le_of_ble_eq_true rfl) ge ?_)))))))))))))
      refine wb_if_eq dX11_mend_63 rfl (fun c63 => ?_) (fun c63 => absurd c63 (by decide))
      exact wp_iinc dX11_mend_68 rfl (nI_1 _) ⟨Nat.le_of_ble_eq_true rfl, Or.inr rfl⟩ rfl (wp_goto dX11_mend_71 rfl nx)
theorem c_mend_no {c : xPx} (d : Nat) (ho : xzo c) {S : xS} (h : xCS S c) (hno : ¬ (xzal c = true ∧ xgH (xzg c) ≤ 8)) : ∃ S', xcall false (d + 6) j_X11_mend [.ref 0] S (some (.int (-1))) S' ∧ xFl (fun i k => (i = 74 ∧ (k = 2 ∨ k = 5 ∨ 10 ≤ k)) ∨ i = 76 ∨ i = 77 ∨ i = 78 ∨ (106 ≤ i ∧ i ≤ 129)) S S' := by
  have hX := h.X
  obtain ⟨b, S1, g1, f1, hb, hD⟩ := c_isGameReady (d + 0) ho h
  have X1 := f1.XC hX
  have hb0 : b = false := by
    cases b with
    | false => rfl
    | true => exact absurd (hb.mp rfl) hno
  subst hb0
  refine ⟨S1, ?_, f1⟩
  refine xcall_intro (ls := [.ref 0, .float 0, .float 0]) q_X11_mend (by decide) rfl (Nat.le_of_ble_eq_true rfl) rfl ?_
  refine wp_aload_n dX11_mend_0 rfl rfl (wp_iv1 dX11_mend_1 k10_236 q_X11_isGameReady (by decide) (xsh hX sh_0) (by decide) (Nat.le_of_ble_eq_true rfl) g1 ?_)
  refine wb_if_ne dX11_mend_4 rfl (fun c4 => absurd c4 (by decide)) (fun c4 => ?_)
  exact wp_iconst (v := -1) dX11_mend_7 rfl (wp_ireturn dX11_mend_8 rfl rfl ⟨rfl, rfl⟩)
theorem c_mend {c : xPx} {N : Nat} (d : Nat) (ho : xzo c) {S : xS} (h : xCS S c) (ha : xzal c = true) (h8 : xgH (xzg c) ≤ 8) (hN : xNw S N) (hNb : N < 2 ^ 28) : ∃ S', xcall false (d + 6) j_X11_mend [.ref 0] S (some (.int (xmnd (xevn c) 41 0))) S' ∧ xFl (fun i q => (i = 73 ∧ (q = 3 ∨ q = 5 ∨ q = 6 ∨ q = 7)) ∨ i = 74 ∨ (76 ≤ i ∧ i ≤ 132)) S S' ∧ ∃ n', n' ≤ N + 41 ∧ xNw S' n' := by
  have hX := h.X
  obtain ⟨b, S1, g1, f1, hb, hD⟩ := c_isGameReady (d + 0) ho h
  have X1 := f1.XC hX
  have hb0 : b = true := hb.mpr ⟨ha, h8⟩
  subst hb0
  have h1 := h.fr f1 (fun i q w1 w2 => by omega)
  obtain ⟨y, yb, yc, a, b, c', e, a2, b2, c2, e2, ρ, q1, q2, q3, q4, q5, q6, q7, q8, q9, q10, q11, q12, q13, q14⟩ := h1
  have gw := c_countsBeats (d + 5) q1 X1 q11
  have hy := (q1.sh X1).1
  have hN1 := hN.fr f1 ⟨by omega, fun x => by omega⟩
  have FF : xFl (fun i q => (i = 73 ∧ (q = 3 ∨ q = 5 ∨ q = 6 ∨ q = 7)) ∨ i = 74 ∨ (76 ≤ i ∧ i ≤ 132)) S S1 := f1.mono (fun i q w => by omega)
  cases hbt : xzb c with
  | true =>
    rw [show decide (c.1.1 0 = 1) = true from hbt] at gw
    have lp := cme_loop (d := d) (K := 40) q1 ho ha h8 (Nat.le_refl _) (Or.inl hbt) 41 0 0 N S1 rfl (by omega) X1 q6 q11 (hD rfl) hN1
    obtain ⟨r, S', g2, rfl, z1, z2⟩ := xcall_some (al := false) (d := d + 6) (ls := [.ref 0, .float 0, .float 0]) (S := S) (as := [.ref 0]) q_X11_mend (by decide) rfl (Nat.le_of_ble_eq_true rfl) rfl (P := (fun r S' => r = some (.int (xmnd (xevn c) 41 0)) ∧ xFl (fun i q => (i = 73 ∧ (q = 3 ∨ q = 5 ∨ q = 6 ∨ q = 7)) ∨ i = 74 ∨ (76 ≤ i ∧ i ≤ 132)) S1 S' ∧ ∃ n', n' ≤ (N + 41) ∧ xNw S' n')) (by
        refine wp_aload_n dX11_mend_0 rfl rfl (wp_iv1 dX11_mend_1 k10_236 q_X11_isGameReady (by decide) (xsh hX sh_0) (by decide) (Nat.le_of_ble_eq_true rfl) g1 ?_)
        refine wb_if_ne dX11_mend_4 rfl (fun c4 => ?_) (fun c4 => absurd c4 (by decide))
        refine wp_aload_n dX11_mend_9 rfl rfl (g10_36 dX11_mend_10 (xsh X1 sh_0) q6 (wp_iv1 dX11_mend_13 k10_229 q_X10_countsBeats (by decide) hy (by decide) (Nat.le_of_ble_eq_true rfl) gw ?_))
        refine wb_if_eq dX11_mend_16 rfl (fun c16 => absurd c16 (by decide)) (fun c16 => ?_)
        exact wp_bipush (v := nI 40) dX11_mend_19 rfl (wp_goto dX11_mend_21 rfl (wp_istore_n dX11_mend_25 ⟨Nat.le_of_ble_eq_true rfl, Or.inr rfl⟩ rfl (wp_iconst (v := nI 0) dX11_mend_26 rfl (wp_istore_n dX11_mend_27 ⟨Nat.le_of_ble_eq_true rfl, Or.inr rfl⟩ rfl lp)))))
    exact ⟨S', g2, FF.tt z1, z2⟩
  | false =>
    rw [show decide (c.1.1 0 = 1) = false from hbt] at gw
    have lp := cme_loop (d := d) (K := 0) q1 ho ha h8 (by decide) (Or.inr rfl) 1 0 0 N S1 rfl (by omega) X1 q6 q11 (hD rfl) hN1
    have em : xmnd (xevn c) 1 0 = xmnd (xevn c) 41 0 := by
      cases e0 : xevn c 0 with
      | true =>
        show (if xevn c 0 = true then nI 0 else _) = (if xevn c 0 = true then nI 0 else _)
        rw [if_pos e0, if_pos e0]
      | false => rw [xmnd_w (fun n => xevn_w hbt n) e0 1 0, xmnd_w (fun n => xevn_w hbt n) e0 41 0]
    rw [em] at lp
    obtain ⟨r, S', g2, rfl, z1, n', z2, z3⟩ := xcall_some (al := false) (d := d + 6) (ls := [.ref 0, .float 0, .float 0]) (S := S) (as := [.ref 0]) q_X11_mend (by decide) rfl (Nat.le_of_ble_eq_true rfl) rfl (P := (fun r S' => r = some (.int (xmnd (xevn c) 41 0)) ∧ xFl (fun i q => (i = 73 ∧ (q = 3 ∨ q = 5 ∨ q = 6 ∨ q = 7)) ∨ i = 74 ∨ (76 ≤ i ∧ i ≤ 132)) S1 S' ∧ ∃ n', n' ≤ (N + 1) ∧ xNw S' n')) (by
        refine wp_aload_n dX11_mend_0 rfl rfl (wp_iv1 dX11_mend_1 k10_236 q_X11_isGameReady (by decide) (xsh hX sh_0) (by decide) (Nat.le_of_ble_eq_true rfl) g1 ?_)
        refine wb_if_ne dX11_mend_4 rfl (fun c4 => ?_) (fun c4 => absurd c4 (by decide))
        refine wp_aload_n dX11_mend_9 rfl rfl (g10_36 dX11_mend_10 (xsh X1 sh_0) q6 (wp_iv1 dX11_mend_13 k10_229 q_X10_countsBeats (by decide) hy (by decide) (Nat.le_of_ble_eq_true rfl) gw ?_))
        refine wb_if_eq dX11_mend_16 rfl (fun c16 => ?_) (fun c16 => absurd c16 (by decide))
        exact wp_iconst (v := nI 0) dX11_mend_24 rfl (wp_istore_n dX11_mend_25 ⟨Nat.le_of_ble_eq_true rfl, Or.inr rfl⟩ rfl (wp_iconst (v := nI 0) dX11_mend_26 rfl (wp_istore_n dX11_mend_27 ⟨Nat.le_of_ble_eq_true rfl, Or.inr rfl⟩ rfl lp))))
    exact ⟨S', g2, FF.tt z1, n', by omega, z3⟩
theorem cd_loop {d : Nat} {x0 : Value} {x1 : Int32} {S : xS} : ∀ (b i x y : Nat) (y5 : Value), y < 2 ^ b → i + 2 * b ≤ 64 → x < 2 ^ 30 → y < 2 ^ 30 → Wp false d 10 cX11_commonDivisor (some .int) false 7 [x0, .int x1, .int (nI x), .int (nI y), .int (nI i), y5] [] S (fun r S' => r = some (.int (nI (Nat.gcd x y))) ∧ S' = S) := by
  have zero : ∀ (i x : Nat) (y5 : Value), i ≤ 64 → Wp false d 10 cX11_commonDivisor (some .int) false 7 [x0, .int x1, .int (nI x), .int (nI 0), .int (nI i), y5] [] S (fun r S' => r = some (.int (nI (Nat.gcd x 0))) ∧ S' = S) := by
    intro i x y5 hi
    rw [Nat.gcd_zero_right]
    rcases Nat.lt_or_ge i 64 with w | w
    · skip
      refine wp_iload dX11_commonDivisor_7 rfl (wp_bipush (v := nI 64) dX11_commonDivisor_9 rfl ?_)
      refine wn_icmp_ge dX11_commonDivisor_11 rfl (by omega) (by omega) (fun c11 => absurd c11 (by omega)) (fun c11 => ?_)
      refine wp_iload_n dX11_commonDivisor_14 rfl ?_
      refine wn_if_eq dX11_commonDivisor_15 rfl (by omega) (fun c15 => ?_) (fun c15 => absurd c15 (by omega))
      exact wp_iload_n dX11_commonDivisor_34 rfl (wp_ireturn dX11_commonDivisor_35 rfl rfl ⟨rfl, rfl⟩)
    · skip
      refine wp_iload dX11_commonDivisor_7 rfl (wp_bipush (v := nI 64) dX11_commonDivisor_9 rfl ?_)
      refine wn_icmp_ge dX11_commonDivisor_11 rfl (by omega) (by omega) (fun c11 => ?_) (fun c11 => absurd c11 (by omega))
      exact wp_iload_n dX11_commonDivisor_34 rfl (wp_ireturn dX11_commonDivisor_35 rfl rfl ⟨rfl, rfl⟩)
  intro b
  induction b with
  | zero =>
    intro i x y y5 hy hi hx hy2
    rw [show y = 0 by omega]
    exact zero i x y5 (by omega)
  | succ b ih =>
    intro i x y y5 hy hi hx hy2
    rcases Nat.eq_zero_or_pos y with w | w
    · subst w; exact zero i x y5 (by omega)
    · have hm := Nat.mod_lt x w
      have eg : Nat.gcd y (x % y) = Nat.gcd x y := by rw [Nat.gcd_comm y, ← Nat.gcd_rec, Nat.gcd_comm]
      have nx : Wp false d 10 cX11_commonDivisor (some .int) false 7 [x0, .int x1, .int (nI y), .int (nI (x % y)), .int (nI (i + 1)), .int (nI (x % y))] [] S (fun r S' => r = some (.int (nI (Nat.gcd x y))) ∧ S' = S) := by
        rw [← eg]
        rcases Nat.eq_zero_or_pos (x % y) with z | z
        · rw [z]; exact zero (i + 1) y _ (by omega)
        · have hm2 := Nat.mod_lt y z
          have hle : y % (x % y) + (x % y) ≤ y := by
            have e := Nat.div_add_mod y (x % y)
            have : 1 ≤ y / (x % y) := Nat.div_pos (by omega) z
            have : (x % y) * 1 ≤ (x % y) * (y / (x % y)) := Nat.mul_le_mul_left _ this
            omega
          have h2 : 2 ^ (b + 1) = 2 * 2 ^ b := Nat.pow_succ'
          have nx := ih (i + 2) (x % y) (y % (x % y)) (.int (nI (y % (x % y)))) (by omega) (by omega) (by omega) (by omega)
          rw [show Nat.gcd (x % y) (y % (x % y)) = Nat.gcd y (x % y) by rw [Nat.gcd_comm (x % y), ← Nat.gcd_rec, Nat.gcd_comm]] at nx
          refine wp_iload dX11_commonDivisor_7 rfl (wp_bipush (v := nI 64) dX11_commonDivisor_9 rfl ?_)
          refine wn_icmp_ge dX11_commonDivisor_11 rfl (by omega) (by omega) (fun c11 => absurd c11 (by omega)) (fun c11 => ?_)
          refine wp_iload_n dX11_commonDivisor_14 rfl ?_
          refine wn_if_eq dX11_commonDivisor_15 rfl (by omega) (fun c15 => absurd c15 (by omega)) (fun c15 => ?_)
          exact wp_iload_n dX11_commonDivisor_18 rfl (wp_iload_n dX11_commonDivisor_19 rfl (wv_irem dX11_commonDivisor_20 (nI_n0 (by omega) (by omega)) (pk_rem (by omega) (by omega) (by omega)) (wp_istore dX11_commonDivisor_21 ⟨Nat.le_of_ble_eq_true rfl, Or.inr rfl⟩ rfl (wp_iload_n dX11_commonDivisor_23 rfl (wp_istore_n dX11_commonDivisor_24 ⟨Nat.le_of_ble_eq_true rfl, Or.inr rfl⟩ rfl (wp_iload dX11_commonDivisor_25 rfl (wp_istore_n dX11_commonDivisor_27 ⟨Nat.le_of_ble_eq_true rfl, Or.inr rfl⟩ rfl (wp_iinc dX11_commonDivisor_28 rfl (nI_1 _) ⟨Nat.le_of_ble_eq_true rfl, Or.inr rfl⟩ rfl (wp_goto dX11_commonDivisor_31 rfl nx)))))))))
      refine wp_iload dX11_commonDivisor_7 rfl (wp_bipush (v := nI 64) dX11_commonDivisor_9 rfl ?_)
      refine wn_icmp_ge dX11_commonDivisor_11 rfl (by omega) (by omega) (fun c11 => absurd c11 (by omega)) (fun c11 => ?_)
      refine wp_iload_n dX11_commonDivisor_14 rfl ?_
      refine wn_if_eq dX11_commonDivisor_15 rfl (by omega) (fun c15 => absurd c15 (by omega)) (fun c15 => ?_)
      exact wp_iload_n dX11_commonDivisor_18 rfl (wp_iload_n dX11_commonDivisor_19 rfl (wv_irem dX11_commonDivisor_20 (nI_n0 (by omega) (by omega)) (pk_rem (by omega) (by omega) (by omega)) (wp_istore dX11_commonDivisor_21 ⟨Nat.le_of_ble_eq_true rfl, Or.inr rfl⟩ rfl (wp_iload_n dX11_commonDivisor_23 rfl (wp_istore_n dX11_commonDivisor_24 ⟨Nat.le_of_ble_eq_true rfl, Or.inr rfl⟩ rfl (wp_iload dX11_commonDivisor_25 rfl (wp_istore_n dX11_commonDivisor_27 ⟨Nat.le_of_ble_eq_true rfl, Or.inr rfl⟩ rfl (wp_iinc dX11_commonDivisor_28 rfl (nI_1 _) ⟨Nat.le_of_ble_eq_true rfl, Or.inr rfl⟩ rfl (wp_goto dX11_commonDivisor_31 rfl nx)))))))))
theorem c_commonDivisor {x y : Nat} (d : Nat) (hx : x < 2 ^ 30) (hy : y < 2 ^ 30) {S : xS} : xcall false d j_X11_commonDivisor [.int (nI x), .int (nI y)] S (some (.int (nI (Nat.gcd x y)))) S := by
  refine xcall_intro (ls := [.int (nI x), .int (nI y), .float 0, .float 0, .float 0, .float 0]) q_X11_commonDivisor (by decide) rfl (Nat.le_of_ble_eq_true rfl) rfl ?_
  exact wp_iload_n dX11_commonDivisor_0 rfl (wp_istore_n dX11_commonDivisor_1 ⟨Nat.le_of_ble_eq_true rfl, Or.inr rfl⟩ rfl (wp_iload_n dX11_commonDivisor_2 rfl (wp_istore_n dX11_commonDivisor_3 ⟨Nat.le_of_ble_eq_true rfl, Or.inr rfl⟩ rfl (wp_iconst (v := nI 0) dX11_commonDivisor_4 rfl (wp_istore dX11_commonDivisor_5 ⟨Nat.le_of_ble_eq_true rfl, Or.inr rfl⟩ rfl (cd_loop 30 0 x y _ hy (by decide) hx hy))))))
theorem c_share {c : xPx} {p w N : Nat} (d : Nat) (ho : xzo c) {S : xS} (h : xCS S c) (ha : xzal c = true) (h8 : xgH (xzg c) ≤ 8) (hp : p < xgP (xzg c)) (hw : w ≤ 1) (hN : xNw S N) (hNb : N < 2 ^ 28) : ∃ S', xcall false (d + 6) j_X11_share [.ref 0, .int (nI p), .int (nI w)] S (some (.int (nI (if w = 0 then xwys c 0 p / Nat.gcd (xwys c 0 p) (c.2.2.2.1.length ^ xgH (xzg c)) else c.2.2.2.1.length ^ xgH (xzg c) / Nat.gcd (xwys c 0 p) (c.2.2.2.1.length ^ xgH (xzg c)))))) S' ∧ xFl (fun i q => (i = 73 ∧ (q = 3 ∨ q = 5 ∨ q = 6 ∨ q = 7)) ∨ i = 74 ∨ (76 ≤ i ∧ i ≤ 132)) S S' ∧ xNw S' (N + 1) := by
  have hX := h.X
  have hPH := ho.g.H
  have hN1 := ho.2.2.1.1
  obtain ⟨b, S1, g1, f1, hb, hD⟩ := c_isGameReady (d + 0) ho h
  have X1 := f1.XC hX
  have hb0 : b = true := hb.mpr ⟨ha, h8⟩
  subst hb0
  have h1 := h.fr f1 (fun i q w1 w2 => by omega)
  obtain ⟨b2, gp, hb2⟩ := c_isPerson (p := nI p) (d + 5) ho h1
  have hb2' : b2 = true := hb2.mpr ⟨p, hp, rfl⟩
  subst hb2'
  obtain ⟨S2, sh, g2, f2, n2, s2, e2⟩ := c_reckonShares (d + 0) ho ha h8 (show 0 ≤ 1000 by decide) (by omega) X1 (hD rfl) (hN.fr f1 ⟨by omega, fun x => by omega⟩)
  have X2 := f2.XC X1
  have D2 := (hD rfl).fr f2 (fun i q h => by unfold xFP; omega) ho
  have n8 : c.2.2.2.1.length ^ 8 ≤ 390625 := xpow_le ho.2.2.1.2.1 hN1 (Nat.le_refl 8)
  have n8' : 0 < c.2.2.2.1.length ^ 8 := Nat.pow_pos hN1
  have nH' : 0 < c.2.2.2.1.length ^ xgH (xzg c) := Nat.pow_pos hN1
  obtain ⟨ee, le⟩ := e2 p hp
  have gs := c_shareOf (d + 5) (show p < 8 by omega) X2 (s2 p (by omega))
  have gw := c_wholeShare (d + 5) X2 D2.2.2.1.1
  have gc := c_commonDivisor (x := sh p) (y := c.2.2.2.1.length ^ 8) (d + 5) (by omega) (by omega) (S := S2)
  obtain ⟨r1, r2⟩ := xfrac n8' nH' ee
  have gpos := Nat.gcd_pos_of_pos_right (sh p) n8'
  have gle := Nat.le_of_dvd n8' (Nat.gcd_dvd_right (sh p) (c.2.2.2.1.length ^ 8))
  refine ⟨S2, ?_, (f1.mono (fun i q h => by omega)).tt (f2.mono (fun i q h => by unfold xFP at h; omega)), n2⟩
  rw [← r1, ← r2]
  rcases (show w = 0 ∨ w = 1 by omega) with rfl | rfl
  · rw [if_pos rfl]
    refine xcall_intro (ls := [.ref 0, .int (nI p), .int (nI 0), .float 0, .float 0, .float 0]) q_X11_share (by decide) rfl (Nat.le_of_ble_eq_true rfl) rfl ?_
    refine wp_aload_n dX11_share_0 rfl rfl (wp_iv1 dX11_share_1 k10_236 q_X11_isGameReady (by decide) (xsh hX sh_0) (by decide) (Nat.le_of_ble_eq_true rfl) g1 ?_)
    refine wb_if_eq dX11_share_4 rfl (fun c4 => absurd c4 (by decide)) (fun c4 => ?_)
    refine wp_aload_n dX11_share_7 rfl rfl (wp_iload_n dX11_share_8 rfl (wp_iv2 dX11_share_9 k10_252 q_X11_isPerson (by decide) (xsh X1 sh_0) (by decide) (Nat.le_of_ble_eq_true rfl) gp ?_))
    refine wb_if_eq dX11_share_12 rfl (fun c12 => absurd c12 (by decide)) (fun c12 => ?_)
    refine wp_iload_n dX11_share_15 rfl ?_
    refine wn_if_lt dX11_share_16 rfl (by omega) ?_
    refine wp_iload_n dX11_share_19 rfl (wp_iconst (v := nI 1) dX11_share_20 rfl ?_)
    refine wn_icmp_le dX11_share_21 rfl (by omega) (by omega) (fun c21 => ?_) (fun c21 => absurd c21 (by omega))
    refine wp_aload_n dX11_share_32 rfl rfl (g10_74 dX11_share_33 (xsh X1 sh_0) (xrr X1 r0_15) (wp_iv1 dX11_share_36 k10_259 q_X2_reckonShares (by decide) (xsh X1 sh_73) (by decide) (Nat.le_of_ble_eq_true rfl) g2 (wp_aload_n dX11_share_39 rfl rfl (g10_74 dX11_share_40 (xsh X2 sh_0) (xrr X2 r0_15) (wp_iload_n dX11_share_43 rfl (wp_iv2 dX11_share_44 k10_262 q_X2_shareOf (by decide) (xsh X2 sh_73) (by decide) (Nat.le_of_ble_eq_true rfl) gs (wp_istore_n dX11_share_47 ⟨Nat.le_of_ble_eq_true rfl, Or.inr rfl⟩ rfl (wp_aload_n dX11_share_48 rfl rfl (g10_74 dX11_share_49 (xsh X2 sh_0) (xrr X2 r0_15) (wp_iv1 dX11_share_52 k10_265 q_X2_wholeShare (by decide) (xsh X2 sh_73) (by decide) (Nat.le_of_ble_eq_true rfl) gw (wp_istore dX11_share_55 ⟨Nat.le_of_ble_eq_true rfl, Or.inr rfl⟩ rfl (wp_iload_n dX11_share_57 rfl (wp_iload dX11_share_58 rfl (wp_is2 dX11_share_60 k10_268 q_X11_commonDivisor (by decide) (Nat.le_of_ble_eq_true rfl) gc (wp_istore dX11_share_63 ⟨Nat.le_of_ble_eq_true rfl, Or.inr rfl⟩ rfl (wp_iload dX11_share_65 rfl (wp_iconst (v := nI 1) dX11_share_67 rfl ?_)))))))))))))))))
    refine wn_icmp_ge dX11_share_68 rfl (by omega) (by omega) (fun c68 => ?_) (fun c68 => absurd c68 (by omega))
    refine wp_iload_n dX11_share_73 rfl ?_
    refine wn_if_ne dX11_share_74 rfl (by omega) (fun c74 => absurd c74 (by omega)) (fun c74 => ?_)
    exact wp_iload_n dX11_share_77 rfl (wp_goto dX11_share_78 rfl (wp_iload dX11_share_83 rfl (wv_idiv dX11_share_85 (nI_n0 (by omega) (by omega)) (pk_div (by omega) (by omega) (by omega)) (wp_ireturn dX11_share_86 rfl rfl ⟨rfl, rfl⟩))))
  · rw [if_neg (by decide)]
    refine xcall_intro (ls := [.ref 0, .int (nI p), .int (nI 1), .float 0, .float 0, .float 0]) q_X11_share (by decide) rfl (Nat.le_of_ble_eq_true rfl) rfl ?_
    refine wp_aload_n dX11_share_0 rfl rfl (wp_iv1 dX11_share_1 k10_236 q_X11_isGameReady (by decide) (xsh hX sh_0) (by decide) (Nat.le_of_ble_eq_true rfl) g1 ?_)
    refine wb_if_eq dX11_share_4 rfl (fun c4 => absurd c4 (by decide)) (fun c4 => ?_)
    refine wp_aload_n dX11_share_7 rfl rfl (wp_iload_n dX11_share_8 rfl (wp_iv2 dX11_share_9 k10_252 q_X11_isPerson (by decide) (xsh X1 sh_0) (by decide) (Nat.le_of_ble_eq_true rfl) gp ?_))
    refine wb_if_eq dX11_share_12 rfl (fun c12 => absurd c12 (by decide)) (fun c12 => ?_)
    refine wp_iload_n dX11_share_15 rfl ?_
    refine wn_if_lt dX11_share_16 rfl (by omega) ?_
    refine wp_iload_n dX11_share_19 rfl (wp_iconst (v := nI 1) dX11_share_20 rfl ?_)
    refine wn_icmp_le dX11_share_21 rfl (by omega) (by omega) (fun c21 => ?_) (fun c21 => absurd c21 (by omega))
    refine wp_aload_n dX11_share_32 rfl rfl (g10_74 dX11_share_33 (xsh X1 sh_0) (xrr X1 r0_15) (wp_iv1 dX11_share_36 k10_259 q_X2_reckonShares (by decide) (xsh X1 sh_73) (by decide) (Nat.le_of_ble_eq_true rfl) g2 (wp_aload_n dX11_share_39 rfl rfl (g10_74 dX11_share_40 (xsh X2 sh_0) (xrr X2 r0_15) (wp_iload_n dX11_share_43 rfl (wp_iv2 dX11_share_44 k10_262 q_X2_shareOf (by decide) (xsh X2 sh_73) (by decide) (Nat.le_of_ble_eq_true rfl) gs (wp_istore_n dX11_share_47 ⟨Nat.le_of_ble_eq_true rfl, Or.inr rfl⟩ rfl (wp_aload_n dX11_share_48 rfl rfl (g10_74 dX11_share_49 (xsh X2 sh_0) (xrr X2 r0_15) (wp_iv1 dX11_share_52 k10_265 q_X2_wholeShare (by decide) (xsh X2 sh_73) (by decide) (Nat.le_of_ble_eq_true rfl) gw (wp_istore dX11_share_55 ⟨Nat.le_of_ble_eq_true rfl, Or.inr rfl⟩ rfl (wp_iload_n dX11_share_57 rfl (wp_iload dX11_share_58 rfl (wp_is2 dX11_share_60 k10_268 q_X11_commonDivisor (by decide) (Nat.le_of_ble_eq_true rfl) gc (wp_istore dX11_share_63 ⟨Nat.le_of_ble_eq_true rfl, Or.inr rfl⟩ rfl (wp_iload dX11_share_65 rfl (wp_iconst (v := nI 1) dX11_share_67 rfl ?_)))))))))))))))))
    refine wn_icmp_ge dX11_share_68 rfl (by omega) (by omega) (fun c68 => ?_) (fun c68 => absurd c68 (by omega))
    refine wp_iload_n dX11_share_73 rfl ?_
    refine wn_if_ne dX11_share_74 rfl (by omega) (fun c74 => ?_) (fun c74 => absurd c74 (by omega))
    exact wp_iload dX11_share_81 rfl (wp_iload dX11_share_83 rfl (wv_idiv dX11_share_85 (nI_n0 (by omega) (by omega)) (pk_div (by omega) (by omega) (by omega)) (wp_ireturn dX11_share_86 rfl rfl ⟨rfl, rfl⟩)))
