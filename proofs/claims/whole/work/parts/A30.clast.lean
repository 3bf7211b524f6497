/-! great rings: last, both sides -/
def xnoa (L : List xLn) : Bool := (L.flatMap xmit).any (fun o => xk3 o || xk4 o)
theorem xany_or {p q : xIt → Bool} : ∀ M : List xIt, M.any (fun o => p o || q o) = (M.any p || M.any q)
  | [] => rfl
  | o :: r => by
    rw [List.any_cons, List.any_cons, List.any_cons, xany_or r]
    cases p o <;> cases q o <;> cases r.any p <;> cases r.any q <;> rfl
theorem xcI_any (L : List xLn) : (L.flatMap xcI).any xk3 = (L.flatMap xmit).any xk3 := by
  rw [List.any_flatMap, List.any_flatMap]
  congr 1
  funext ln
  unfold xcI xmit
  split
  · rw [List.cons_append, List.nil_append, List.any_cons]
    rfl
  · rfl
theorem xnoa_c (L : List xLn) : ((L.flatMap xcI).any xk3 || xask L) = xnoa L := by
  unfold xnoa xask
  rw [xany_or, xcI_any]
  rfl
theorem xtot_say {nm : Nat → Nat} {v : xTg} {t : Nat → Nat} {b : Bool} : ∀ (L : List xLn) (p : Nat), (∀ ln ∈ L, ln.2.2.any xk3 = false) → xsaL nm (xct v t b) L p = p + xtot v t b L := by
  intro L p h
  rw [← xtot_m]
  induction L generalizing p with
  | nil => rfl
  | cons ln r ih =>
    rw [xsaL, ih _ (fun l hl => h l (List.mem_cons_of_mem _ hl)), xrp_sum (fun p => xsay_sum (nm := nm) (ct := xct v t b) ln.2.2 p (h ln (List.mem_cons_self))), List.length_cons, xsum_hd]
    have e1 : xsum (fun k => ((ln :: r).getD 0 (0, 0, [])).1 * xct v t b ((xmit ((ln :: r).getD 0 (0, 0, []))).getD k (0, 0, 0))) (xmit ((ln :: r).getD 0 (0, 0, []))).length = xsum (fun q => xct v t b (ln.2.2.getD q (0, 0, 0))) ln.2.2.length * ln.1 := xsum_mul _ _ _
    rw [e1, Nat.mul_comm ln.1]
    show p + _ + xsum (fun l => xsum (fun k => (r.getD l (0, 0, [])).1 * xct v t b ((xmit (r.getD l (0, 0, []))).getD k (0, 0, 0))) (xmit (r.getD l (0, 0, []))).length) r.length = _
    rw [Nat.add_assoc]
    rfl
theorem xnoa_ln {L : List xLn} (h : xnoa L = false) (ln : xLn) (hl : ln ∈ L) : ln.2.2.any xk3 = false := by
  unfold xnoa at h
  rw [xany_or, Bool.or_eq_false_iff] at h
  have h1 := h.1
  rw [List.any_flatMap, List.any_eq_false] at h1
  have := h1 ln hl
  cases e : ln.2.2.any xk3 with
  | false => rfl
  | true => exact absurd e this
theorem xtot_b {c : xPx} {s n : Nat} {t : Nat → Nat} {L : List xLn} (ho : xzo c) (hs : s < 6) (hx : c.2.2.2.2 s = some (n, t, L)) (h : xnoa L = false) : 1 ≤ xtot c.2.1 t (xzb c) L ∧ xtot c.2.1 t (xzb c) L ≤ 14040 := by
  have q := xzT_b (xone_ok ho hs) (xone_al hx) 0 0 0 0
  have e2 : xzr (xone c s) (xzs (xone c s) 0) = (t, L) := by unfold xzr; rw [show (xone c s).2.2.2.2 (xzs (xone c s) 0) = some (n, t, L) from hx]
  unfold xzx at q
  rw [e2] at q
  have e3 := xtot_say (nm := xzN (xone c s) (xzR (xone c s) 0 0 0)) (v := c.2.1) (t := t) (b := xzb c) L 0 (xnoa_ln h)
  have q' : 1 ≤ xsaL (xzN (xone c s) (xzR (xone c s) 0 0 0)) (xct c.2.1 t (xzb c)) L 0 ∧ xsaL (xzN (xone c s) (xzR (xone c s) 0 0 0)) (xct c.2.1 t (xzb c)) L 0 ≤ 14040 := q
  omega
theorem hn_loop {a n d : Nat} {t : Nat → Nat} {L : List xLn} (ho : xRo a) {S : xS} (hX : XC S) (hV : xRV a S n t L) : ∀ (j i : Nat), i + j = (L.flatMap xcI).length → Wp false (d + 2) 3 cX3_hasNameOrAsk (some .boolean) false 2 [.ref a, .int (nI i)] [] S (fun r S' => r = some (.int (xB (((L.flatMap xcI).drop i).any xk3 || xask L))) ∧ S' = S) := by
  have ha := (ho.sh hX).1
  have k1 := hV.2.2.1
  have h120 := xRok_120 hV.2.2.2.2.2.2.1 hV.2.2.2.2.2.2.2.1
  intro j
  induction j with
  | zero =>
    intro i hi
    have hii : i = (L.flatMap xcI).length := by omega
    subst hii
    have ga := c_hasAsk (d + 0) ho hX hV
    rw [List.drop_length]
    show Wp _ _ _ _ _ _ _ _ _ _ (fun r S' => r = some (.int (xB (xask L))) ∧ S' = S)
    refine wp_iload_n dX3_hasNameOrAsk_2 rfl (wp_aload_n dX3_hasNameOrAsk_3 rfl rfl (gv3_36 dX3_hasNameOrAsk_4 ha k1 ?_))
    refine wn_icmp_ge dX3_hasNameOrAsk_7 rfl (by omega) (by omega) (fun c7 => ?_) (fun c7 => absurd c7 (by omega))
    exact wp_aload_n dX3_hasNameOrAsk_27 rfl rfl (wp_iv1 dX3_hasNameOrAsk_28 k3_120 q_X3_hasAsk (by decide) ha (by decide) (Nat.le_of_ble_eq_true rfl) ga (wb_ret dX3_hasNameOrAsk_31 rfl rfl ⟨rfl, rfl⟩))
  | succ j ih =>
    intro i hi
    have gk := c_kindOf (d + 1) ho hX hV (show i < (L.flatMap xcI).length by omega)
    have hk : ((L.flatMap xcI).getD i (0, 0, 0)).1 ≤ 5 := by
      rcases xRok_mem hV.2.2.2.2.2.2.1 (xmem_getD (d := (0, 0, 0)) (show i < (L.flatMap xcI).length by omega)) with q | q
      · have := q.2.2.2.2.2; omega
      · have := q.1; omega
    rw [xdrop_s (0, 0, 0) _ i (by omega), List.any_cons]
    rcases Decidable.em (((L.flatMap xcI).getD i (0, 0, 0)).1 = 3) with w | w
    · rw [show xk3 ((L.flatMap xcI).getD i (0, 0, 0)) = true from decide_eq_true w, Bool.true_or, Bool.true_or]
      refine wp_iload_n dX3_hasNameOrAsk_2 rfl (wp_aload_n dX3_hasNameOrAsk_3 rfl rfl (gv3_36 dX3_hasNameOrAsk_4 ha k1 ?_))
      refine wn_icmp_ge dX3_hasNameOrAsk_7 rfl (by omega) (by omega) (fun c7 => absurd c7 (by omega)) (fun c7 => ?_)
      refine wp_aload_n dX3_hasNameOrAsk_10 rfl rfl (wp_iload_n dX3_hasNameOrAsk_11 rfl (wp_iv2 dX3_hasNameOrAsk_12 k3_117 q_X3_kindOf (by decide) ha (by decide) (Nat.le_of_ble_eq_true rfl) gk (wp_iconst (v := nI 3) dX3_hasNameOrAsk_15 rfl ?_)))
      refine wn_icmp_ne dX3_hasNameOrAsk_16 rfl (by omega) (by omega) (fun c16 => absurd c16 (by omega)) (fun c16 => ?_)
      exact wp_iconst (v := nI 1) dX3_hasNameOrAsk_19 rfl (wb_ret dX3_hasNameOrAsk_20 rfl rfl ⟨rfl, rfl⟩)
    · rw [show xk3 ((L.flatMap xcI).getD i (0, 0, 0)) = false from decide_eq_false w, Bool.false_or]
      have nx := ih (i + 1) (by omega)
      refine wp_iload_n dX3_hasNameOrAsk_2 rfl (wp_aload_n dX3_hasNameOrAsk_3 rfl rfl (gv3_36 dX3_hasNameOrAsk_4 ha k1 ?_))
      refine wn_icmp_ge dX3_hasNameOrAsk_7 rfl (by omega) (by omega) (fun c7 => absurd c7 (by omega)) (fun c7 => ?_)
      refine wp_aload_n dX3_hasNameOrAsk_10 rfl rfl (wp_iload_n dX3_hasNameOrAsk_11 rfl (wp_iv2 dX3_hasNameOrAsk_12 k3_117 q_X3_kindOf (by decide) ha (by decide) (Nat.le_of_ble_eq_true rfl) gk (wp_iconst (v := nI 3) dX3_hasNameOrAsk_15 rfl ?_)))
      refine wn_icmp_ne dX3_hasNameOrAsk_16 rfl (by omega) (by omega) (fun c16 => ?_) (fun c16 => absurd c16 (by omega))
      exact wp_iinc dX3_hasNameOrAsk_21 rfl (nI_1 _) ⟨Nat.le_of_ble_eq_true rfl, Or.inr rfl⟩ rfl (wp_goto dX3_hasNameOrAsk_24 rfl nx)
theorem c_hasNameOrAsk {a n : Nat} {t : Nat → Nat} {L : List xLn} (d : Nat) (ho : xRo a) {S : xS} (hX : XC S) (hV : xRV a S n t L) : xcall false (d + 2) j_X3_hasNameOrAsk [.ref a] S (some (.int (xB (xnoa L)))) S := by
  have lp := hn_loop (d := d) ho hX hV (L.flatMap xcI).length 0 (Nat.zero_add _)
  rw [List.drop_zero, xnoa_c] at lp
  refine xcall_intro (ls := [.ref a, .float 0]) q_X3_hasNameOrAsk (by decide) rfl (Nat.le_of_ble_eq_true rfl) rfl ?_
  exact wp_iconst (v := nI 0) dX3_hasNameOrAsk_0 rfl (wp_istore_n dX3_hasNameOrAsk_1 ⟨Nat.le_of_ble_eq_true rfl, Or.inr rfl⟩ rfl lp)
theorem c_last_no {c : xPx} {nn : Int64} (d : Nat) (ho : xzo c) {S : xS} (h : xCS S c) (hno : ¬ (∃ N n0 t L, nn = lN N ∧ 1 ≤ N ∧ N ≤ 1000000000000 ∧ c.2.2.2.2 (c.1.2.getD 0 0) = some (n0, t, L) ∧ xnoa L = false)) : xcall false (d + 4) j_X11_last [.ref 0, .long nn] S (some (.long (-1))) S := by
  obtain ⟨y, yb, yc, a, b, c', e, a2, b2, c2, e2, ρ, q1, q2, q3, q4, hX, q6, q7, q8, q9, q10, q11, q12, q13, q14⟩ := h
  have hy := (q1.sh hX).1
  have h06 : c.1.2.getD 0 0 < 6 := ho.1.2.2.2.2 _ (xmem_getD (d := 0) (show 0 < c.1.2.length from ho.1.2.2.1))
  have gr := c_rhymeAt (i := 0) (d + 3) q1 hX q11 ho.1.2.2.1
  obtain ⟨s17, snil, ssome⟩ := q9 _ h06
  have hro := q4.1 (c.1.2.getD 0 0) (by omega)
  cases hx : c.2.2.2.2 (c.1.2.getD 0 0) with
  | none =>
    have gh := c_rhymeIn_nil (d + 2) hro h06 hX s17 (snil hx)
    rcases Decidable.em (nn < lN 1) with w | w
    · skip
      refine xcall_intro (ls := [.ref 0, .long nn, .float 0, .float 0]) q_X11_last (by decide) rfl (Nat.le_of_ble_eq_true rfl) rfl ?_
      refine wp_aload_n dX11_last_0 rfl rfl (wp_aload_n dX11_last_1 rfl rfl (g10_36 dX11_last_2 (xsh hX sh_0) q6 (wp_iconst (v := nI 0) dX11_last_5 rfl (wp_iv2 dX11_last_6 k10_219 q_X10_rhymeAt (by decide) hy (by decide) (Nat.le_of_ble_eq_true rfl) gr (wp_iv2 dX11_last_9 k10_155 q_X11_rhymeIn (by decide) (xsh hX sh_0) (by decide) (Nat.le_of_ble_eq_true rfl) gh (wp_astore_n dX11_last_12 rfl ⟨Nat.le_of_ble_eq_true rfl, Or.inr rfl⟩ rfl (wp_lload_n dX11_last_13 rfl (wp_lconst (v := lN 1) dX11_last_14 rfl ?_))))))))
      refine wlr_lt dX11_last_15 dX11_last_16 rfl  (fun c15 => ?_) (fun c15 => absurd c15 (not_not_intro w))
      exact wp_ldc2 dX11_last_38 k10_227 rfl (wp_lreturn dX11_last_41 rfl ⟨rfl, rfl⟩)
    · rcases Decidable.em (lN 1000000000000 < nn) with w2 | w2
      · skip
        refine xcall_intro (ls := [.ref 0, .long nn, .float 0, .float 0]) q_X11_last (by decide) rfl (Nat.le_of_ble_eq_true rfl) rfl ?_
        refine wp_aload_n dX11_last_0 rfl rfl (wp_aload_n dX11_last_1 rfl rfl (g10_36 dX11_last_2 (xsh hX sh_0) q6 (wp_iconst (v := nI 0) dX11_last_5 rfl (wp_iv2 dX11_last_6 k10_219 q_X10_rhymeAt (by decide) hy (by decide) (Nat.le_of_ble_eq_true rfl) gr (wp_iv2 dX11_last_9 k10_155 q_X11_rhymeIn (by decide) (xsh hX sh_0) (by decide) (Nat.le_of_ble_eq_true rfl) gh (wp_astore_n dX11_last_12 rfl ⟨Nat.le_of_ble_eq_true rfl, Or.inr rfl⟩ rfl (wp_lload_n dX11_last_13 rfl (wp_lconst (v := lN 1) dX11_last_14 rfl ?_))))))))
        refine wlr_lt dX11_last_15 dX11_last_16 rfl  (fun c15 => absurd c15 w) (fun c15 => ?_)
        refine wp_lload_n dX11_last_19 rfl (wp_ldc2 dX11_last_20 k10_222 (show xKL 10 222 = lN 1000000000000 from rfl) ?_)
        refine wlr_gt dX11_last_23 dX11_last_24 rfl  (fun c23 => ?_) (fun c23 => absurd c23 (not_not_intro w2))
        exact wp_ldc2 dX11_last_38 k10_227 rfl (wp_lreturn dX11_last_41 rfl ⟨rfl, rfl⟩)
      · skip
        refine xcall_intro (ls := [.ref 0, .long nn, .float 0, .float 0]) q_X11_last (by decide) rfl (Nat.le_of_ble_eq_true rfl) rfl ?_
        refine wp_aload_n dX11_last_0 rfl rfl (wp_aload_n dX11_last_1 rfl rfl (g10_36 dX11_last_2 (xsh hX sh_0) q6 (wp_iconst (v := nI 0) dX11_last_5 rfl (wp_iv2 dX11_last_6 k10_219 q_X10_rhymeAt (by decide) hy (by decide) (Nat.le_of_ble_eq_true rfl) gr (wp_iv2 dX11_last_9 k10_155 q_X11_rhymeIn (by decide) (xsh hX sh_0) (by decide) (Nat.le_of_ble_eq_true rfl) gh (wp_astore_n dX11_last_12 rfl ⟨Nat.le_of_ble_eq_true rfl, Or.inr rfl⟩ rfl (wp_lload_n dX11_last_13 rfl (wp_lconst (v := lN 1) dX11_last_14 rfl ?_))))))))
        refine wlr_lt dX11_last_15 dX11_last_16 rfl  (fun c15 => absurd c15 w) (fun c15 => ?_)
        refine wp_lload_n dX11_last_19 rfl (wp_ldc2 dX11_last_20 k10_222 (show xKL 10 222 = lN 1000000000000 from rfl) ?_)
        refine wlr_gt dX11_last_23 dX11_last_24 rfl  (fun c23 => absurd c23 w2) (fun c23 => ?_)
        exact wp_aload_n dX11_last_27 rfl rfl (wp_ifnull_N dX11_last_28 rfl (wp_ldc2 dX11_last_38 k10_227 rfl (wp_lreturn dX11_last_41 rfl ⟨rfl, rfl⟩)))
  | some x =>
    obtain ⟨n0, t0, L⟩ := x
    obtain ⟨s9, hV⟩ := ssome n0 t0 L hx
    have gh := c_rhymeIn (d + 2) hro h06 hX s17 s9
    have hrs : S.1[ρ (c.1.2.getD 0 0)]? = some (3, 15) := (hro.sh hX).1
    rcases Decidable.em (nn < lN 1) with w | w
    · skip
      refine xcall_intro (ls := [.ref 0, .long nn, .float 0, .float 0]) q_X11_last (by decide) rfl (Nat.le_of_ble_eq_true rfl) rfl ?_
      refine wp_aload_n dX11_last_0 rfl rfl (wp_aload_n dX11_last_1 rfl rfl (g10_36 dX11_last_2 (xsh hX sh_0) q6 (wp_iconst (v := nI 0) dX11_last_5 rfl (wp_iv2 dX11_last_6 k10_219 q_X10_rhymeAt (by decide) hy (by decide) (Nat.le_of_ble_eq_true rfl) gr (wp_iv2 dX11_last_9 k10_155 q_X11_rhymeIn (by decide) (xsh hX sh_0) (by decide) (Nat.le_of_ble_eq_true rfl) gh (wp_astore_n dX11_last_12 rfl ⟨Nat.le_of_ble_eq_true rfl, Or.inr rfl⟩ rfl (wp_lload_n dX11_last_13 rfl (wp_lconst (v := lN 1) dX11_last_14 rfl ?_))))))))
      refine wlr_lt dX11_last_15 dX11_last_16 rfl  (fun c15 => ?_) (fun c15 => absurd c15 (not_not_intro w))
      exact wp_ldc2 dX11_last_38 k10_227 rfl (wp_lreturn dX11_last_41 rfl ⟨rfl, rfl⟩)
    · rcases Decidable.em (lN 1000000000000 < nn) with w2 | w2
      · skip
        refine xcall_intro (ls := [.ref 0, .long nn, .float 0, .float 0]) q_X11_last (by decide) rfl (Nat.le_of_ble_eq_true rfl) rfl ?_
        refine wp_aload_n dX11_last_0 rfl rfl (wp_aload_n dX11_last_1 rfl rfl (g10_36 dX11_last_2 (xsh hX sh_0) q6 (wp_iconst (v := nI 0) dX11_last_5 rfl (wp_iv2 dX11_last_6 k10_219 q_X10_rhymeAt (by decide) hy (by decide) (Nat.le_of_ble_eq_true rfl) gr (wp_iv2 dX11_last_9 k10_155 q_X11_rhymeIn (by decide) (xsh hX sh_0) (by decide) (Nat.le_of_ble_eq_true rfl) gh (wp_astore_n dX11_last_12 rfl ⟨Nat.le_of_ble_eq_true rfl, Or.inr rfl⟩ rfl (wp_lload_n dX11_last_13 rfl (wp_lconst (v := lN 1) dX11_last_14 rfl ?_))))))))
        refine wlr_lt dX11_last_15 dX11_last_16 rfl  (fun c15 => absurd c15 w) (fun c15 => ?_)
        refine wp_lload_n dX11_last_19 rfl (wp_ldc2 dX11_last_20 k10_222 (show xKL 10 222 = lN 1000000000000 from rfl) ?_)
        refine wlr_gt dX11_last_23 dX11_last_24 rfl  (fun c23 => ?_) (fun c23 => absurd c23 (not_not_intro w2))
        exact wp_ldc2 dX11_last_38 k10_227 rfl (wp_lreturn dX11_last_41 rfl ⟨rfl, rfl⟩)
      · have ga := c_hasNameOrAsk (d + 1) hro hX hV
        have hyes : xnoa L = true := by
          cases e0 : xnoa L with
          | true => rfl
          | false =>
            have h0 : ¬ nn < 0 := fun z => w (Int64.lt_trans z (by decide))
            obtain ⟨N, hN, rfl⟩ := pk_lOf h0
            exact absurd ⟨N, n0, t0, L, rfl, Nat.le_of_not_lt (fun z => w ((pk_lLT hN (by decide)).mpr z)), Nat.le_of_not_lt (fun z => w2 ((pk_lLT (by decide) hN).mpr z)), hx, e0⟩ hno
        rw [hyes] at ga
        refine xcall_intro (ls := [.ref 0, .long nn, .float 0, .float 0]) q_X11_last (by decide) rfl (Nat.le_of_ble_eq_true rfl) rfl ?_
        refine wp_aload_n dX11_last_0 rfl rfl (wp_aload_n dX11_last_1 rfl rfl (g10_36 dX11_last_2 (xsh hX sh_0) q6 (wp_iconst (v := nI 0) dX11_last_5 rfl (wp_iv2 dX11_last_6 k10_219 q_X10_rhymeAt (by decide) hy (by decide) (Nat.le_of_ble_eq_true rfl) gr (wp_iv2 dX11_last_9 k10_155 q_X11_rhymeIn (by decide) (xsh hX sh_0) (by decide) (Nat.le_of_ble_eq_true rfl) gh (wp_astore_n dX11_last_12 rfl ⟨Nat.le_of_ble_eq_true rfl, Or.inr rfl⟩ rfl (wp_lload_n dX11_last_13 rfl (wp_lconst (v := lN 1) dX11_last_14 rfl ?_))))))))
        refine wlr_lt dX11_last_15 dX11_last_16 rfl  (fun c15 => absurd c15 w) (fun c15 => ?_)
        refine wp_lload_n dX11_last_19 rfl (wp_ldc2 dX11_last_20 k10_222 (show xKL 10 222 = lN 1000000000000 from rfl) ?_)
        refine wlr_gt dX11_last_23 dX11_last_24 rfl  (fun c23 => absurd c23 w2) (fun c23 => ?_)
        refine wp_aload_n dX11_last_27 rfl rfl (wp_ifnull_R dX11_last_28 rfl (wp_aload_n dX11_last_31 rfl rfl (wp_iv1 dX11_last_32 k10_224 q_X3_hasNameOrAsk (by decide) hrs (by decide) (Nat.le_of_ble_eq_true rfl) ga ?_)))
        refine wb_if_eq dX11_last_35 rfl (fun c35 => absurd c35 (by decide)) (fun c35 => ?_)
        exact wp_ldc2 dX11_last_38 k10_227 rfl (wp_lreturn dX11_last_41 rfl ⟨rfl, rfl⟩)
theorem c_last {c : xPx} {N n0 : Nat} {t : Nat → Nat} {L : List xLn} (d : Nat) (ho : xzo c) {S : xS} (h : xCS S c) (h1 : 1 ≤ N) (h2 : N ≤ 1000000000000) (hx : c.2.2.2.2 (c.1.2.getD 0 0) = some (n0, t, L)) (hna : xnoa L = false) : xcall false (d + 4) j_X11_last [.ref 0, .long (lN N)] S (some (.long (lN (if xtot c.2.1 t (xzb c) L = 1 then N - 1 else xjo (xtot c.2.1 t (xzb c) L - 1) N)))) S := by
  obtain ⟨y, yb, yc, a, b, c', e, a2, b2, c2, e2, ρ, q1, q2, q3, q4, hX, q6, q7, q8, q9, q10, q11, q12, q13, q14⟩ := h
  have hy := (q1.sh hX).1
  have h06 : c.1.2.getD 0 0 < 6 := ho.1.2.2.2.2 _ (xmem_getD (d := 0) (show 0 < c.1.2.length from ho.1.2.2.1))
  have gr := c_rhymeAt (i := 0) (d + 3) q1 hX q11 ho.1.2.2.1
  obtain ⟨s17, snil, ssome⟩ := q9 _ h06
  have hro := q4.1 (c.1.2.getD 0 0) (by omega)
  obtain ⟨s9, hV⟩ := ssome n0 t L hx
  have gh := c_rhymeIn (d + 2) hro h06 hX s17 s9
  have ga := c_hasNameOrAsk (d + 1) hro hX hV
  rw [hna] at ga
  have gb := c_countsBeats (d + 3) q1 hX q11
  have gt := c_total (v := c.2.1) (d + 1) (xzb c) hro hX hV (q10 _ h06 n0 t L hx)
  obtain ⟨b1, b2⟩ := xtot_b ho h06 hx hna
  have gs := c_survivor (n := N) (k := xtot c.2.1 t (xzb c) L) (d + 3) b1 b2 h1 h2 (S := S)
  have hrs : S.1[ρ (c.1.2.getD 0 0)]? = some (3, 15) := (hro.sh hX).1
  refine xcall_intro (ls := [.ref 0, .long (lN N), .float 0, .float 0]) q_X11_last (by decide) rfl (Nat.le_of_ble_eq_true rfl) rfl ?_
  refine wp_aload_n dX11_last_0 rfl rfl (wp_aload_n dX11_last_1 rfl rfl (g10_36 dX11_last_2 (xsh hX sh_0) q6 (wp_iconst (v := nI 0) dX11_last_5 rfl (wp_iv2 dX11_last_6 k10_219 q_X10_rhymeAt (by decide) hy (by decide) (Nat.le_of_ble_eq_true rfl) gr (wp_iv2 dX11_last_9 k10_155 q_X11_rhymeIn (by decide) (xsh hX sh_0) (by decide) (Nat.le_of_ble_eq_true rfl) gh (wp_astore_n dX11_last_12 rfl ⟨Nat.le_of_ble_eq_true rfl, Or.inr rfl⟩ rfl (wp_lload_n dX11_last_13 rfl (wp_lconst (v := lN 1) dX11_last_14 rfl ?_))))))))
  refine wl_lt dX11_last_15 dX11_last_16 rfl (by omega) (by omega) (fun c15 => absurd c15 (by omega)) (fun c15 => ?_)
  refine wp_lload_n dX11_last_19 rfl (wp_ldc2 dX11_last_20 k10_222 (show xKL 10 222 = lN 1000000000000 from rfl) ?_)
  refine wl_gt dX11_last_23 dX11_last_24 rfl (by omega) (by omega) (fun c23 => absurd c23 (by omega)) (fun c23 => ?_)
  refine wp_aload_n dX11_last_27 rfl rfl (wp_ifnull_R dX11_last_28 rfl (wp_aload_n dX11_last_31 rfl rfl (wp_iv1 dX11_last_32 k10_224 q_X3_hasNameOrAsk (by decide) hrs (by decide) (Nat.le_of_ble_eq_true rfl) ga ?_)))
  refine wb_if_eq dX11_last_35 rfl (fun c35 => ?_) (fun c35 => absurd c35 (by decide))
  exact wp_lload_n dX11_last_42 rfl (wp_aload_n dX11_last_43 rfl rfl (wp_aload_n dX11_last_44 rfl rfl (g10_36 dX11_last_45 (xsh hX sh_0) q6 (wp_iv1 dX11_last_48 k10_229 q_X10_countsBeats (by decide) hy (by decide) (Nat.le_of_ble_eq_true rfl) gb (wp_iv2 dX11_last_51 k10_177 q_X3_total (by decide) hrs (by decide) (Nat.le_of_ble_eq_true rfl) gt (wp_is2 dX11_last_54 k10_232 q_X11_survivor (by decide) (Nat.le_of_ble_eq_true rfl) gs (wp_lreturn dX11_last_57 rfl ⟨rfl, rfl⟩)))))))
