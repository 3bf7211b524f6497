/-! a RHYME made ready to be COUNTED: the sums; learn of the class -/
/-- COUNTING through items from a place on; nm tells what a name there counts -/
def xsay (nm : Nat → Nat) (ct : xIt → Nat) : List xIt → Nat → Nat
  | [], p => p
  | o :: r, p => xsay nm ct r (p + if o.1 = 3 then nm p else ct o)
def xrp (f : Nat → Nat) : Nat → Nat → Nat
  | 0, p => p
  | n + 1, p => xrp f n (f p)
def xsaL (nm : Nat → Nat) (ct : xIt → Nat) : List xLn → Nat → Nat
  | [], p => p
  | ln :: r, p => xsaL nm ct r (xrp (xsay nm ct ln.2.2) ln.1 p)
/-- what is COUNTED ahead of each name, and behind the last one -/
def xgp (ct : xIt → Nat) (bt : Bool) : List xIt → Nat → List Nat
  | [], g => [g]
  | o :: r, g => if o.1 = 3 ∧ bt = true then g :: xgp ct bt r 0 else xgp ct bt r (g + if o.1 = 3 then 1 else ct o)
def xgpl (ct : xIt → Nat) (bt : Bool) (ln : xLn) : List Nat := xgp ct bt ln.2.2 0
def xsg (nm : Nat → Nat) : List Nat → Nat → Nat
  | [], p => p
  | x :: r, p => if r = [] then p + x else xsg nm r (p + x + nm (p + x))
theorem xgp_ne (ct : xIt → Nat) (bt : Bool) : ∀ (I : List xIt) (g : Nat), xgp ct bt I g ≠ []
  | [], g => by intro e; cases e
  | o :: r, g => by
    rw [xgp]
    split
    · intro e; cases e
    · exact xgp_ne ct bt r _
theorem xgp_len (ct : xIt → Nat) (bt : Bool) : ∀ (I : List xIt) (g : Nat), (xgp ct bt I g).length ≤ I.length + 1
  | [], g => Nat.le_refl _
  | o :: r, g => by
    rw [xgp]
    split
    · have := xgp_len ct bt r 0
      simp only [List.length_cons]
      omega
    · have := xgp_len ct bt r (g + if o.1 = 3 then 1 else ct o)
      simp only [List.length_cons]
      omega
theorem xsg_gp {nm : Nat → Nat} {ct : xIt → Nat} {bt : Bool} (h : bt = true ∨ ∀ p, nm p = 1) : ∀ (I : List xIt) (g p : Nat), xsg nm (xgp ct bt I g) p = xsay nm ct I (p + g)
  | [], g, p => by rw [xgp, xsg, if_pos rfl, xsay]
  | o :: r, g, p => by
    rw [xgp, xsay]
    split
    · rename_i w
      rw [xsg, if_neg (xgp_ne ct bt r 0), xsg_gp h r 0, if_pos w.1, Nat.add_zero]
    · rename_i w
      rw [xsg_gp h r]
      congr 1
      split
      · rename_i w2
        rcases h with q | q
        · exact absurd ⟨w2, q⟩ w
        · rw [q]; omega
      · omega
theorem xgp_cI (v : xTg) (t : Nat → Nat) (bt : Bool) (ln : xLn) : xgp (xct v t bt) bt (xcI ln) 0 = xgpl (xct v t bt) bt ln := by
  unfold xcI xgpl
  split
  · show xgp (xct v t bt) bt ((5, ln.2.1, 2) :: ln.2.2) 0 = _
    rw [xgp, if_neg (fun w => absurd (show (5 : Nat) = 3 from w.1) (by decide)), if_neg (show ¬ (5 : Nat) = 3 by decide)]
    rw [show xct v t bt (5, ln.2.1, 2) = 0 by unfold xct xbt; simp]
  · rfl
/-- whether a RHYME asks -/
def xask (L : List xLn) : Bool := (L.flatMap xmit).any (fun o => decide (o.1 = 4))
theorem xask_last {t : Nat → Nat} {n : Nat} {L : List xLn} (h : xRok t n L) : xask L = decide (((L.flatMap xcI).getD ((L.flatMap xcI).length - 1) (0, 0, 0)).1 = 4) := by
  obtain ⟨D, tm, st, I, o, e, hD, hI, _⟩ := h.2.2
  have e1 : L.flatMap xcI = (D.flatMap xcI ++ ((if 1 < tm then [(5, st, 2)] else []) ++ I)) ++ [o] := by
    rw [e, List.flatMap_append]
    simp [xcI]
  have e2 : L.flatMap xmit = (D.flatMap xmit ++ I) ++ [o] := by
    rw [e, List.flatMap_append]
    simp [xmit]
  unfold xask
  rw [e1, e2, List.any_append]
  have hno : (D.flatMap xmit ++ I).any (fun o => decide (o.1 = 4)) = false := by
    rw [List.any_eq_false]
    intro x hx
    rcases List.mem_append.mp hx with q | q
    · obtain ⟨ln, q1, q2⟩ := List.mem_flatMap.mp q
      rw [decide_eq_true_eq]
      exact hD ln q1 x q2
    · rw [decide_eq_true_eq]
      exact hI x q
  rw [hno, Bool.false_or, List.length_append, xgA _ _ _ _ (by simp)]
  rw [if_neg (by simp)]
  simp
/-- what is kept of a RHYME made ready, in the class's chant c -/
def xCo (c : Nat) : Prop := ∃ s, s < 6 ∧ c = 106 + 4 * s
def xCh (c : Nat) (S : xS) (ct : xIt → Nat) (bt : Bool) (L : List xLn) (r : Nat) : Prop := S.2.1 c 3 = nI L.length ∧ S.2.1 c 4 = nI r ∧ S.2.1 c 5 = xB (xask L) ∧ (∀ l, l ≤ L.length → S.2.1 (c + 2) l = nI (xof (xgpl ct bt) L l)) ∧ (∀ l, l < L.length → S.2.1 (c + 3) l = nI (L.getD l (0, 0, [])).1) ∧ (∀ i, i < (L.flatMap (xgpl ct bt)).length → S.2.1 (c + 1) i = nI ((L.flatMap (xgpl ct bt)).getD i 0))
theorem xCh.fr {c : Nat} {S S' : xS} {ct : xIt → Nat} {bt : Bool} {L : List xLn} {r : Nat} {P : Nat → Nat → Prop} (h : xCh c S ct bt L r) (hf : xFl P S S') (hn : ∀ i k, (i = c ∨ i = c + 1 ∨ i = c + 2 ∨ i = c + 3) → ¬ P i k) : xCh c S' ct bt L r :=
  ⟨hf.i h.1 (hn _ _ (by omega)), hf.i h.2.1 (hn _ _ (by omega)), hf.i h.2.2.1 (hn _ _ (by omega)), fun l hl => hf.i (h.2.2.2.1 l hl) (hn _ _ (by omega)), fun l hl => hf.i (h.2.2.2.2.1 l hl) (hn _ _ (by omega)), fun i hi => hf.i (h.2.2.2.2.2 i hi) (hn _ _ (by omega))⟩
theorem xRB.fr {a : Nat} {S S' : xS} {v : xTg} {t : Nat → Nat} {L : List xLn} {P : Nat → Nat → Prop} (h : xRB a S v t L) (hf : xFl P S S') (hn : ∀ k, ¬ P (a + 4) k) : xRB a S' v t L := fun i hi => hf.i (h i hi) (hn i)
theorem xCo.sh {c : Nat} (h : xCo c) {S : xS} (hX : XC S) : S.1[c]? = some (1, 6) ∧ S.1[c + 1]? = some (20, 136) ∧ S.1[c + 2]? = some (20, 17) ∧ S.1[c + 3]? = some (20, 16) ∧ S.2.2.1 c 0 = some (c + 1) ∧ S.2.2.1 c 1 = some (c + 2) ∧ S.2.2.1 c 2 = some (c + 3) := by
  obtain ⟨s, hs, rfl⟩ := h
  rcases (show s = 0 ∨ s = 1 ∨ s = 2 ∨ s = 3 ∨ s = 4 ∨ s = 5 by omega) with rfl | rfl | rfl | rfl | rfl | rfl
  · exact ⟨xsh hX sh_106, xsh hX sh_107, xsh hX sh_108, xsh hX sh_109, xrr hX r106_0, xrr hX r106_1, xrr hX r106_2⟩
  · exact ⟨xsh hX sh_110, xsh hX sh_111, xsh hX sh_112, xsh hX sh_113, xrr hX r110_0, xrr hX r110_1, xrr hX r110_2⟩
  · exact ⟨xsh hX sh_114, xsh hX sh_115, xsh hX sh_116, xsh hX sh_117, xrr hX r114_0, xrr hX r114_1, xrr hX r114_2⟩
  · exact ⟨xsh hX sh_118, xsh hX sh_119, xsh hX sh_120, xsh hX sh_121, xrr hX r118_0, xrr hX r118_1, xrr hX r118_2⟩
  · exact ⟨xsh hX sh_122, xsh hX sh_123, xsh hX sh_124, xsh hX sh_125, xrr hX r122_0, xrr hX r122_1, xrr hX r122_2⟩
  · exact ⟨xsh hX sh_126, xsh hX sh_127, xsh hX sh_128, xsh hX sh_129, xrr hX r126_0, xrr hX r126_1, xrr hX r126_2⟩
theorem c_putGap {c p : Nat} {gv : Int32} (d : Nat) (hco : xCo c) (hp : p < 136) {S : xS} (hX : XC S) : xcall false d j_X1_putGap [.ref c, .int (nI p), .int gv] S (some (.int (nI (p + 1)))) (xSI S (c + 1) p gv) := by
  obtain ⟨hc, hc1, hc2, hc3, rc0, rc1, rc2⟩ := hco.sh hX
  refine xcall_intro (ls := [.ref c, .int (nI p), .int gv]) q_X1_putGap (by decide) rfl (Nat.le_of_ble_eq_true rfl) rfl ?_
  refine wp_iload_n dX1_putGap_0 rfl ?_
  refine wn_if_lt dX1_putGap_1 rfl (by omega) ?_
  refine wp_iload_n dX1_putGap_4 rfl (wp_aload_n dX1_putGap_5 rfl rfl (g1_9 dX1_putGap_6 hc rc0 (wp_alen (v := nI 136) dX1_putGap_9 hc1 ⟨by decide, by decide⟩ rfl ?_)))
  refine wn_icmp_lt dX1_putGap_10 rfl (by omega) (by omega) (fun c10 => ?_) (fun c10 => absurd c10 (by omega))
  exact wp_aload_n dX1_putGap_15 rfl rfl (g1_9 dX1_putGap_16 hc rc0 (wp_iload_n dX1_putGap_19 rfl (wp_iload_n dX1_putGap_20 rfl (wn_iastore dX1_putGap_21 hc1 rfl (by omega) (by decide) (wp_iload_n dX1_putGap_22 rfl (wp_iconst (v := nI 1) dX1_putGap_23 rfl (wv_iadd dX1_putGap_24 (nI_add _ _) (wp_ireturn dX1_putGap_25 rfl rfl ⟨rfl, rfl⟩))))))))
theorem c_gapAt {c p : Nat} {v : Int32} (d : Nat) (hco : xCo c) (hp : p < 136) {S : xS} (hX : XC S) (hv : S.2.1 (c + 1) p = v) : xcall false d j_X1_gapAt [.ref c, .int (nI p)] S (some (.int v)) S := by
  obtain ⟨hc, hc1, hc2, hc3, rc0, rc1, rc2⟩ := hco.sh hX
  refine xcall_intro (ls := [.ref c, .int (nI p)]) q_X1_gapAt (by decide) rfl (Nat.le_of_ble_eq_true rfl) rfl ?_
  refine wp_iload_n dX1_gapAt_0 rfl ?_
  refine wn_if_lt dX1_gapAt_1 rfl (by omega) ?_
  refine wp_iload_n dX1_gapAt_4 rfl (wp_aload_n dX1_gapAt_5 rfl rfl (g1_9 dX1_gapAt_6 hc rc0 (wp_alen (v := nI 136) dX1_gapAt_9 hc1 ⟨by decide, by decide⟩ rfl ?_)))
  refine wn_icmp_ge dX1_gapAt_10 rfl (by omega) (by omega) (fun c10 => absurd c10 (by omega)) (fun c10 => ?_)
  exact wp_aload_n dX1_gapAt_13 rfl rfl (g1_9 dX1_gapAt_14 hc rc0 (wp_iload_n dX1_gapAt_17 rfl (wn_iaload dX1_gapAt_18 hc1 rfl (by omega) (by decide) hv (wp_goto dX1_gapAt_19 rfl (wp_ireturn dX1_gapAt_23 rfl rfl ⟨rfl, rfl⟩)))))
theorem c_hasAsk {a n : Nat} {t : Nat → Nat} {L : List xLn} (d : Nat) (ho : xRo a) {S : xS} (hX : XC S) (hV : xRV a S n t L) : xcall false (d + 1) j_X3_hasAsk [.ref a] S (some (.int (xB (xask L)))) S := by
  have ha := (ho.sh hX).1
  have k1 := hV.2.2.1
  have ok := hV.2.2.2.2.2.2.1
  have hn := hV.2.2.2.2.2.2.2.1
  have h120 := xRok_120 ok hn
  have hpos : 0 < (L.flatMap xcI).length := by
    have h1 := xRok_1 ok
    have h2 := xof_lt ok (show 0 < L.length by omega) (xcI_pos (xRok_ln ok (show 0 < L.length by omega)))
    omega
  have gk := c_kindOf d ho hX hV (show (L.flatMap xcI).length - 1 < (L.flatMap xcI).length by omega)
  have hk : ((L.flatMap xcI).getD ((L.flatMap xcI).length - 1) (0, 0, 0)).1 ≤ 5 := by
    rcases xRok_mem ok (xmem_getD (d := (0, 0, 0)) (show (L.flatMap xcI).length - 1 < (L.flatMap xcI).length by omega)) with q | q
    · have := q.2.2.2.2.2; omega
    · have := q.1; omega
  rw [xask_last ok]
  rcases Decidable.em (((L.flatMap xcI).getD ((L.flatMap xcI).length - 1) (0, 0, 0)).1 = 4) with w | w
  · rw [decide_eq_true w]
    refine xcall_intro (ls := [.ref a]) q_X3_hasAsk (by decide) rfl (Nat.le_of_ble_eq_true rfl) rfl ?_
    refine wp_aload_n dX3_hasAsk_0 rfl rfl (wp_aload_n dX3_hasAsk_1 rfl rfl (gv3_36 dX3_hasAsk_2 ha k1 (wp_iconst (v := nI 1) dX3_hasAsk_5 rfl (wv_isub dX3_hasAsk_6 (pk_sub (by omega)) (wp_iv2 dX3_hasAsk_7 k3_117 q_X3_kindOf (by decide) ha (by decide) (Nat.le_of_ble_eq_true rfl) gk (wp_iconst (v := nI 4) dX3_hasAsk_10 rfl ?_))))))
    refine wn_icmp_ne dX3_hasAsk_11 rfl (by omega) (by omega) (fun c11 => absurd c11 (by omega)) (fun c11 => ?_)
    exact wp_iconst (v := nI 1) dX3_hasAsk_14 rfl (wp_goto dX3_hasAsk_15 rfl (wb_ret dX3_hasAsk_19 rfl rfl ⟨rfl, rfl⟩))
  · rw [decide_eq_false w]
    refine xcall_intro (ls := [.ref a]) q_X3_hasAsk (by decide) rfl (Nat.le_of_ble_eq_true rfl) rfl ?_
    refine wp_aload_n dX3_hasAsk_0 rfl rfl (wp_aload_n dX3_hasAsk_1 rfl rfl (gv3_36 dX3_hasAsk_2 ha k1 (wp_iconst (v := nI 1) dX3_hasAsk_5 rfl (wv_isub dX3_hasAsk_6 (pk_sub (by omega)) (wp_iv2 dX3_hasAsk_7 k3_117 q_X3_kindOf (by decide) ha (by decide) (Nat.le_of_ble_eq_true rfl) gk (wp_iconst (v := nI 4) dX3_hasAsk_10 rfl ?_))))))
    refine wn_icmp_ne dX3_hasAsk_11 rfl (by omega) (by omega) (fun c11 => ?_) (fun c11 => absurd c11 (by omega))
    exact wp_iconst (v := nI 0) dX3_hasAsk_18 rfl (wb_ret dX3_hasAsk_19 rfl rfl ⟨rfl, rfl⟩)
