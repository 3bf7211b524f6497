/-! alike of the class -/
theorem xfeet_1 {v : xTg} {t : Nat → Nat} {ln : xLn} {x : Nat} (h : x ∈ xfeet v t ln) : x ≤ 1 := by
  unfold xfeet at h
  obtain ⟨o, _, h2⟩ := List.mem_flatMap.mp h
  unfold xft at h2
  obtain ⟨f, _, rfl⟩ := List.mem_map.mp h2
  exact xftb_1 v t o f
theorem xeq_get {l m : List Nat} (hl : l.length = m.length) (h : ∀ k, k < l.length → l.getD k 0 = m.getD k 0) : l = m := by
  refine List.ext_getElem hl (fun k h1 h2 => ?_)
  have := h k h1
  simpa [List.getD_eq_getElem?_getD, List.getElem?_eq_getElem h1, List.getElem?_eq_getElem h2] using this
/-- whether two lines are alike -/
def xalk (v : xTg) (t1 t2 : Nat → Nat) (L1 L2 : List xLn) (l : Nat) : Bool := decide ((L1.getD l (0, 0, [])).1 = (L2.getD l (0, 0, [])).1 ∧ (xfeet v t1 (L1.getD l (0, 0, []))) = (xfeet v t2 (L2.getD l (0, 0, []))))
/-- how many first lines are alike -/
def xlks (v : xTg) (t1 t2 : Nat → Nat) (L1 L2 : List xLn) : Nat → Nat → Nat
  | 0, l => l
  | j + 1, l => if xalk v t1 t2 L1 L2 l = true then xlks v t1 t2 L1 L2 j (l + 1) else l
theorem al_cmp {a b ta l d : Nat} {m1 m2 : List Nat} {S : xS} (hX : XC S) (hl : m1.length = m2.length) (h240 : m1.length ≤ 240) (h1 : ∀ x ∈ m1, x ≤ 1) (h2 : ∀ x ∈ m2, x ≤ 1) (r1 : xrow S 134 m1) (r2 : xrow S 135 m2) : ∀ (j k : Nat), k + j = m1.length → (∀ q, q < k → m1.getD q 0 = m2.getD q 0) → Wp false (d + 3) 0 cX0_isLikeLine (some .boolean) false 47 [.ref 133, .ref a, .ref b, .int (nI l), .ref ta, .int (nI m1.length), .int (nI k)] [] S (fun r S' => r = some (.int (xB (decide (m1 = m2)))) ∧ S' = S) := by
  intro j
  induction j with
  | zero =>
    intro k hk h
    have hkk : k = m1.length := by omega
    subst hkk
    have e := xeq_get hl h
    refine wp_iload dX0_isLikeLine_47 rfl (wp_iload dX0_isLikeLine_49 rfl ?_)
    refine wn_icmp_ge dX0_isLikeLine_51 rfl (by omega) (by omega) (fun c51 => ?_) (fun c51 => absurd c51 (by omega))
    exact wp_iconst (v := nI 1) dX0_isLikeLine_89 rfl (wb_ret dX0_isLikeLine_90 rfl (xB_of_t (decide_eq_true e)) ⟨rfl, rfl⟩)
  | succ j ih =>
    intro k hk h
    have q1 := r1 k (by omega)
    have q2 := r2 k (by omega)
    have b1 := h1 _ (xmem_getD (d := 0) (show k < m1.length by omega))
    have b2 := h2 _ (xmem_getD (d := 0) (show k < m2.length by omega))
    rcases Decidable.em (m1.getD k 0 = m2.getD k 0) with e | e
    · refine wp_iload dX0_isLikeLine_47 rfl (wp_iload dX0_isLikeLine_49 rfl ?_)
      refine wn_icmp_ge dX0_isLikeLine_51 rfl (by omega) (by omega) (fun c51 => absurd c51 (by omega)) (fun c51 => ?_)
      refine wp_iload dX0_isLikeLine_54 rfl (wp_aload_n dX0_isLikeLine_56 rfl rfl (g0_11 dX0_isLikeLine_57 (xsh hX sh_133) (xrr hX r133_0) (wp_alen (v := nI 240) dX0_isLikeLine_60 (xsh hX sh_134) ⟨by decide, by decide⟩ rfl ?_)))
      refine wn_icmp_ge dX0_isLikeLine_61 rfl (by omega) (by omega) (fun c61 => absurd c61 (by omega)) (fun c61 => ?_)
      refine wp_aload_n dX0_isLikeLine_64 rfl rfl (g0_11 dX0_isLikeLine_65 (xsh hX sh_133) (xrr hX r133_0) (wp_iload dX0_isLikeLine_68 rfl (wn_caload dX0_isLikeLine_70 (xsh hX sh_134) rfl (by omega) (by decide) q1 (wp_aload_n dX0_isLikeLine_71 rfl rfl (g0_17 dX0_isLikeLine_72 (xsh hX sh_133) (xrr hX r133_1) (wp_iload dX0_isLikeLine_75 rfl (wn_caload dX0_isLikeLine_77 (xsh hX sh_135) rfl (by omega) (by decide) q2 ?_)))))))
      refine wn_icmp_eq dX0_isLikeLine_78 rfl (by omega) (by omega) (fun c78 => ?_) (fun c78 => absurd c78 (by omega))
      refine wp_iinc dX0_isLikeLine_83 rfl (nI_1 _) ⟨Nat.le_of_ble_eq_true rfl, Or.inr rfl⟩ rfl (wp_goto dX0_isLikeLine_86 rfl ?_)
      refine ih (k + 1) (by omega) (fun q hq => ?_)
      rcases Nat.lt_or_ge q k with w | w
      · exact h q w
      · rw [show q = k by omega]; exact e
    · have ne : m1 ≠ m2 := fun w => e (by rw [w])
      refine wp_iload dX0_isLikeLine_47 rfl (wp_iload dX0_isLikeLine_49 rfl ?_)
      refine wn_icmp_ge dX0_isLikeLine_51 rfl (by omega) (by omega) (fun c51 => absurd c51 (by omega)) (fun c51 => ?_)
      refine wp_iload dX0_isLikeLine_54 rfl (wp_aload_n dX0_isLikeLine_56 rfl rfl (g0_11 dX0_isLikeLine_57 (xsh hX sh_133) (xrr hX r133_0) (wp_alen (v := nI 240) dX0_isLikeLine_60 (xsh hX sh_134) ⟨by decide, by decide⟩ rfl ?_)))
      refine wn_icmp_ge dX0_isLikeLine_61 rfl (by omega) (by omega) (fun c61 => absurd c61 (by omega)) (fun c61 => ?_)
      refine wp_aload_n dX0_isLikeLine_64 rfl rfl (g0_11 dX0_isLikeLine_65 (xsh hX sh_133) (xrr hX r133_0) (wp_iload dX0_isLikeLine_68 rfl (wn_caload dX0_isLikeLine_70 (xsh hX sh_134) rfl (by omega) (by decide) q1 (wp_aload_n dX0_isLikeLine_71 rfl rfl (g0_17 dX0_isLikeLine_72 (xsh hX sh_133) (xrr hX r133_1) (wp_iload dX0_isLikeLine_75 rfl (wn_caload dX0_isLikeLine_77 (xsh hX sh_135) rfl (by omega) (by decide) q2 ?_)))))))
      refine wn_icmp_eq dX0_isLikeLine_78 rfl (by omega) (by omega) (fun c78 => absurd c78 (by omega)) (fun c78 => ?_)
      exact wp_iconst (v := nI 0) dX0_isLikeLine_81 rfl (wb_ret dX0_isLikeLine_82 rfl (xB_of_f (decide_eq_false ne)) ⟨rfl, rfl⟩)
theorem c_isLikeLine {a b n1 n2 ta tb tc : Nat} {t1 t2 : Nat → Nat} {L1 L2 : List xLn} {v : xTg} {l : Nat} (d : Nat) (ho : xRo a) (hob : xRo b) (htg : xTgC ta tb tc) {S : xS} (hX : XC S) (hV1 : xRV a S n1 t1 L1) (hB1 : xRB a S v t1 L1) (hV2 : xRV b S n2 t2 L2) (hB2 : xRB b S v t2 L2) (hT : xTgV ta tb tc S v) (hl1 : l < L1.length) (hl2 : l < L2.length) : ∃ S', xcall false (d + 3) j_X0_isLikeLine [.ref 133, .ref a, .ref b, .int (nI l), .ref ta] S (some (.int (xB (xalk v t1 t2 L1 L2 l)))) S' ∧ xFl (fun i _ => i = 134 ∨ i = 135) S S' := by
  have hm1 := ho.m
  have hm2 := hob.m
  have htu := htg
  unfold xTgC at htu
  obtain ⟨S1, g1, f1, r1⟩ := c_feetInto (r := 134) d ho htg (Or.inr (Or.inl rfl)) hl1 hX hV1 hB1 hT
  have X1 := f1.XC hX
  have V1 := hV1.fm (f1.m (R := fun _ _ => False)) (fun i k h => by omega)
  have V2 := hV2.fm (f1.m (R := fun _ _ => False)) (fun i k h => by omega)
  have B2 : xRB b S1 v t2 L2 := fun i hi => f1.i (hB2 i hi) (by omega)
  have gt1 := c_timesOf (d + 1) ho X1 V1 hl1
  have gt2 := c_timesOf (d + 1) hob X1 V2 hl2
  have w1 := (xRok_ln V1.2.2.2.2.2.2.1 hl1).2.1
  have w2 := (xRok_ln V2.2.2.2.2.2.2.1 hl2).2.1
  have n1l := xfeet_len (v := v) V1.2.2.2.2.2.2.1 hl1
  have n2l := xfeet_len (v := v) V2.2.2.2.2.2.2.1 hl2
  have n1 := V1.2.2.2.2.2.2.2.1
  have n2 := V2.2.2.2.2.2.2.2.1
  have F1 : xFl (fun i _ => i = 134 ∨ i = 135) S S1 := f1.mono (fun i k h => Or.inl h)
  rcases Decidable.em ((L1.getD l (0, 0, [])).1 = (L2.getD l (0, 0, [])).1) with et | et
  · obtain ⟨S2, g2, f2, r2⟩ := c_feetInto (r := 135) d hob htg (Or.inr (Or.inr rfl)) hl2 X1 V2 B2 (hT.fr _ _ _ _ f1 (fun i k h => by omega))
    have X2 := f2.XC X1
    have F2 : xFl (fun i _ => i = 134 ∨ i = 135) S S2 := F1.tt (f2.mono (fun i k h => Or.inr h))
    rcases Decidable.em ((xfeet v t1 (L1.getD l (0, 0, []))).length = (xfeet v t2 (L2.getD l (0, 0, []))).length) with el | el
    · have e : xalk v t1 t2 L1 L2 l = decide ((xfeet v t1 (L1.getD l (0, 0, []))) = (xfeet v t2 (L2.getD l (0, 0, [])))) := by unfold xalk; rw [decide_eq_decide]; exact ⟨fun w => w.2, fun w => ⟨et, w⟩⟩
      rw [e]
      refine ⟨S2, ?_, F2⟩
      refine xcall_intro (ls := [.ref 133, .ref a, .ref b, .int (nI l), .ref ta, .float 0, .float 0]) q_X0_isLikeLine (by decide) rfl (Nat.le_of_ble_eq_true rfl) rfl ?_
      refine wp_aload_n dX0_isLikeLine_0 rfl rfl (wp_iload_n dX0_isLikeLine_1 rfl (wp_aload dX0_isLikeLine_2 rfl rfl (wp_aload_n dX0_isLikeLine_4 rfl rfl (g0_11 dX0_isLikeLine_5 (xsh hX sh_133) (xrr hX r133_0) (wp_iv4 dX0_isLikeLine_8 k0_52 q_X3_feetInto (by decide) (by first | exact (ho.sh X1).1 | exact (ho.sh hX).1) (by decide) (Nat.le_of_ble_eq_true rfl) g1 (wp_istore dX0_isLikeLine_11 ⟨Nat.le_of_ble_eq_true rfl, Or.inr rfl⟩ rfl (wp_aload_n dX0_isLikeLine_13 rfl rfl (wp_iload_n dX0_isLikeLine_14 rfl (wp_iv2 dX0_isLikeLine_15 k0_56 q_X3_timesOf (by decide) (by first | exact (ho.sh X1).1 | exact (ho.sh hX).1) (by decide) (Nat.le_of_ble_eq_true rfl) gt1 (wp_aload_n dX0_isLikeLine_18 rfl rfl (wp_iload_n dX0_isLikeLine_19 rfl (wp_iv2 dX0_isLikeLine_20 k0_56 q_X3_timesOf (by decide) (by first | exact (hob.sh X1).1 | exact (hob.sh hX).1) (by decide) (Nat.le_of_ble_eq_true rfl) gt2 ?_))))))))))))
      refine wn_icmp_ne dX0_isLikeLine_23 rfl (by omega) (by omega) (fun c23 => absurd c23 (by omega)) (fun c23 => ?_)
      refine wp_iload dX0_isLikeLine_26 rfl (wp_aload_n dX0_isLikeLine_28 rfl rfl (wp_iload_n dX0_isLikeLine_29 rfl (wp_aload dX0_isLikeLine_30 rfl rfl (wp_aload_n dX0_isLikeLine_32 rfl rfl (g0_17 dX0_isLikeLine_33 (xsh X1 sh_133) (xrr X1 r133_1) (wp_iv4 dX0_isLikeLine_36 k0_52 q_X3_feetInto (by decide) (by first | exact (hob.sh X1).1 | exact (hob.sh hX).1) (by decide) (Nat.le_of_ble_eq_true rfl) g2 ?_))))))
      refine wn_icmp_eq dX0_isLikeLine_39 rfl (by omega) (by omega) (fun c39 => ?_) (fun c39 => absurd c39 (by omega))
      exact wp_iconst (v := nI 0) dX0_isLikeLine_44 rfl (wp_istore dX0_isLikeLine_45 ⟨Nat.le_of_ble_eq_true rfl, Or.inr rfl⟩ rfl (al_cmp X2 el (by omega) (fun x hx => xfeet_1 hx) (fun x hx => xfeet_1 hx) (fun k hk => f2.i (r1 k hk) (by omega)) r2 _ 0 (Nat.zero_add _) (fun q hq => absurd hq (Nat.not_lt_zero q))))
    · have e : xalk v t1 t2 L1 L2 l = false := decide_eq_false (fun w => el (by rw [w.2]))
      rw [e]
      refine ⟨S2, ?_, F2⟩
      refine xcall_intro (ls := [.ref 133, .ref a, .ref b, .int (nI l), .ref ta, .float 0, .float 0]) q_X0_isLikeLine (by decide) rfl (Nat.le_of_ble_eq_true rfl) rfl ?_
      refine wp_aload_n dX0_isLikeLine_0 rfl rfl (wp_iload_n dX0_isLikeLine_1 rfl (wp_aload dX0_isLikeLine_2 rfl rfl (wp_aload_n dX0_isLikeLine_4 rfl rfl (g0_11 dX0_isLikeLine_5 (xsh hX sh_133) (xrr hX r133_0) (wp_iv4 dX0_isLikeLine_8 k0_52 q_X3_feetInto (by decide) (by first | exact (ho.sh X1).1 | exact (ho.sh hX).1) (by decide) (Nat.le_of_ble_eq_true rfl) g1 (wp_istore dX0_isLikeLine_11 ⟨Nat.le_of_ble_eq_true rfl, Or.inr rfl⟩ rfl (wp_aload_n dX0_isLikeLine_13 rfl rfl (wp_iload_n dX0_isLikeLine_14 rfl (wp_iv2 dX0_isLikeLine_15 k0_56 q_X3_timesOf (by decide) (by first | exact (ho.sh X1).1 | exact (ho.sh hX).1) (by decide) (Nat.le_of_ble_eq_true rfl) gt1 (wp_aload_n dX0_isLikeLine_18 rfl rfl (wp_iload_n dX0_isLikeLine_19 rfl (wp_iv2 dX0_isLikeLine_20 k0_56 q_X3_timesOf (by decide) (by first | exact (hob.sh X1).1 | exact (hob.sh hX).1) (by decide) (Nat.le_of_ble_eq_true rfl) gt2 ?_))))))))))))
      refine wn_icmp_ne dX0_isLikeLine_23 rfl (by omega) (by omega) (fun c23 => absurd c23 (by omega)) (fun c23 => ?_)
      refine wp_iload dX0_isLikeLine_26 rfl (wp_aload_n dX0_isLikeLine_28 rfl rfl (wp_iload_n dX0_isLikeLine_29 rfl (wp_aload dX0_isLikeLine_30 rfl rfl (wp_aload_n dX0_isLikeLine_32 rfl rfl (g0_17 dX0_isLikeLine_33 (xsh X1 sh_133) (xrr X1 r133_1) (wp_iv4 dX0_isLikeLine_36 k0_52 q_X3_feetInto (by decide) (by first | exact (hob.sh X1).1 | exact (hob.sh hX).1) (by decide) (Nat.le_of_ble_eq_true rfl) g2 ?_))))))
      refine wn_icmp_eq dX0_isLikeLine_39 rfl (by omega) (by omega) (fun c39 => absurd c39 (by omega)) (fun c39 => ?_)
      exact wp_iconst (v := nI 0) dX0_isLikeLine_42 rfl (wb_ret dX0_isLikeLine_43 rfl rfl ⟨rfl, rfl⟩)
  · have e : xalk v t1 t2 L1 L2 l = false := decide_eq_false (fun w => et w.1)
    rw [e]
    refine ⟨S1, ?_, F1⟩
    refine xcall_intro (ls := [.ref 133, .ref a, .ref b, .int (nI l), .ref ta, .float 0, .float 0]) q_X0_isLikeLine (by decide) rfl (Nat.le_of_ble_eq_true rfl) rfl ?_
    refine wp_aload_n dX0_isLikeLine_0 rfl rfl (wp_iload_n dX0_isLikeLine_1 rfl (wp_aload dX0_isLikeLine_2 rfl rfl (wp_aload_n dX0_isLikeLine_4 rfl rfl (g0_11 dX0_isLikeLine_5 (xsh hX sh_133) (xrr hX r133_0) (wp_iv4 dX0_isLikeLine_8 k0_52 q_X3_feetInto (by decide) (by first | exact (ho.sh X1).1 | exact (ho.sh hX).1) (by decide) (Nat.le_of_ble_eq_true rfl) g1 (wp_istore dX0_isLikeLine_11 ⟨Nat.le_of_ble_eq_true rfl, Or.inr rfl⟩ rfl (wp_aload_n dX0_isLikeLine_13 rfl rfl (wp_iload_n dX0_isLikeLine_14 rfl (wp_iv2 dX0_isLikeLine_15 k0_56 q_X3_timesOf (by decide) (by first | exact (ho.sh X1).1 | exact (ho.sh hX).1) (by decide) (Nat.le_of_ble_eq_true rfl) gt1 (wp_aload_n dX0_isLikeLine_18 rfl rfl (wp_iload_n dX0_isLikeLine_19 rfl (wp_iv2 dX0_isLikeLine_20 k0_56 q_X3_timesOf (by decide) (by first | exact (hob.sh X1).1 | exact (hob.sh hX).1) (by decide) (Nat.le_of_ble_eq_true rfl) gt2 ?_))))))))))))
    refine wn_icmp_ne dX0_isLikeLine_23 rfl (by omega) (by omega) (fun c23 => ?_) (fun c23 => absurd c23 (by omega))
    exact wp_iconst (v := nI 0) dX0_isLikeLine_42 rfl (wb_ret dX0_isLikeLine_43 rfl rfl ⟨rfl, rfl⟩)
theorem al_loop {a b n1 n2 ta tb tc : Nat} {t1 t2 : Nat → Nat} {L1 L2 : List xLn} {v : xTg} {d : Nat} (ho : xRo a) (hob : xRo b) (htg : xTgC ta tb tc) : ∀ (j l : Nat) (S : xS), l + j = min L1.length L2.length → XC S → xRV a S n1 t1 L1 → xRB a S v t1 L1 → xRV b S n2 t2 L2 → xRB b S v t2 L2 → xTgV ta tb tc S v → Wp false (d + 4) 0 cX0_likeLines (some .int) false 16 [.ref 133, .ref a, .ref b, .ref ta, .int (nI (min L1.length L2.length)), .int (nI l)] [] S (fun r S' => r = some (.int (nI (xlks v t1 t2 L1 L2 j l))) ∧ xFl (fun i _ => i = 134 ∨ i = 135) S S') := by
  intro j
  induction j with
  | zero =>
    intro l S hl hX hV1 hB1 hV2 hB2 hT
    have h16 := hV1.2.2.2.2.2.2.2.2.1
    have hll : l = min L1.length L2.length := by omega
    have e : xlks v t1 t2 L1 L2 0 l = min L1.length L2.length := hll
    rw [e]
    refine wp_iload dX0_likeLines_16 rfl (wp_iload dX0_likeLines_18 rfl ?_)
    refine wn_icmp_ge dX0_likeLines_20 rfl (by omega) (by omega) (fun c20 => ?_) (fun c20 => absurd c20 (by omega))
    exact wp_iload dX0_likeLines_44 rfl (wp_ireturn dX0_likeLines_46 rfl rfl ⟨rfl, xFl.rf S⟩)
  | succ j ih =>
    intro l S hl hX hV1 hB1 hV2 hB2 hT
    have h16 := hV1.2.2.2.2.2.2.2.2.1
    have hm1 := ho.m
    have hm2 := hob.m
    have htu := htg
    unfold xTgC at htu
    obtain ⟨S1, g1, f1⟩ := c_isLikeLine (l := l) d ho hob htg hX hV1 hB1 hV2 hB2 hT (by omega) (by omega)
    have X1 := f1.XC hX
    cases hk : xalk v t1 t2 L1 L2 l with
    | true =>
      rw [hk] at g1
      have e : xlks v t1 t2 L1 L2 (j + 1) l = xlks v t1 t2 L1 L2 j (l + 1) := by rw [xlks, if_pos hk]
      rw [e]
      refine wp_iload dX0_likeLines_16 rfl (wp_iload dX0_likeLines_18 rfl ?_)
      refine wn_icmp_ge dX0_likeLines_20 rfl (by omega) (by omega) (fun c20 => absurd c20 (by omega)) (fun c20 => ?_)
      refine wp_aload_n dX0_likeLines_23 rfl rfl (wp_aload_n dX0_likeLines_24 rfl rfl (wp_aload_n dX0_likeLines_25 rfl rfl (wp_iload dX0_likeLines_26 rfl (wp_aload_n dX0_likeLines_28 rfl rfl (wp_iv5 dX0_likeLines_29 k0_48 q_X0_isLikeLine (by decide) (xsh hX sh_133) (by decide) (Nat.le_of_ble_eq_true rfl) g1 ?_)))))
      refine wb_if_ne dX0_likeLines_32 rfl (fun c32 => ?_) (fun c32 => absurd c32 (by decide))
      refine wp_iinc dX0_likeLines_38 rfl (nI_1 _) ⟨Nat.le_of_ble_eq_true rfl, Or.inr rfl⟩ rfl (wp_goto dX0_likeLines_41 rfl ?_)
      refine (ih (l + 1) S1 (by omega) X1 (hV1.fm (f1.m (R := fun _ _ => False)) (fun i k h => by omega)) (fun i hi => f1.i (hB1 i hi) (by omega)) (hV2.fm (f1.m (R := fun _ _ => False)) (fun i k h => by omega)) (fun i hi => f1.i (hB2 i hi) (by omega)) (hT.fr _ _ _ _ f1 (fun i k h => by omega))).mono ?_
      rintro r S' ⟨z1, z2⟩
      exact ⟨z1, f1.tt z2⟩
    | false =>
      rw [hk] at g1
      have e : xlks v t1 t2 L1 L2 (j + 1) l = l := by rw [xlks, if_neg (by rw [hk]; decide)]
      rw [e]
      refine wp_iload dX0_likeLines_16 rfl (wp_iload dX0_likeLines_18 rfl ?_)
      refine wn_icmp_ge dX0_likeLines_20 rfl (by omega) (by omega) (fun c20 => absurd c20 (by omega)) (fun c20 => ?_)
      refine wp_aload_n dX0_likeLines_23 rfl rfl (wp_aload_n dX0_likeLines_24 rfl rfl (wp_aload_n dX0_likeLines_25 rfl rfl (wp_iload dX0_likeLines_26 rfl (wp_aload_n dX0_likeLines_28 rfl rfl (wp_iv5 dX0_likeLines_29 k0_48 q_X0_isLikeLine (by decide) (xsh hX sh_133) (by decide) (Nat.le_of_ble_eq_true rfl) g1 ?_)))))
      refine wb_if_ne dX0_likeLines_32 rfl (fun c32 => absurd c32 (by decide)) (fun c32 => ?_)
      exact wp_iload dX0_likeLines_35 rfl (wp_ireturn dX0_likeLines_37 rfl rfl ⟨rfl, f1⟩)
theorem c_likeLines {a b n1 n2 ta tb tc : Nat} {t1 t2 : Nat → Nat} {L1 L2 : List xLn} {v : xTg} (d : Nat) (ho : xRo a) (hob : xRo b) (htg : xTgC ta tb tc) {S : xS} (hX : XC S) (hV1 : xRV a S n1 t1 L1) (hB1 : xRB a S v t1 L1) (hV2 : xRV b S n2 t2 L2) (hB2 : xRB b S v t2 L2) (hT : xTgV ta tb tc S v) : ∃ S', xcall false (d + 4) j_X0_likeLines [.ref 133, .ref a, .ref b, .ref ta] S (some (.int (nI (xlks v t1 t2 L1 L2 (min L1.length L2.length) 0)))) S' ∧ xFl (fun i _ => i = 134 ∨ i = 135) S S' := by
  have k1 := hV1.2.2.2.2.1
  have k2 := hV2.2.2.2.2.1
  have h16 := hV1.2.2.2.2.2.2.2.2.1
  have h162 := hV2.2.2.2.2.2.2.2.2.1
  have ha := (ho.sh hX).1
  have hb := (hob.sh hX).1
  have key : ∃ r S', xcall false (d + 4) j_X0_likeLines [.ref 133, .ref a, .ref b, .ref ta] S r S' ∧ (r = some (.int (nI (xlks v t1 t2 L1 L2 (min L1.length L2.length) 0))) ∧ xFl (fun i _ => i = 134 ∨ i = 135) S S') := by
    refine xcall_some (ls := [.ref 133, .ref a, .ref b, .ref ta, .float 0, .float 0]) q_X0_likeLines (by decide) rfl (Nat.le_of_ble_eq_true rfl) rfl ?_
    exact wp_aload_n dX0_likeLines_0 rfl rfl (gv0_38 dX0_likeLines_1 ha k1 (wp_aload_n dX0_likeLines_4 rfl rfl (gv0_38 dX0_likeLines_5 hb k2 (wn_min dX0_likeLines_8 k0_42 (Nat.le_of_ble_eq_true rfl) (by omega) (by omega) rfl (wp_istore dX0_likeLines_11 ⟨Nat.le_of_ble_eq_true rfl, Or.inr rfl⟩ rfl (wp_iconst (v := nI 0) dX0_likeLines_13 rfl (wp_istore dX0_likeLines_14 ⟨Nat.le_of_ble_eq_true rfl, Or.inr rfl⟩ rfl (al_loop ho hob htg _ 0 S (Nat.zero_add _) hX hV1 hB1 hV2 hB2 hT))))))))
  obtain ⟨r, S', g, rfl, z⟩ := key
  exact ⟨S', g, z⟩
