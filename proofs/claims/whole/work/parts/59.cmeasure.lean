/-! A RHYME of the class: times, measure, counts, total -/
theorem xRok_ln {t : Nat → Nat} {n : Nat} {L : List xLn} (h : xRok t n L) {l : Nat} (hl : l < L.length) : xlok t (L.getD l (0, 0, [])) := h.1 _ (xmem_getD hl)
theorem xcI_pos {t : Nat → Nat} {ln : xLn} (h : xlok t ln) : 0 < (xcI ln).length := by
  unfold xcI
  rw [List.length_append]
  have := h.2.2.2.1
  have : 0 < ln.2.2.length := List.length_pos_iff.mpr this
  omega
theorem xcI_0 {t : Nat → Nat} {ln : xLn} (h : xlok t ln) : (1 < ln.1 → (xcI ln).getD 0 (0, 0, 0) = (5, ln.2.1, 2)) ∧ (¬ 1 < ln.1 → ((xcI ln).getD 0 (0, 0, 0)).1 ≤ 4) := by
  refine ⟨fun w => ?_, fun w => ?_⟩
  · unfold xcI
    rw [if_pos w]
    rfl
  · unfold xcI
    rw [if_neg w, List.nil_append]
    have hp : 0 < ln.2.2.length := List.length_pos_iff.mpr h.2.2.2.1
    exact (h.2.2.2.2 _ (xmem_getD (d := (0, 0, 0)) hp)).2.2.2.2.2
theorem xof_lt {t : Nat → Nat} {n : Nat} {L : List xLn} (h : xRok t n L) {l i : Nat} (hl : l < L.length) (hi : i < (xcI (L.getD l (0, 0, []))).length) : xof xcI L l + i < (L.flatMap xcI).length ∧ (L.flatMap xcI).getD (xof xcI L l + i) (0, 0, 0) = (xcI (L.getD l (0, 0, []))).getD i (0, 0, 0) := by
  refine ⟨?_, xof_get xcI (0, 0, 0) L l i hl hi⟩
  have e := xof_succ xcI L l hl
  have hm : ∀ q, l + 1 + q ≤ L.length → xof xcI L (l + 1) ≤ xof xcI L (l + 1 + q) := by
    intro q
    induction q with
    | zero => intro _; exact Nat.le_refl _
    | succ q ih =>
      intro hq
      have := ih (by omega)
      have e2 := xof_succ xcI L (l + 1 + q) (by omega)
      rw [show l + 1 + (q + 1) = l + 1 + q + 1 by omega]
      omega
  have := hm (L.length - (l + 1)) (by omega)
  rw [show l + 1 + (L.length - (l + 1)) = L.length by omega, xof_all] at this
  omega
/-- what an item is COUNTED by beats, and by one of both -/
def xbt (v : xTg) (t : Nat → Nat) (o : xIt) : Nat := if o.1 = 0 then xbeats v (fun k => t (o.2.1 + k)) o.2.2 else if o.1 = 2 then 1 else if o.1 = 1 then o.2.2 else 0
def xct (v : xTg) (t : Nat → Nat) (b : Bool) (o : xIt) : Nat := if b = true ∨ o.1 = 1 then xbt v t o else if o.1 = 0 then 1 else 0
def xsum (f : Nat → Nat) : Nat → Nat
  | 0 => 0
  | n + 1 => xsum f n + f n
/-- what a rhyme is COUNTED in all -/
def xtot (v : xTg) (t : Nat → Nat) (b : Bool) (L : List xLn) : Nat := xsum (fun l => xsum (fun k => xct v t b ((xcI (L.getD l (0, 0, []))).getD k (0, 0, 0))) (xcI (L.getD l (0, 0, []))).length * (L.getD l (0, 0, [])).1) L.length
def xRB (a : Nat) (S : xS) (v : xTg) (t : Nat → Nat) (L : List xLn) : Prop := ∀ i, i < (L.flatMap xcI).length → S.2.1 (a + 4) i = nI (xbt v t ((L.flatMap xcI).getD i (0, 0, 0)))
theorem c_timesOf {a n : Nat} {t : Nat → Nat} {L : List xLn} (d : Nat) (ho : xRo a) {S : xS} (hX : XC S) (hV : xRV a S n t L) {l : Nat} (hl : l < L.length) : xcall false (d + 1) j_X3_timesOf [.ref a, .int (nI l)] S (some (.int (nI (L.getD l (0, 0, [])).1))) S := by
  have hou := ho
  unfold xRo at hou
  obtain ⟨ha, h1, h2, h3, h4, h5, q0, q2, q3, q4, q6⟩ := ho.sh hX
  obtain ⟨v1, v2, v3, v4, v5, v6, v7, v8, v9, v10⟩ := id hV
  have h120 := xRok_120 v7 v8
  have hk := xRok_ln v7 hl
  obtain ⟨o1, o2⟩ := xof_lt v7 hl (xcI_pos hk)
  rw [Nat.add_zero] at o1 o2
  obtain ⟨z1, z2⟩ := xcI_0 hk
  have g1 := c_firstItem d ho hX hV (l := l) (by omega)
  have g2 := c_kindOf d ho hX hV o1
  have g3 := c_start d ho hX hV o1
  rw [o2] at g2 g3
  have ch := (xRok_ch v7 o1).2
  rw [o2] at ch
  rcases Decidable.em (1 < (L.getD l (0, 0, [])).1) with w | w
  · rw [z1 w] at g2 g3 ch
    have ch' : (L.getD l (0, 0, [])).2.1 + 2 ≤ n := ch
    have g4 := c_byteAt d ho hX hV (i := (L.getD l (0, 0, [])).2.1) (by omega)
    have ht := (hk.2.2.1 w).1
    refine xcall_intro (ls := [.ref a, .int (nI l), .float 0]) q_X3_timesOf (by decide) rfl (Nat.le_of_ble_eq_true rfl) rfl ?_
    refine wp_aload_n dX3_timesOf_0 rfl rfl (wp_iload_n dX3_timesOf_1 rfl (wp_iv2 dX3_timesOf_2 k3_103 q_X3_firstItem (by decide) ha (by decide) (Nat.le_of_ble_eq_true rfl) g1 (wp_istore_n dX3_timesOf_5 ⟨Nat.le_of_ble_eq_true rfl, Or.inr rfl⟩ rfl (wp_aload_n dX3_timesOf_6 rfl rfl (wp_iload_n dX3_timesOf_7 rfl (wp_iv2 dX3_timesOf_8 k3_117 q_X3_kindOf (by decide) ha (by decide) (Nat.le_of_ble_eq_true rfl) g2 (wp_iconst (v := nI 5) dX3_timesOf_11 rfl ?_)))))))
    refine wn_icmp_ne dX3_timesOf_12 rfl (by omega) (by omega) (fun c12 => absurd c12 (by omega)) (fun c12 => ?_)
    exact wp_aload_n dX3_timesOf_15 rfl rfl (wp_aload_n dX3_timesOf_16 rfl rfl (wp_iload_n dX3_timesOf_17 rfl (wp_iv2 dX3_timesOf_18 k3_107 q_X3_start (by decide) ha (by decide) (Nat.le_of_ble_eq_true rfl) g3 (wp_iv2 dX3_timesOf_21 k3_113 q_X3_byteAt (by decide) ha (by decide) (Nat.le_of_ble_eq_true rfl) g4 (wp_bipush (v := nI 48) dX3_timesOf_24 rfl (wv_isub dX3_timesOf_26 (pk_sub (by omega)) (wp_goto dX3_timesOf_27 rfl (wp_ireturn dX3_timesOf_31 rfl rfl ⟨xret (by omega), rfl⟩))))))))
  · have z := z2 w
    have h1 := hk.1
    refine xcall_intro (ls := [.ref a, .int (nI l), .float 0]) q_X3_timesOf (by decide) rfl (Nat.le_of_ble_eq_true rfl) rfl ?_
    refine wp_aload_n dX3_timesOf_0 rfl rfl (wp_iload_n dX3_timesOf_1 rfl (wp_iv2 dX3_timesOf_2 k3_103 q_X3_firstItem (by decide) ha (by decide) (Nat.le_of_ble_eq_true rfl) g1 (wp_istore_n dX3_timesOf_5 ⟨Nat.le_of_ble_eq_true rfl, Or.inr rfl⟩ rfl (wp_aload_n dX3_timesOf_6 rfl rfl (wp_iload_n dX3_timesOf_7 rfl (wp_iv2 dX3_timesOf_8 k3_117 q_X3_kindOf (by decide) ha (by decide) (Nat.le_of_ble_eq_true rfl) g2 (wp_iconst (v := nI 5) dX3_timesOf_11 rfl ?_)))))))
    refine wn_icmp_ne dX3_timesOf_12 rfl (by omega) (by omega) (fun c12 => ?_) (fun c12 => absurd c12 (by omega))
    exact wp_iconst (v := nI 1) dX3_timesOf_30 rfl (wp_ireturn dX3_timesOf_31 rfl rfl ⟨xret (by omega), rfl⟩)
theorem rm_loop {a n ta tb tc : Nat} {t : Nat → Nat} {L : List xLn} {v : xTg} (d : Nat) (ho : xRo a) (htg : xTgC ta tb tc) : ∀ (j i : Nat) (S : xS) (y3 : Value), i + j = (L.flatMap xcI).length → XC S → xRV a S n t L → xTgV ta tb tc S v → (∀ k, k < i → S.2.1 (a + 4) k = nI (xbt v t ((L.flatMap xcI).getD k (0, 0, 0)))) → Wp false (d + 3) 3 cX3_measure none false 2 [.ref a, .ref ta, .int (nI i), y3] [] S (fun r S' => r = none ∧ xFl (fun i _ => i = a + 4) S S' ∧ xRB a S' v t L) := by
  intro j
  induction j with
  | zero =>
    intro i S y3 hi hX hV hT h
    have hii : i = (L.flatMap xcI).length := by omega
    subst hii
    have hou := ho
    unfold xRo at hou
    obtain ⟨ha, h1, h2, h3, h4, h5, q0, q2, q3, q4, q6⟩ := ho.sh hX
    obtain ⟨v1, v2, v3, v4, v5, v6, v7, v8, v9, v10⟩ := id hV
    have h120 := xRok_120 v7 v8
    refine wp_iload_n dX3_measure_2 rfl (wp_aload_n dX3_measure_3 rfl rfl (gv3_36 dX3_measure_4 ha v3 ?_))
    refine wn_icmp_ge dX3_measure_7 rfl (by omega) (by omega) (fun c7 => ?_) (fun c7 => absurd c7 (by omega))
    exact wp_return dX3_measure_97 rfl ⟨rfl, xFl.rf S, h⟩
  | succ j ih =>
    intro i S y3 hi hX hV hT h
    have htu := htg
    unfold xTgC at htu
    have hou := ho
    unfold xRo at hou
    obtain ⟨ha, h1, h2, h3, h4, h5, q0, q2, q3, q4, q6⟩ := ho.sh hX
    obtain ⟨v1, v2, v3, v4, v5, v6, v7, v8, v9, v10⟩ := id hV
    have h120 := xRok_120 v7 v8
    obtain ⟨hta, _, _, _, _⟩ := htg.sh hX
    have hil : i < (L.flatMap xcI).length := by omega
    have hk := (v4 i hil).2
    have gs := c_start (d + 2) ho hX hV hil
    have gz := c_isize (d + 1) ho hX hV hil
    have hm := xRok_mem v7 (xmem_getD (d := (0, 0, 0)) hil)
    have hch := (xRok_ch v7 hil).2
    have F1 : xFl (fun i _ => i = a + 4) S (xSI S (a + 4) i (nI (xbt v t ((L.flatMap xcI).getD i (0, 0, 0))))) := (xFl.rf S).SI rfl
    rcases Decidable.em (((L.flatMap xcI).getD i (0, 0, 0)).1 = 0) with e0 | e0
    · have hw := (hm.resolve_right (fun w => by omega)).1 (Or.inl e0)
      have ez : xisz ((L.flatMap xcI).getD i (0, 0, 0)) = ((L.flatMap xcI).getD i (0, 0, 0)).2.2 := by unfold xisz; rw [if_neg (by omega)]
      rw [ez] at gz hch
      have gb := c_beatsIn (x := a + 1) (nx := 240) (s := ((L.flatMap xcI).getD i (0, 0, 0)).2.1) (n := ((L.flatMap xcI).getD i (0, 0, 0)).2.2) (w := fun k => t (((L.flatMap xcI).getD i (0, 0, 0)).2.1 + k)) d htg hX hT h1 (by decide) (by omega) hw.2.1 (fun k hk2 => ⟨hw.2.2 k hk2, v2 _ (by omega)⟩)
      have eb : xbt v t ((L.flatMap xcI).getD i (0, 0, 0)) = xbeats v (fun k => t (((L.flatMap xcI).getD i (0, 0, 0)).2.1 + k)) ((L.flatMap xcI).getD i (0, 0, 0)).2.2 := by unfold xbt; rw [if_pos e0]
      rw [eb] at F1
      refine wp_iload_n dX3_measure_2 rfl (wp_aload_n dX3_measure_3 rfl rfl (gv3_36 dX3_measure_4 ha v3 ?_))
      refine wn_icmp_ge dX3_measure_7 rfl (by omega) (by omega) (fun c7 => absurd c7 (by omega)) (fun c7 => ?_)
      refine wp_iload_n dX3_measure_10 rfl (wp_bipush (v := nI 120) dX3_measure_11 rfl ?_)
      refine wn_icmp_ge dX3_measure_13 rfl (by omega) (by omega) (fun c13 => absurd c13 (by omega)) (fun c13 => ?_)
      refine wp_aload_n dX3_measure_16 rfl rfl (g3_19 dX3_measure_17 ha q3 (wp_iload_n dX3_measure_20 rfl (wn_iaload dX3_measure_21 h3 rfl (by omega) (by decide) hk (wp_istore_n dX3_measure_22 ⟨Nat.le_of_ble_eq_true rfl, Or.inr rfl⟩ rfl (wp_iload_n dX3_measure_23 rfl ?_)))))
      refine wn_if_ne dX3_measure_24 rfl (by omega) (fun c24 => absurd c24 (by omega)) (fun c24 => ?_)
      refine wp_aload_n dX3_measure_27 rfl rfl (g3_22 dX3_measure_28 ha q4 (wp_iload_n dX3_measure_31 rfl (wp_aload_n dX3_measure_32 rfl rfl (wp_aload_n dX3_measure_33 rfl rfl (g3_11 dX3_measure_34 ha q0 (wp_aload_n dX3_measure_37 rfl rfl (wp_iload_n dX3_measure_38 rfl (wp_iv2 dX3_measure_39 k3_107 q_X3_start (by decide) ha (by decide) (Nat.le_of_ble_eq_true rfl) gs (wp_aload_n dX3_measure_42 rfl rfl (wp_iload_n dX3_measure_43 rfl (wp_iv2 dX3_measure_44 k3_110 q_X3_size (by decide) ha (by decide) (Nat.le_of_ble_eq_true rfl) gz (wp_iv4 dX3_measure_47 k3_124 q_X8_beatsIn (by decide) hta (by decide) (Nat.le_of_ble_eq_true rfl) gb (wn_iastore dX3_measure_50 h4 rfl (by omega) (by decide) (wp_goto dX3_measure_51 rfl (wp_iinc dX3_measure_91 rfl (nI_1 _) ⟨Nat.le_of_ble_eq_true rfl, Or.inr rfl⟩ rfl (wp_goto dX3_measure_94 rfl ?_))))))))))))))))
      refine (ih (i + 1) (xSI S (a + 4) i (nI (xbeats v (fun k => t (((L.flatMap xcI).getD i (0, 0, 0)).2.1 + k)) ((L.flatMap xcI).getD i (0, 0, 0)).2.2))) _ (by omega) (F1.XC hX) (hV.fm (F1.m (R := fun _ _ => False)) (fun i k h => by omega)) (hT.fr _ _ _ _ F1 (fun i k h => by omega)) (fun k hk => ?_)).mono ?_
      · rcases Nat.lt_or_ge k i with q | q
        · exact xi (h k q) (Or.inr (by omega))
        · rw [show k = i by omega]; rw [eb]; exact xI_same _ _ _ _
      · rintro r S' ⟨z1, z2, z3⟩
        exact ⟨z1, F1.tt z2, z3⟩
    · rcases Decidable.em (((L.flatMap xcI).getD i (0, 0, 0)).1 = 2) with e2 | e2
      · have eb : xbt v t ((L.flatMap xcI).getD i (0, 0, 0)) = 1 := by unfold xbt; rw [if_neg e0, if_pos e2]
        rw [eb] at F1
        refine wp_iload_n dX3_measure_2 rfl (wp_aload_n dX3_measure_3 rfl rfl (gv3_36 dX3_measure_4 ha v3 ?_))
        refine wn_icmp_ge dX3_measure_7 rfl (by omega) (by omega) (fun c7 => absurd c7 (by omega)) (fun c7 => ?_)
        refine wp_iload_n dX3_measure_10 rfl (wp_bipush (v := nI 120) dX3_measure_11 rfl ?_)
        refine wn_icmp_ge dX3_measure_13 rfl (by omega) (by omega) (fun c13 => absurd c13 (by omega)) (fun c13 => ?_)
        refine wp_aload_n dX3_measure_16 rfl rfl (g3_19 dX3_measure_17 ha q3 (wp_iload_n dX3_measure_20 rfl (wn_iaload dX3_measure_21 h3 rfl (by omega) (by decide) hk (wp_istore_n dX3_measure_22 ⟨Nat.le_of_ble_eq_true rfl, Or.inr rfl⟩ rfl (wp_iload_n dX3_measure_23 rfl ?_)))))
        refine wn_if_ne dX3_measure_24 rfl (by omega) (fun c24 => ?_) (fun c24 => absurd c24 (by omega))
        refine wp_iload_n dX3_measure_54 rfl (wp_iconst (v := nI 2) dX3_measure_55 rfl ?_)
        refine wn_icmp_ne dX3_measure_56 rfl (by omega) (by omega) (fun c56 => absurd c56 (by omega)) (fun c56 => ?_)
        refine wp_aload_n dX3_measure_59 rfl rfl (g3_22 dX3_measure_60 ha q4 (wp_iload_n dX3_measure_63 rfl (wp_iconst (v := nI 1) dX3_measure_64 rfl (wn_iastore dX3_measure_65 h4 rfl (by omega) (by decide) (wp_goto dX3_measure_66 rfl (wp_iinc dX3_measure_91 rfl (nI_1 _) ⟨Nat.le_of_ble_eq_true rfl, Or.inr rfl⟩ rfl (wp_goto dX3_measure_94 rfl ?_)))))))
        refine (ih (i + 1) (xSI S (a + 4) i (nI 1)) _ (by omega) (F1.XC hX) (hV.fm (F1.m (R := fun _ _ => False)) (fun i k h => by omega)) (hT.fr _ _ _ _ F1 (fun i k h => by omega)) (fun k hk => ?_)).mono ?_
        · rcases Nat.lt_or_ge k i with q | q
          · exact xi (h k q) (Or.inr (by omega))
          · rw [show k = i by omega]; rw [eb]; exact xI_same _ _ _ _
        · rintro r S' ⟨z1, z2, z3⟩
          exact ⟨z1, F1.tt z2, z3⟩
      · rcases Decidable.em (((L.flatMap xcI).getD i (0, 0, 0)).1 = 1) with e1 | e1
        · have eb : xbt v t ((L.flatMap xcI).getD i (0, 0, 0)) = ((L.flatMap xcI).getD i (0, 0, 0)).2.2 := by unfold xbt; rw [if_neg e0, if_neg e2, if_pos e1]
          have ez : xisz ((L.flatMap xcI).getD i (0, 0, 0)) = ((L.flatMap xcI).getD i (0, 0, 0)).2.2 + 1 := by unfold xisz; rw [if_pos e1]
          rw [ez] at gz
          rw [eb] at F1
          have e85 : nI (((L.flatMap xcI).getD i (0, 0, 0)).2.2 + 1) - nI 1 = nI ((L.flatMap xcI).getD i (0, 0, 0)).2.2 := pk_sub (by omega)
          refine wp_iload_n dX3_measure_2 rfl (wp_aload_n dX3_measure_3 rfl rfl (gv3_36 dX3_measure_4 ha v3 ?_))
          refine wn_icmp_ge dX3_measure_7 rfl (by omega) (by omega) (fun c7 => absurd c7 (by omega)) (fun c7 => ?_)
          refine wp_iload_n dX3_measure_10 rfl (wp_bipush (v := nI 120) dX3_measure_11 rfl ?_)
          refine wn_icmp_ge dX3_measure_13 rfl (by omega) (by omega) (fun c13 => absurd c13 (by omega)) (fun c13 => ?_)
          refine wp_aload_n dX3_measure_16 rfl rfl (g3_19 dX3_measure_17 ha q3 (wp_iload_n dX3_measure_20 rfl (wn_iaload dX3_measure_21 h3 rfl (by omega) (by decide) hk (wp_istore_n dX3_measure_22 ⟨Nat.le_of_ble_eq_true rfl, Or.inr rfl⟩ rfl (wp_iload_n dX3_measure_23 rfl ?_)))))
          refine wn_if_ne dX3_measure_24 rfl (by omega) (fun c24 => ?_) (fun c24 => absurd c24 (by omega))
          refine wp_iload_n dX3_measure_54 rfl (wp_iconst (v := nI 2) dX3_measure_55 rfl ?_)
          refine wn_icmp_ne dX3_measure_56 rfl (by omega) (by omega) (fun c56 => ?_) (fun c56 => absurd c56 (by omega))
          refine wp_aload_n dX3_measure_69 rfl rfl (g3_22 dX3_measure_70 ha q4 (wp_iload_n dX3_measure_73 rfl (wp_iload_n dX3_measure_74 rfl (wp_iconst (v := nI 1) dX3_measure_75 rfl ?_))))
          refine wn_icmp_ne dX3_measure_76 rfl (by omega) (by omega) (fun c76 => absurd c76 (by omega)) (fun c76 => ?_)
          refine wp_aload_n dX3_measure_79 rfl rfl (wp_iload_n dX3_measure_80 rfl (wp_iv2 dX3_measure_81 k3_110 q_X3_size (by decide) ha (by decide) (Nat.le_of_ble_eq_true rfl) gz (wp_iconst (v := nI 1) dX3_measure_84 rfl (wv_isub dX3_measure_85 e85 (wp_goto dX3_measure_86 rfl (wn_iastore dX3_measure_90 h4 rfl (by omega) (by decide) (wp_iinc dX3_measure_91 rfl (nI_1 _) ⟨Nat.le_of_ble_eq_true rfl, Or.inr rfl⟩ rfl (wp_goto dX3_measure_94 rfl ?_))))))))
          refine (ih (i + 1) (xSI S (a + 4) i (nI ((L.flatMap xcI).getD i (0, 0, 0)).2.2)) _ (by omega) (F1.XC hX) (hV.fm (F1.m (R := fun _ _ => False)) (fun i k h => by omega)) (hT.fr _ _ _ _ F1 (fun i k h => by omega)) (fun k hk => ?_)).mono ?_
          · rcases Nat.lt_or_ge k i with q | q
            · exact xi (h k q) (Or.inr (by omega))
            · rw [show k = i by omega]; rw [eb]; exact xI_same _ _ _ _
          · rintro r S' ⟨z1, z2, z3⟩
            exact ⟨z1, F1.tt z2, z3⟩
        · have eb : xbt v t ((L.flatMap xcI).getD i (0, 0, 0)) = 0 := by unfold xbt; rw [if_neg e0, if_neg e2, if_neg e1]
          have h5 : ((L.flatMap xcI).getD i (0, 0, 0)).1 ≤ 5 := by
            rcases hm with w | w
            · have := w.2.2.2.2.2; omega
            · omega
          rw [eb] at F1
          refine wp_iload_n dX3_measure_2 rfl (wp_aload_n dX3_measure_3 rfl rfl (gv3_36 dX3_measure_4 ha v3 ?_))
          refine wn_icmp_ge dX3_measure_7 rfl (by omega) (by omega) (fun c7 => absurd c7 (by omega)) (fun c7 => ?_)
          refine wp_iload_n dX3_measure_10 rfl (wp_bipush (v := nI 120) dX3_measure_11 rfl ?_)
          refine wn_icmp_ge dX3_measure_13 rfl (by omega) (by omega) (fun c13 => absurd c13 (by omega)) (fun c13 => ?_)
          refine wp_aload_n dX3_measure_16 rfl rfl (g3_19 dX3_measure_17 ha q3 (wp_iload_n dX3_measure_20 rfl (wn_iaload dX3_measure_21 h3 rfl (by omega) (by decide) hk (wp_istore_n dX3_measure_22 ⟨Nat.le_of_ble_eq_true rfl, Or.inr rfl⟩ rfl (wp_iload_n dX3_measure_23 rfl ?_)))))
          refine wn_if_ne dX3_measure_24 rfl (by omega) (fun c24 => ?_) (fun c24 => absurd c24 (by omega))
          refine wp_iload_n dX3_measure_54 rfl (wp_iconst (v := nI 2) dX3_measure_55 rfl ?_)
          refine wn_icmp_ne dX3_measure_56 rfl (by omega) (by omega) (fun c56 => ?_) (fun c56 => absurd c56 (by omega))
          refine wp_aload_n dX3_measure_69 rfl rfl (g3_22 dX3_measure_70 ha q4 (wp_iload_n dX3_measure_73 rfl (wp_iload_n dX3_measure_74 rfl (wp_iconst (v := nI 1) dX3_measure_75 rfl ?_))))
          refine wn_icmp_ne dX3_measure_76 rfl (by omega) (by omega) (fun c76 => ?_) (fun c76 => absurd c76 (by omega))
          refine wp_iconst (v := nI 0) dX3_measure_89 rfl (wn_iastore dX3_measure_90 h4 rfl (by omega) (by decide) (wp_iinc dX3_measure_91 rfl (nI_1 _) ⟨Nat.le_of_ble_eq_true rfl, Or.inr rfl⟩ rfl (wp_goto dX3_measure_94 rfl ?_)))
          refine (ih (i + 1) (xSI S (a + 4) i (nI 0)) _ (by omega) (F1.XC hX) (hV.fm (F1.m (R := fun _ _ => False)) (fun i k h => by omega)) (hT.fr _ _ _ _ F1 (fun i k h => by omega)) (fun k hk => ?_)).mono ?_
          · rcases Nat.lt_or_ge k i with q | q
            · exact xi (h k q) (Or.inr (by omega))
            · rw [show k = i by omega]; rw [eb]; exact xI_same _ _ _ _
          · rintro r S' ⟨z1, z2, z3⟩
            exact ⟨z1, F1.tt z2, z3⟩
theorem c_rmeasure {a n ta tb tc : Nat} {t : Nat → Nat} {L : List xLn} {v : xTg} (d : Nat) (ho : xRo a) (htg : xTgC ta tb tc) {S : xS} (hX : XC S) (hV : xRV a S n t L) (hT : xTgV ta tb tc S v) : ∃ S', xcall false (d + 3) j_X3_measure [.ref a, .ref ta] S none S' ∧ xFl (fun i _ => i = a + 4) S S' ∧ xRB a S' v t L := by
  have key : ∃ r S', xcall false (d + 3) j_X3_measure [.ref a, .ref ta] S r S' ∧ (r = none ∧ xFl (fun i _ => i = a + 4) S S' ∧ xRB a S' v t L) := by
    refine xcall_some (ls := [.ref a, .ref ta, .float 0, .float 0]) q_X3_measure (by decide) rfl (Nat.le_of_ble_eq_true rfl) rfl ?_
    exact wp_iconst (v := nI 0) dX3_measure_0 rfl (wp_istore_n dX3_measure_1 ⟨Nat.le_of_ble_eq_true rfl, Or.inr rfl⟩ rfl (rm_loop d ho htg (L.flatMap xcI).length 0 S _ (by omega) hX hV hT (fun k hk => absurd hk (Nat.not_lt_zero k))))
  obtain ⟨r, S', g, rfl, z1, z2⟩ := key
  exact ⟨S', g, z1, z2⟩
theorem c_countOf {a n : Nat} {t : Nat → Nat} {L : List xLn} (d : Nat) (ho : xRo a) {S : xS} (hX : XC S) (hV : xRV a S n t L) {v : xTg} (hB : xRB a S v t L) (b : Bool) {i : Nat} (hi : i < (L.flatMap xcI).length) : xcall false d j_X3_countOf [.ref a, .int (nI i), .int (xB b)] S (some (.int (nI (xct v t b ((L.flatMap xcI).getD i (0, 0, 0)))))) S := by
  have hou := ho
  unfold xRo at hou
  obtain ⟨ha, h1, h2, h3, h4, h5, q0, q2, q3, q4, q6⟩ := ho.sh hX
  obtain ⟨v1, v2, v3, v4, v5, v6, v7, v8, v9, v10⟩ := id hV
  have h120 := xRok_120 v7 v8
  have hk := (v4 i hi).2
  have hb := hB i hi
  have h5 : ((L.flatMap xcI).getD i (0, 0, 0)).1 ≤ 5 := by
    rcases xRok_mem v7 (xmem_getD (d := (0, 0, 0)) hi) with w | w
    · have := w.2.2.2.2.2; omega
    · omega
  cases b with
  | true =>
    refine xcall_intro (ls := [.ref a, .int (nI i), .int (xB true)]) q_X3_countOf (by decide) rfl (Nat.le_of_ble_eq_true rfl) rfl ?_
    refine wp_iload_n dX3_countOf_0 rfl ?_
    refine wn_if_lt dX3_countOf_1 rfl (by omega) ?_
    refine wp_iload_n dX3_countOf_4 rfl (wp_aload_n dX3_countOf_5 rfl rfl (gv3_36 dX3_countOf_6 ha v3 ?_))
    refine wn_icmp_ge dX3_countOf_9 rfl (by omega) (by omega) (fun c9 => absurd c9 (by omega)) (fun c9 => ?_)
    refine wp_iload_n dX3_countOf_12 rfl (wp_bipush (v := nI 120) dX3_countOf_13 rfl ?_)
    refine wn_icmp_lt dX3_countOf_15 rfl (by omega) (by omega) (fun c15 => ?_) (fun c15 => absurd c15 (by omega))
    refine wp_iload_n dX3_countOf_20 rfl ?_
    refine wb_if_ne dX3_countOf_21 rfl (fun c21 => ?_) (fun c21 => absurd c21 (by decide))
    exact wp_aload_n dX3_countOf_34 rfl rfl (g3_22 dX3_countOf_35 ha q4 (wp_iload_n dX3_countOf_38 rfl (wn_iaload dX3_countOf_39 h4 rfl (by omega) (by decide) hb (wp_ireturn dX3_countOf_40 rfl rfl ⟨xret (by unfold xct; rw [if_pos (Or.inl rfl)]), rfl⟩))))
  | false =>
    refine xcall_intro (ls := [.ref a, .int (nI i), .int (xB false)]) q_X3_countOf (by decide) rfl (Nat.le_of_ble_eq_true rfl) rfl ?_
    rcases Decidable.em (((L.flatMap xcI).getD i (0, 0, 0)).1 = 1) with e1 | e1
    · refine wp_iload_n dX3_countOf_0 rfl ?_
      refine wn_if_lt dX3_countOf_1 rfl (by omega) ?_
      refine wp_iload_n dX3_countOf_4 rfl (wp_aload_n dX3_countOf_5 rfl rfl (gv3_36 dX3_countOf_6 ha v3 ?_))
      refine wn_icmp_ge dX3_countOf_9 rfl (by omega) (by omega) (fun c9 => absurd c9 (by omega)) (fun c9 => ?_)
      refine wp_iload_n dX3_countOf_12 rfl (wp_bipush (v := nI 120) dX3_countOf_13 rfl ?_)
      refine wn_icmp_lt dX3_countOf_15 rfl (by omega) (by omega) (fun c15 => ?_) (fun c15 => absurd c15 (by omega))
      refine wp_iload_n dX3_countOf_20 rfl ?_
      refine wb_if_ne dX3_countOf_21 rfl (fun c21 => absurd c21 (by decide)) (fun c21 => ?_)
      refine wp_aload_n dX3_countOf_24 rfl rfl (g3_19 dX3_countOf_25 ha q3 (wp_iload_n dX3_countOf_28 rfl (wn_iaload dX3_countOf_29 h3 rfl (by omega) (by decide) hk (wp_iconst (v := nI 1) dX3_countOf_30 rfl ?_))))
      refine wn_icmp_ne dX3_countOf_31 rfl (by omega) (by omega) (fun c31 => absurd c31 (by omega)) (fun c31 => ?_)
      exact wp_aload_n dX3_countOf_34 rfl rfl (g3_22 dX3_countOf_35 ha q4 (wp_iload_n dX3_countOf_38 rfl (wn_iaload dX3_countOf_39 h4 rfl (by omega) (by decide) hb (wp_ireturn dX3_countOf_40 rfl rfl ⟨xret (by unfold xct; rw [if_pos (Or.inr e1)]), rfl⟩))))
    rcases Decidable.em (((L.flatMap xcI).getD i (0, 0, 0)).1 = 0) with e0 | e0
    · refine wp_iload_n dX3_countOf_0 rfl ?_
      refine wn_if_lt dX3_countOf_1 rfl (by omega) ?_
      refine wp_iload_n dX3_countOf_4 rfl (wp_aload_n dX3_countOf_5 rfl rfl (gv3_36 dX3_countOf_6 ha v3 ?_))
      refine wn_icmp_ge dX3_countOf_9 rfl (by omega) (by omega) (fun c9 => absurd c9 (by omega)) (fun c9 => ?_)
      refine wp_iload_n dX3_countOf_12 rfl (wp_bipush (v := nI 120) dX3_countOf_13 rfl ?_)
      refine wn_icmp_lt dX3_countOf_15 rfl (by omega) (by omega) (fun c15 => ?_) (fun c15 => absurd c15 (by omega))
      refine wp_iload_n dX3_countOf_20 rfl ?_
      refine wb_if_ne dX3_countOf_21 rfl (fun c21 => absurd c21 (by decide)) (fun c21 => ?_)
      refine wp_aload_n dX3_countOf_24 rfl rfl (g3_19 dX3_countOf_25 ha q3 (wp_iload_n dX3_countOf_28 rfl (wn_iaload dX3_countOf_29 h3 rfl (by omega) (by decide) hk (wp_iconst (v := nI 1) dX3_countOf_30 rfl ?_))))
      refine wn_icmp_ne dX3_countOf_31 rfl (by omega) (by omega) (fun c31 => ?_) (fun c31 => absurd c31 (by omega))
      refine wp_aload_n dX3_countOf_41 rfl rfl (g3_19 dX3_countOf_42 ha q3 (wp_iload_n dX3_countOf_45 rfl (wn_iaload dX3_countOf_46 h3 rfl (by omega) (by decide) hk ?_)))
      refine wn_if_ne dX3_countOf_47 rfl (by omega) (fun c47 => absurd c47 (by omega)) (fun c47 => ?_)
      exact wp_iconst (v := nI 1) dX3_countOf_50 rfl (wp_goto dX3_countOf_51 rfl (wp_ireturn dX3_countOf_55 rfl rfl ⟨xret (by unfold xct; rw [if_neg (fun w => w.elim (fun q => by cases q) e1), if_pos e0]), rfl⟩))
    · refine wp_iload_n dX3_countOf_0 rfl ?_
      refine wn_if_lt dX3_countOf_1 rfl (by omega) ?_
      refine wp_iload_n dX3_countOf_4 rfl (wp_aload_n dX3_countOf_5 rfl rfl (gv3_36 dX3_countOf_6 ha v3 ?_))
      refine wn_icmp_ge dX3_countOf_9 rfl (by omega) (by omega) (fun c9 => absurd c9 (by omega)) (fun c9 => ?_)
      refine wp_iload_n dX3_countOf_12 rfl (wp_bipush (v := nI 120) dX3_countOf_13 rfl ?_)
      refine wn_icmp_lt dX3_countOf_15 rfl (by omega) (by omega) (fun c15 => ?_) (fun c15 => absurd c15 (by omega))
      refine wp_iload_n dX3_countOf_20 rfl ?_
      refine wb_if_ne dX3_countOf_21 rfl (fun c21 => absurd c21 (by decide)) (fun c21 => ?_)
      refine wp_aload_n dX3_countOf_24 rfl rfl (g3_19 dX3_countOf_25 ha q3 (wp_iload_n dX3_countOf_28 rfl (wn_iaload dX3_countOf_29 h3 rfl (by omega) (by decide) hk (wp_iconst (v := nI 1) dX3_countOf_30 rfl ?_))))
      refine wn_icmp_ne dX3_countOf_31 rfl (by omega) (by omega) (fun c31 => ?_) (fun c31 => absurd c31 (by omega))
      refine wp_aload_n dX3_countOf_41 rfl rfl (g3_19 dX3_countOf_42 ha q3 (wp_iload_n dX3_countOf_45 rfl (wn_iaload dX3_countOf_46 h3 rfl (by omega) (by decide) hk ?_)))
      refine wn_if_ne dX3_countOf_47 rfl (by omega) (fun c47 => ?_) (fun c47 => absurd c47 (by omega))
      exact wp_iconst (v := nI 0) dX3_countOf_54 rfl (wp_ireturn dX3_countOf_55 rfl rfl ⟨xret (by unfold xct; rw [if_neg (fun w => w.elim (fun q => by cases q) e1), if_neg e0]), rfl⟩)
