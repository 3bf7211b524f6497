/-! the RING of the class: the row, who is over, who is HIT -/
def xRl (S : xS) (R : List Nat) : Prop := S.2.1 74 7 = nI R.length ∧ ∀ k, k < R.length → S.2.1 79 k = nI (R.getD k 0)
theorem xapp_get (A B : List Nat) (k : Nat) : (A ++ B).getD k 0 = if k < A.length then A.getD k 0 else B.getD (k - A.length) 0 := by
  rw [List.getD_eq_getElem?_getD, List.getElem?_append]
  split
  · rw [List.getD_eq_getElem?_getD]
  · rw [List.getD_eq_getElem?_getD]
theorem r81_a {S : xS} (hX : XC S) {i : Nat} (hi : i < 24) : S.2.2.1 81 i = some (82 + i) := by
  rcases (show i = 0 ∨ i = 1 ∨ i = 2 ∨ i = 3 ∨ i = 4 ∨ i = 5 ∨ i = 6 ∨ i = 7 ∨ i = 8 ∨ i = 9 ∨ i = 10 ∨ i = 11 ∨ i = 12 ∨ i = 13 ∨ i = 14 ∨ i = 15 ∨ i = 16 ∨ i = 17 ∨ i = 18 ∨ i = 19 ∨ i = 20 ∨ i = 21 ∨ i = 22 ∨ i = 23 by omega) with rfl | rfl | rfl | rfl | rfl | rfl | rfl | rfl | rfl | rfl | rfl | rfl | rfl | rfl | rfl | rfl | rfl | rfl | rfl | rfl | rfl | rfl | rfl | rfl
  · exact xrr hX r81_0
  · exact xrr hX r81_1
  · exact xrr hX r81_2
  · exact xrr hX r81_3
  · exact xrr hX r81_4
  · exact xrr hX r81_5
  · exact xrr hX r81_6
  · exact xrr hX r81_7
  · exact xrr hX r81_8
  · exact xrr hX r81_9
  · exact xrr hX r81_10
  · exact xrr hX r81_11
  · exact xrr hX r81_12
  · exact xrr hX r81_13
  · exact xrr hX r81_14
  · exact xrr hX r81_15
  · exact xrr hX r81_16
  · exact xrr hX r81_17
  · exact xrr hX r81_18
  · exact xrr hX r81_19
  · exact xrr hX r81_20
  · exact xrr hX r81_21
  · exact xrr hX r81_22
  · exact xrr hX r81_23
theorem s81_a {S : xS} (hX : XC S) {i : Nat} (hi : i < 24) : S.1[82 + i]? = some (20, 5) := by
  rcases (show i = 0 ∨ i = 1 ∨ i = 2 ∨ i = 3 ∨ i = 4 ∨ i = 5 ∨ i = 6 ∨ i = 7 ∨ i = 8 ∨ i = 9 ∨ i = 10 ∨ i = 11 ∨ i = 12 ∨ i = 13 ∨ i = 14 ∨ i = 15 ∨ i = 16 ∨ i = 17 ∨ i = 18 ∨ i = 19 ∨ i = 20 ∨ i = 21 ∨ i = 22 ∨ i = 23 by omega) with rfl | rfl | rfl | rfl | rfl | rfl | rfl | rfl | rfl | rfl | rfl | rfl | rfl | rfl | rfl | rfl | rfl | rfl | rfl | rfl | rfl | rfl | rfl | rfl
  · exact xsh hX sh_82
  · exact xsh hX sh_83
  · exact xsh hX sh_84
  · exact xsh hX sh_85
  · exact xsh hX sh_86
  · exact xsh hX sh_87
  · exact xsh hX sh_88
  · exact xsh hX sh_89
  · exact xsh hX sh_90
  · exact xsh hX sh_91
  · exact xsh hX sh_92
  · exact xsh hX sh_93
  · exact xsh hX sh_94
  · exact xsh hX sh_95
  · exact xsh hX sh_96
  · exact xsh hX sh_97
  · exact xsh hX sh_98
  · exact xsh hX sh_99
  · exact xsh hX sh_100
  · exact xsh hX sh_101
  · exact xsh hX sh_102
  · exact xsh hX sh_103
  · exact xsh hX sh_104
  · exact xsh hX sh_105
theorem r75_a {S : xS} (hX : XC S) {i : Nat} (hi : i < 6) : S.2.2.1 75 i = some (106 + 4 * i) := by
  rcases (show i = 0 ∨ i = 1 ∨ i = 2 ∨ i = 3 ∨ i = 4 ∨ i = 5 by omega) with rfl | rfl | rfl | rfl | rfl | rfl
  · exact xrr hX r75_0
  · exact xrr hX r75_1
  · exact xrr hX r75_2
  · exact xrr hX r75_3
  · exact xrr hX r75_4
  · exact xrr hX r75_5
theorem lu_loop {m s k : Nat} {d : Nat} {g : xRg} (hg : xgo g) (hm : m < 2 ^ 31) (hk : k < 1000) : ∀ (j i a : Nat) (S : xS) (A : List Nat), i + j = xgH g → a < xgH g → A.length ≤ i → XC S → xRC S g → xRl S A → Wp false (d + 1) 4 cX4_lineUp none false 11 [.ref 74, .int (nI m), .int (nI s), .int (nI k), .int (nI a), .int (nI i)] [] S (fun r S' => r = none ∧ xFl (fun i k => (i = 74 ∧ k = 7) ∨ i = 79) S S' ∧ xRl S' (A ++ xlu m (xgH g) (xbk g k) j a)) := by
  obtain ⟨q1, q2, q3⟩ := hg.H
  intro j
  induction j with
  | zero =>
    intro i a S A hi ha hA hX hR hl
    have k2 := hR.2.2.1
    have hii : i = xgH g := by omega
    subst hii
    rw [xlu, List.append_nil]
    refine wp_iload dX4_lineUp_11 rfl (wp_aload_n dX4_lineUp_13 rfl rfl (gv4_53 dX4_lineUp_14 (xsh hX sh_74) k2 ?_))
    refine wn_icmp_ge dX4_lineUp_17 rfl (by omega) (by omega) (fun c17 => ?_) (fun c17 => absurd c17 (by omega))
    exact wp_return dX4_lineUp_75 rfl ⟨rfl, xFl.rf S, hl⟩
  | succ j ih =>
    intro i a S A hi ha hA hX hR hl
    have k2 := hR.2.2.1
    have k7 := hl.1
    have hlt := xsdd_lt (xbk g k) ha
    have gi := c_isIn (h := a) (d + 0) hm (by omega) (S := S)
    rw [xlu]
    cases e : m.testBit a with
    | false =>
      rw [e] at gi
      rw [if_neg (by decide), List.nil_append]
      have gb := c_beside (d + 0) hg ha hk hX hR
      refine wp_iload dX4_lineUp_11 rfl (wp_aload_n dX4_lineUp_13 rfl rfl (gv4_53 dX4_lineUp_14 (xsh hX sh_74) k2 ?_))
      refine wn_icmp_ge dX4_lineUp_17 rfl (by omega) (by omega) (fun c17 => absurd c17 (by omega)) (fun c17 => ?_)
      refine wp_iload dX4_lineUp_20 rfl (wp_aload_n dX4_lineUp_22 rfl rfl (g4_36 dX4_lineUp_23 (xsh hX sh_74) (xrr hX r74_6) (wp_alen (v := nI 24) dX4_lineUp_26 (xsh hX sh_79) ⟨by decide, by decide⟩ rfl ?_)))
      refine wn_icmp_ge dX4_lineUp_27 rfl (by omega) (by omega) (fun c27 => absurd c27 (by omega)) (fun c27 => ?_)
      refine wp_iload_n dX4_lineUp_30 rfl (wp_iload dX4_lineUp_31 rfl (wp_is2 dX4_lineUp_33 k4_143 q_X4_isIn (by decide) (Nat.le_of_ble_eq_true rfl) gi ?_))
      refine wb_if_eq dX4_lineUp_36 rfl (fun c36 => ?_) (fun c36 => absurd c36 (by decide))
      exact wp_aload_n dX4_lineUp_60 rfl rfl (wp_iload dX4_lineUp_61 rfl (wp_iload_n dX4_lineUp_63 rfl (wp_iv3 dX4_lineUp_64 k4_140 q_X4_beside (by decide) (xsh hX sh_74) (by decide) (Nat.le_of_ble_eq_true rfl) gb (wp_istore dX4_lineUp_67 ⟨Nat.le_of_ble_eq_true rfl, Or.inr rfl⟩ rfl (wp_iinc dX4_lineUp_69 rfl (nI_1 _) ⟨Nat.le_of_ble_eq_true rfl, Or.inr rfl⟩ rfl (wp_goto dX4_lineUp_72 rfl (ih (i + 1) _ S A (by omega) hlt (by omega) hX hR hl)))))))
    | true =>
      rw [e] at gi
      rw [if_pos rfl, ← List.append_assoc]
      have F1 : xFl (fun i' k' => (i' = 74 ∧ k' = 7) ∨ (i' = 79 ∧ k' = A.length)) S (xSI (xSI S 79 A.length (nI a)) 74 7 (nI (A.length + 1))) := ((xFl.rf S).SI (Or.inr ⟨rfl, rfl⟩)).SI (Or.inl ⟨rfl, rfl⟩)
      have F2 : xFl (fun i k => (i = 74 ∧ k = 7) ∨ i = 79) S (xSI (xSI S 79 A.length (nI a)) 74 7 (nI (A.length + 1))) := F1.mono (fun i k h => by omega)
      have R2 := hR.fr F2 (fun k h => by omega)
      have X2 := F2.XC hX
      have gb := c_beside (d + 0) hg ha hk X2 R2
      have hl2 : xRl (xSI (xSI S 79 A.length (nI a)) 74 7 (nI (A.length + 1))) (A ++ [a]) := by
        refine ⟨by rw [List.length_append]; exact xI_same _ _ _ _, fun q hq => ?_⟩
        rw [List.length_append] at hq
        have hq' : q < A.length + 1 := hq
        rw [xapp_get]
        rcases Nat.lt_or_ge q A.length with w | w
        · rw [if_pos w]
          exact F1.i (hl.2 q w) (by omega)
        · rw [if_neg (by omega), show q = A.length by omega, Nat.sub_self]
          exact xi (xI_same _ _ _ _) (Or.inl (by decide))
      refine wp_iload dX4_lineUp_11 rfl (wp_aload_n dX4_lineUp_13 rfl rfl (gv4_53 dX4_lineUp_14 (xsh hX sh_74) k2 ?_))
      refine wn_icmp_ge dX4_lineUp_17 rfl (by omega) (by omega) (fun c17 => absurd c17 (by omega)) (fun c17 => ?_)
      refine wp_iload dX4_lineUp_20 rfl (wp_aload_n dX4_lineUp_22 rfl rfl (g4_36 dX4_lineUp_23 (xsh hX sh_74) (xrr hX r74_6) (wp_alen (v := nI 24) dX4_lineUp_26 (xsh hX sh_79) ⟨by decide, by decide⟩ rfl ?_)))
      refine wn_icmp_ge dX4_lineUp_27 rfl (by omega) (by omega) (fun c27 => absurd c27 (by omega)) (fun c27 => ?_)
      refine wp_iload_n dX4_lineUp_30 rfl (wp_iload dX4_lineUp_31 rfl (wp_is2 dX4_lineUp_33 k4_143 q_X4_isIn (by decide) (Nat.le_of_ble_eq_true rfl) gi ?_))
      refine wb_if_eq dX4_lineUp_36 rfl (fun c36 => absurd c36 (by decide)) (fun c36 => ?_)
      refine wp_aload_n dX4_lineUp_39 rfl rfl (g4_36 dX4_lineUp_40 (xsh hX sh_74) (xrr hX r74_6) (wp_aload_n dX4_lineUp_43 rfl rfl (gv4_151 dX4_lineUp_44 (xsh hX sh_74) k7 (wp_iload dX4_lineUp_47 rfl (wn_iastore dX4_lineUp_49 (xsh hX sh_79) rfl (by omega) (by decide) (wp_aload_n dX4_lineUp_50 rfl rfl (wp_dup dX4_lineUp_51 rfl (gv4_151 dX4_lineUp_52 (xsh hX sh_74) (xi k7 (Or.inl (by decide))) (wp_iconst (v := nI 1) dX4_lineUp_55 rfl (wv_iadd dX4_lineUp_56 (nI_add _ _) (p4_151 dX4_lineUp_57 (xsh hX sh_74) (wp_aload_n dX4_lineUp_60 rfl rfl (wp_iload dX4_lineUp_61 rfl (wp_iload_n dX4_lineUp_63 rfl (wp_iv3 dX4_lineUp_64 k4_140 q_X4_beside (by decide) (xsh hX sh_74) (by decide) (Nat.le_of_ble_eq_true rfl) gb (wp_istore dX4_lineUp_67 ⟨Nat.le_of_ble_eq_true rfl, Or.inr rfl⟩ rfl (wp_iinc dX4_lineUp_69 rfl (nI_1 _) ⟨Nat.le_of_ble_eq_true rfl, Or.inr rfl⟩ rfl (wp_goto dX4_lineUp_72 rfl ?_))))))))))))))))))
      refine (ih (i + 1) _ _ (A ++ [a]) (by omega) hlt (by rw [List.length_append]; exact Nat.succ_le_succ hA) X2 R2 hl2).mono ?_
      rintro r S' ⟨z1, z2, z3⟩
      exact ⟨z1, F2.tt z2, z3⟩
theorem c_lineUp {m s k : Nat} (d : Nat) {g : xRg} (hg : xgo g) (hm : m < 2 ^ 31) (hs : s < xgH g) (hk : k < 1000) {S : xS} (hX : XC S) (hR : xRC S g) : ∃ S', xcall false (d + 1) j_X4_lineUp [.ref 74, .int (nI m), .int (nI s), .int (nI k)] S none S' ∧ xFl (fun i k => (i = 74 ∧ k = 7) ∨ i = 79) S S' ∧ xRl S' (xlu m (xgH g) (xbk g k) (xgH g) s) := by
  have F0 : xFl (fun i k => (i = 74 ∧ k = 7) ∨ i = 79) S (xSI S 74 7 (nI 0)) := (xFl.rf S).SI (Or.inl ⟨rfl, rfl⟩)
  obtain ⟨r, S', g1, rfl, z1, z2⟩ := xcall_some (al := false) (d := d + 1) (ls := [.ref 74, .int (nI m), .int (nI s), .int (nI k), .float 0, .float 0]) (S := S) (as := [.ref 74, .int (nI m), .int (nI s), .int (nI k)]) q_X4_lineUp (by decide) rfl (Nat.le_of_ble_eq_true rfl) rfl
    (P := fun r S' => r = none ∧ xFl (fun i k => (i = 74 ∧ k = 7) ∨ i = 79) (xSI S 74 7 (nI 0)) S' ∧ xRl S' (xlu m (xgH g) (xbk g k) (xgH g) s)) (by
      exact wp_iload_n dX4_lineUp_0 rfl (wp_istore dX4_lineUp_1 ⟨Nat.le_of_ble_eq_true rfl, Or.inr rfl⟩ rfl (wp_aload_n dX4_lineUp_3 rfl rfl (wp_iconst (v := nI 0) dX4_lineUp_4 rfl (p4_151 dX4_lineUp_5 (xsh hX sh_74) (wp_iconst (v := nI 0) dX4_lineUp_8 rfl (wp_istore dX4_lineUp_9 ⟨Nat.le_of_ble_eq_true rfl, Or.inr rfl⟩ rfl (lu_loop hg hm hk (xgH g) 0 s _ [] (Nat.zero_add _) hs (Nat.le_refl _) (F0.XC hX) (hR.fr F0 (fun k h => by omega)) ⟨xI_same _ _ _ _, fun q hq => absurd hq (Nat.not_lt_zero q)⟩))))))))
  exact ⟨S', g1, F0.tt z1, z2⟩
theorem nI_n0 {n : Nat} (h : 0 < n) (h2 : n < 2 ^ 31) : ¬ nI n = 0 := by
  intro e
  have h3 := pk_tn (n := n) (by omega)
  rw [e] at h3
  have h4 : (0 : Int32).toBitVec.toNat = 0 := rfl
  omega
theorem c_handAt {R : List Nat} {p : Nat} (d : Nat) (hR1 : 1 ≤ R.length) (hR2 : R.length ≤ 24) (hp : p < 2 ^ 30) {S : xS} (hX : XC S) (hl : xRl S R) : xcall false d j_X4_handAt [.ref 74, .int (nI p)] S (some (.int (nI (xha R p)))) S := by
  have k7 := hl.1
  have hmod : p % R.length < R.length := Nat.mod_lt p (by omega)
  have v : S.2.1 79 (p % R.length) = nI (xha R p) := hl.2 _ hmod
  refine xcall_intro (ls := [.ref 74, .int (nI p), .float 0]) q_X4_handAt (by decide) rfl (Nat.le_of_ble_eq_true rfl) rfl ?_
  refine wp_aload_n dX4_handAt_0 rfl rfl (gv4_151 dX4_handAt_1 (xsh hX sh_74) k7 (wp_iconst (v := nI 1) dX4_handAt_4 rfl ?_))
  refine wn_icmp_lt dX4_handAt_5 rfl (by omega) (by omega) (fun c5 => absurd c5 (by omega)) (fun c5 => ?_)
  refine wp_iload_n dX4_handAt_8 rfl ?_
  refine wn_if_ge dX4_handAt_9 rfl (by omega) ?_
  refine wp_iload_n dX4_handAt_14 rfl (wp_aload_n dX4_handAt_15 rfl rfl (gv4_151 dX4_handAt_16 (xsh hX sh_74) k7 (wv_irem dX4_handAt_19 (nI_n0 (by omega) (by omega)) (pk_rem (by omega) (by omega) (by omega)) (wp_istore_n dX4_handAt_20 ⟨Nat.le_of_ble_eq_true rfl, Or.inr rfl⟩ rfl (wp_iload_n dX4_handAt_21 rfl (wp_aload_n dX4_handAt_22 rfl rfl (g4_36 dX4_handAt_23 (xsh hX sh_74) (xrr hX r74_6) (wp_alen (v := nI 24) dX4_handAt_26 (xsh hX sh_79) ⟨by decide, by decide⟩ rfl ?_))))))))
  refine wn_icmp_ge dX4_handAt_27 rfl (by omega) (by omega) (fun c27 => absurd c27 (by omega)) (fun c27 => ?_)
  exact wp_aload_n dX4_handAt_30 rfl rfl (g4_36 dX4_handAt_31 (xsh hX sh_74) (xrr hX r74_6) (wp_iload_n dX4_handAt_34 rfl (wn_iaload dX4_handAt_35 (xsh hX sh_79) rfl (by omega) (by decide) v (wp_goto dX4_handAt_36 rfl (wp_ireturn dX4_handAt_40 rfl rfl ⟨rfl, rfl⟩)))))
theorem c_beatsOfName {p b : Nat} (d : Nat) {g : xRg} (hg : xgo g) (hp : p < xgP g) {S : xS} (hX : XC S) (hR : xRC S g) (hv : S.2.1 77 p = nI b) : xcall false d j_X4_beatsOfName [.ref 74, .int (nI p)] S (some (.int (nI b))) S := by
  obtain ⟨q1, q2, q3⟩ := hg.H
  have hP := hg.2.1
  refine xcall_intro (ls := [.ref 74, .int (nI p)]) q_X4_beatsOfName (by decide) rfl (Nat.le_of_ble_eq_true rfl) rfl ?_
  refine wp_iload_n dX4_beatsOfName_0 rfl ?_
  refine wn_if_lt dX4_beatsOfName_1 rfl (by omega) ?_
  refine wp_iload_n dX4_beatsOfName_4 rfl (wp_aload_n dX4_beatsOfName_5 rfl rfl (gv4_47 dX4_beatsOfName_6 (xsh hX sh_74) hR.1 ?_))
  refine wn_icmp_ge dX4_beatsOfName_9 rfl (by omega) (by omega) (fun c9 => absurd c9 (by omega)) (fun c9 => ?_)
  exact wp_aload_n dX4_beatsOfName_12 rfl rfl (g4_27 dX4_beatsOfName_13 (xsh hX sh_74) (xrr hX r74_3) (wp_iload_n dX4_beatsOfName_16 rfl (wn_iaload dX4_beatsOfName_17 (xsh hX sh_77) rfl (by omega) (by decide) hv (wp_goto dX4_beatsOfName_18 rfl (wp_ireturn dX4_beatsOfName_22 rfl rfl ⟨rfl, rfl⟩)))))
theorem c_askerOf {k : Nat} {v : Int32} (d : Nat) (hk : k < 24) {S : xS} (hX : XC S) (hv : S.2.1 80 k = v) : xcall false d j_X4_askerOf [.ref 74, .int (nI k)] S (some (.int v)) S := by
  refine xcall_intro (ls := [.ref 74, .int (nI k)]) q_X4_askerOf (by decide) rfl (Nat.le_of_ble_eq_true rfl) rfl ?_
  refine wp_iload_n dX4_askerOf_0 rfl ?_
  refine wn_if_lt dX4_askerOf_1 rfl (by omega) ?_
  refine wp_iload_n dX4_askerOf_4 rfl (wp_bipush (v := nI 24) dX4_askerOf_5 rfl ?_)
  refine wn_icmp_ge dX4_askerOf_7 rfl (by omega) (by omega) (fun c7 => absurd c7 (by omega)) (fun c7 => ?_)
  exact wp_aload_n dX4_askerOf_10 rfl rfl (g4_39 dX4_askerOf_11 (xsh hX sh_74) (xrr hX r74_8) (wp_iload_n dX4_askerOf_14 rfl (wn_iaload dX4_askerOf_15 (xsh hX sh_80) rfl (by omega) (by decide) hv (wp_goto dX4_askerOf_16 rfl (wp_ireturn dX4_askerOf_20 rfl rfl ⟨rfl, rfl⟩)))))
theorem c_handHit {k a : Nat} {v : Int32} (d : Nat) (hk : k < 24) (ha : a < 5) {S : xS} (hX : XC S) (hv : S.2.1 (82 + k) a = v) : xcall false d j_X4_handHit [.ref 74, .int (nI k), .int (nI a)] S (some (.int v)) S := by
  have r1 := r81_a hX hk
  have s1 := s81_a hX hk
  refine xcall_intro (ls := [.ref 74, .int (nI k), .int (nI a)]) q_X4_handHit (by decide) rfl (Nat.le_of_ble_eq_true rfl) rfl ?_
  refine wp_iload_n dX4_handHit_0 rfl ?_
  refine wn_if_lt dX4_handHit_1 rfl (by omega) ?_
  refine wp_iload_n dX4_handHit_4 rfl (wp_bipush (v := nI 24) dX4_handHit_5 rfl ?_)
  refine wn_icmp_ge dX4_handHit_7 rfl (by omega) (by omega) (fun c7 => absurd c7 (by omega)) (fun c7 => ?_)
  refine wp_iload_n dX4_handHit_10 rfl ?_
  refine wn_if_lt dX4_handHit_11 rfl (by omega) ?_
  refine wp_iload_n dX4_handHit_14 rfl (wp_iconst (v := nI 5) dX4_handHit_15 rfl ?_)
  refine wn_icmp_lt dX4_handHit_16 rfl (by omega) (by omega) (fun c16 => ?_) (fun c16 => absurd c16 (by omega))
  exact wp_aload_n dX4_handHit_21 rfl rfl (g4_44 dX4_handHit_22 (xsh hX sh_74) (xrr hX r74_9) (wp_iload_n dX4_handHit_25 rfl (wn_aaload dX4_handHit_26 (xsh hX sh_81) (Or.inr (Or.inr rfl)) (by omega) (by decide) r1 (wp_iload_n dX4_handHit_27 rfl (wn_iaload dX4_handHit_28 s1 rfl (by omega) (by decide) hv (wp_ireturn dX4_handHit_29 rfl rfl ⟨rfl, rfl⟩))))))
theorem c_chantOf {s : Nat} (d : Nat) (hs : s < 6) {S : xS} (hX : XC S) : xcall false (d + 1) j_X4_chantOf [.ref 74, .int (nI s)] S (some (.ref (106 + 4 * s))) S := by
  have gs := c_isSlot (nI s) d S
  rw [xsl_n (by omega), decide_eq_true hs] at gs
  have r1 := r75_a hX hs
  refine xcall_intro (ls := [.ref 74, .int (nI s)]) q_X4_chantOf (by decide) rfl (Nat.le_of_ble_eq_true rfl) rfl ?_
  refine wp_iload_n dX4_chantOf_0 rfl (wp_is1 dX4_chantOf_1 k4_126 q_X11_isSlot (by decide) (Nat.le_of_ble_eq_true rfl) gs ?_)
  refine wb_if_eq dX4_chantOf_4 rfl (fun c4 => absurd c4 (by decide)) (fun c4 => ?_)
  exact wp_aload_n dX4_chantOf_7 rfl rfl (g4_11 dX4_chantOf_8 (xsh hX sh_74) (xrr hX r74_0) (wp_iload_n dX4_chantOf_11 rfl (wn_aaload dX4_chantOf_12 (xsh hX sh_75) (Or.inr (Or.inl rfl)) (by omega) (by decide) r1 (wp_goto dX4_chantOf_13 rfl (wp_areturn dX4_chantOf_17 rfl rfl ⟨rfl, rfl⟩)))))
theorem c_allHands (d : Nat) {g : xRg} (hg : xgo g) {S : xS} (hX : XC S) (hR : xRC S g) : xcall false d j_X4_allHands [.ref 74] S (some (.int (nI (2 ^ xgH g - 1)))) S := by
  obtain ⟨q1, q2, q3⟩ := hg.H
  have hp := Nat.two_pow_pos (xgH g)
  refine xcall_intro (ls := [.ref 74]) q_X4_allHands (by decide) rfl (Nat.le_of_ble_eq_true rfl) rfl ?_
  exact wp_iconst (v := nI 1) dX4_allHands_0 rfl (wp_aload_n dX4_allHands_1 rfl rfl (gv4_53 dX4_allHands_2 (xsh hX sh_74) hR.2.2.1 (wv_ishl dX4_allHands_5 (xshl1 (by omega)) (wp_iconst (v := nI 1) dX4_allHands_6 rfl (wv_isub dX4_allHands_7 (pk_sub (by omega)) (wp_ireturn dX4_allHands_8 rfl rfl ⟨rfl, rfl⟩))))))
theorem c_isTooGreat (d : Nat) {g : xRg} (hg : xgo g) {S : xS} (hX : XC S) (hR : xRC S g) : xcall false d j_X4_isTooGreat [.ref 74] S (some (.int (xB (decide (8 < xgH g))))) S := by
  obtain ⟨q1, q2, q3⟩ := hg.H
  rcases Nat.lt_or_ge 8 (xgH g) with w | w
  · rw [decide_eq_true w]
    refine xcall_intro (ls := [.ref 74]) q_X4_isTooGreat (by decide) rfl (Nat.le_of_ble_eq_true rfl) rfl ?_
    refine wp_aload_n dX4_isTooGreat_0 rfl rfl (gv4_53 dX4_isTooGreat_1 (xsh hX sh_74) hR.2.2.1 (wp_bipush (v := nI 8) dX4_isTooGreat_4 rfl ?_))
    refine wn_icmp_le dX4_isTooGreat_6 rfl (by omega) (by omega) (fun c6 => absurd c6 (by omega)) (fun c6 => ?_)
    exact wp_iconst (v := nI 1) dX4_isTooGreat_9 rfl (wp_goto dX4_isTooGreat_10 rfl (wb_ret dX4_isTooGreat_14 rfl rfl ⟨rfl, rfl⟩))
  · rw [decide_eq_false (by omega)]
    refine xcall_intro (ls := [.ref 74]) q_X4_isTooGreat (by decide) rfl (Nat.le_of_ble_eq_true rfl) rfl ?_
    refine wp_aload_n dX4_isTooGreat_0 rfl rfl (gv4_53 dX4_isTooGreat_1 (xsh hX sh_74) hR.2.2.1 (wp_bipush (v := nI 8) dX4_isTooGreat_4 rfl ?_))
    refine wn_icmp_le dX4_isTooGreat_6 rfl (by omega) (by omega) (fun c6 => ?_) (fun c6 => absurd c6 (by omega))
    exact wp_iconst (v := nI 0) dX4_isTooGreat_13 rfl (wb_ret dX4_isTooGreat_14 rfl rfl ⟨rfl, rfl⟩)
theorem ow_loop {m : Nat} {d : Nat} {g : xRg} (hg : xgo g) (hm : m < 2 ^ 31) {S : xS} (hX : XC S) (hR : xRC S g) : ∀ (j p : Nat), p + j = xgP g → Wp false d 4 cX4_owners (some .int) false 14 [.ref 74, .int (nI m), .int (nI (xpo m p)), .int (nI p)] [] S (fun r S' => r = some (.int (nI (xpo m (xgP g)))) ∧ S' = S) := by
  obtain ⟨q1, q2, q3⟩ := hg.H
  have hP := hg.2.1
  have k0 := hR.1
  intro j
  induction j with
  | zero =>
    intro p hp
    have hpp : p = xgP g := by omega
    subst hpp
    refine wp_iload_n dX4_owners_14 rfl (wp_aload_n dX4_owners_15 rfl rfl (gv4_47 dX4_owners_16 (xsh hX sh_74) k0 ?_))
    refine wn_icmp_ge dX4_owners_19 rfl (by omega) (by omega) (fun c19 => ?_) (fun c19 => absurd c19 (by omega))
    exact wp_iload_n dX4_owners_44 rfl (wp_ireturn dX4_owners_45 rfl rfl ⟨rfl, rfl⟩)
  | succ j ih =>
    intro p hp
    have ih2 := ih (p + 1) (by omega)
    have hd := Nat.div_le_self m (2 ^ (2 * p))
    have ea : nI (m / 2 ^ (2 * p)) &&& nI 3 = nI (m / 2 ^ (2 * p) % 4) := xand3 (by omega)
    rcases Nat.eq_zero_or_pos (m / 2 ^ (2 * p) % 4) with w | w
    · rw [xpo, if_pos w] at ih2
      refine wp_iload_n dX4_owners_14 rfl (wp_aload_n dX4_owners_15 rfl rfl (gv4_47 dX4_owners_16 (xsh hX sh_74) k0 ?_))
      refine wn_icmp_ge dX4_owners_19 rfl (by omega) (by omega) (fun c19 => absurd c19 (by omega)) (fun c19 => ?_)
      refine wp_iload_n dX4_owners_22 rfl (wp_iconst (v := nI 2) dX4_owners_23 rfl (wp_iload_n dX4_owners_24 rfl (wv_imul dX4_owners_25 (pk_mul _ _) (wv_ishr dX4_owners_26 (xshR hm (by omega)) (wp_iconst (v := nI 3) dX4_owners_27 rfl (wv_iand dX4_owners_28 ea ?_))))))
      refine wn_if_eq dX4_owners_29 rfl (by omega) (fun c29 => ?_) (fun c29 => absurd c29 (by omega))
      exact wp_iinc dX4_owners_38 rfl (nI_1 _) ⟨Nat.le_of_ble_eq_true rfl, Or.inr rfl⟩ rfl (wp_goto dX4_owners_41 rfl ih2)
    · rw [xpo, if_neg (by omega)] at ih2
      refine wp_iload_n dX4_owners_14 rfl (wp_aload_n dX4_owners_15 rfl rfl (gv4_47 dX4_owners_16 (xsh hX sh_74) k0 ?_))
      refine wn_icmp_ge dX4_owners_19 rfl (by omega) (by omega) (fun c19 => absurd c19 (by omega)) (fun c19 => ?_)
      refine wp_iload_n dX4_owners_22 rfl (wp_iconst (v := nI 2) dX4_owners_23 rfl (wp_iload_n dX4_owners_24 rfl (wv_imul dX4_owners_25 (pk_mul _ _) (wv_ishr dX4_owners_26 (xshR hm (by omega)) (wp_iconst (v := nI 3) dX4_owners_27 rfl (wv_iand dX4_owners_28 ea ?_))))))
      refine wn_if_eq dX4_owners_29 rfl (by omega) (fun c29 => absurd c29 (by omega)) (fun c29 => ?_)
      exact wp_iload_n dX4_owners_32 rfl (wp_iconst (v := nI 1) dX4_owners_33 rfl (wp_iload_n dX4_owners_34 rfl (wv_ishl dX4_owners_35 (xshl1 (by omega)) (wv_ior dX4_owners_36 (fa_or _ _) (wp_istore_n dX4_owners_37 ⟨Nat.le_of_ble_eq_true rfl, Or.inr rfl⟩ rfl (wp_iinc dX4_owners_38 rfl (nI_1 _) ⟨Nat.le_of_ble_eq_true rfl, Or.inr rfl⟩ rfl (wp_goto dX4_owners_41 rfl ih2)))))))
theorem c_owners {m : Nat} (d : Nat) {g : xRg} (hg : xgo g) (hm : m < 2 ^ 31) {S : xS} (hX : XC S) (hR : xRC S g) : xcall false d j_X4_owners [.ref 74, .int (nI m)] S (some (.int (nI (xpm g m)))) S := by
  have k1 := hR.2.1
  unfold xpm
  cases e : xgf g with
  | true =>
    rw [e, if_pos rfl] at k1
    rw [if_pos rfl]
    refine xcall_intro (ls := [.ref 74, .int (nI m), .float 0, .float 0]) q_X4_owners (by decide) rfl (Nat.le_of_ble_eq_true rfl) rfl ?_
    refine wp_aload_n dX4_owners_0 rfl rfl (gv4_50 dX4_owners_1 (xsh hX sh_74) k1 (wp_iconst (v := nI 1) dX4_owners_4 rfl ?_))
    refine wn_icmp_ne dX4_owners_5 rfl (by omega) (by omega) (fun c5 => ?_) (fun c5 => absurd c5 (by omega))
    exact wp_iconst (v := nI 0) dX4_owners_10 rfl (wp_istore_n dX4_owners_11 ⟨Nat.le_of_ble_eq_true rfl, Or.inr rfl⟩ rfl (wp_iconst (v := nI 0) dX4_owners_12 rfl (wp_istore_n dX4_owners_13 ⟨Nat.le_of_ble_eq_true rfl, Or.inr rfl⟩ rfl (ow_loop hg hm hX hR (xgP g) 0 (Nat.zero_add _)))))
  | false =>
    rw [e, if_neg (by decide)] at k1
    rw [if_neg (by decide)]
    refine xcall_intro (ls := [.ref 74, .int (nI m), .float 0, .float 0]) q_X4_owners (by decide) rfl (Nat.le_of_ble_eq_true rfl) rfl ?_
    refine wp_aload_n dX4_owners_0 rfl rfl (gv4_50 dX4_owners_1 (xsh hX sh_74) k1 (wp_iconst (v := nI 1) dX4_owners_4 rfl ?_))
    refine wn_icmp_ne dX4_owners_5 rfl (by omega) (by omega) (fun c5 => absurd c5 (by omega)) (fun c5 => ?_)
    exact wp_iload_n dX4_owners_8 rfl (wp_ireturn dX4_owners_9 rfl rfl ⟨rfl, rfl⟩)
theorem c_isOver {m : Nat} (d : Nat) {g : xRg} (hg : xgo g) (hm : m < 2 ^ xgH g) {S : xS} (hX : XC S) (hR : xRC S g) : xcall false (d + 1) j_X4_isOver [.ref 74, .int (nI m)] S (some (.int (xB (xovr g m)))) S := by
  obtain ⟨q1, q2, q3⟩ := hg.H
  have h24 := x24 q2 hm
  have ks := hR.2.2.2.2.2.1
  have kl := hR.2.2.2.1
  have hl := hg.2.2.2
  have go := c_owners (d + 0) hg (show m < 2 ^ 31 by omega) hX hR
  have hp := xpm_lt hm
  have hp2 : 2 ^ xgP g ≤ 2 ^ 12 := Nat.pow_le_pow_right (by decide) hg.2.1
  have gb := c_bitCount (S := S) (xpm g m) d (by omega)
  have hb := xcb_le (xpm g m) 12
  unfold xovr
  cases e : xgs g with
  | true =>
    rw [e] at ks
    show xcall _ _ _ _ _ (some (.int (xB false))) _
    refine xcall_intro (ls := [.ref 74, .int (nI m)]) q_X4_isOver (by decide) rfl (Nat.le_of_ble_eq_true rfl) rfl ?_
    refine wp_aload_n dX4_isOver_0 rfl rfl (gv4_106 dX4_isOver_1 (xsh hX sh_74) ks ?_)
    refine wb_if_ne dX4_isOver_4 rfl (fun c4 => ?_) (fun c4 => absurd c4 (by decide))
    exact wp_iconst (v := nI 0) dX4_isOver_26 rfl (wb_ret dX4_isOver_27 rfl rfl ⟨rfl, rfl⟩)
  | false =>
    rw [e] at ks
    rcases Nat.lt_or_ge (xgl g) (xcb (xpm g m) 12) with w | w
    · rw [decide_eq_false (by omega)]
      refine xcall_intro (ls := [.ref 74, .int (nI m)]) q_X4_isOver (by decide) rfl (Nat.le_of_ble_eq_true rfl) rfl ?_
      refine wp_aload_n dX4_isOver_0 rfl rfl (gv4_106 dX4_isOver_1 (xsh hX sh_74) ks ?_)
      refine wb_if_ne dX4_isOver_4 rfl (fun c4 => absurd c4 (by decide)) (fun c4 => ?_)
      refine wp_aload_n dX4_isOver_7 rfl rfl (wp_iload_n dX4_isOver_8 rfl (wp_iv2 dX4_isOver_9 k4_132 q_X4_owners (by decide) (xsh hX sh_74) (by decide) (Nat.le_of_ble_eq_true rfl) go (wp_is1 dX4_isOver_12 k4_135 q_J6_bitCount_0f7a4 (by decide) (Nat.le_of_ble_eq_true rfl) gb (wp_aload_n dX4_isOver_15 rfl rfl (gv4_56 dX4_isOver_16 (xsh hX sh_74) kl ?_)))))
      refine wn_icmp_gt dX4_isOver_19 rfl (by omega) (by omega) (fun c19 => ?_) (fun c19 => absurd c19 (by omega))
      exact wp_iconst (v := nI 0) dX4_isOver_26 rfl (wb_ret dX4_isOver_27 rfl rfl ⟨rfl, rfl⟩)
    · rw [decide_eq_true w]
      refine xcall_intro (ls := [.ref 74, .int (nI m)]) q_X4_isOver (by decide) rfl (Nat.le_of_ble_eq_true rfl) rfl ?_
      refine wp_aload_n dX4_isOver_0 rfl rfl (gv4_106 dX4_isOver_1 (xsh hX sh_74) ks ?_)
      refine wb_if_ne dX4_isOver_4 rfl (fun c4 => absurd c4 (by decide)) (fun c4 => ?_)
      refine wp_aload_n dX4_isOver_7 rfl rfl (wp_iload_n dX4_isOver_8 rfl (wp_iv2 dX4_isOver_9 k4_132 q_X4_owners (by decide) (xsh hX sh_74) (by decide) (Nat.le_of_ble_eq_true rfl) go (wp_is1 dX4_isOver_12 k4_135 q_J6_bitCount_0f7a4 (by decide) (Nat.le_of_ble_eq_true rfl) gb (wp_aload_n dX4_isOver_15 rfl rfl (gv4_56 dX4_isOver_16 (xsh hX sh_74) kl ?_)))))
      refine wn_icmp_gt dX4_isOver_19 rfl (by omega) (by omega) (fun c19 => absurd c19 (by omega)) (fun c19 => ?_)
      exact wp_iconst (v := nI 1) dX4_isOver_22 rfl (wp_goto dX4_isOver_23 rfl (wb_ret dX4_isOver_27 rfl rfl ⟨rfl, rfl⟩))
