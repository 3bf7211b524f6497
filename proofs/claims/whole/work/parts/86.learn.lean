/-! a RHYME made ready to be COUNTED: learn of the class -/
theorem xdrop_s {α : Type} (d : α) : ∀ (l : List α) (k : Nat), k < l.length → l.drop k = l.getD k d :: l.drop (k + 1)
  | [], k, h => absurd h (Nat.not_lt_zero k)
  | x :: l, 0, h => rfl
  | x :: l, k + 1, h => by
    show l.drop k = l.getD k d :: l.drop (k + 1)
    exact xdrop_s d l k (Nat.lt_of_succ_lt_succ h)
def xGs (c : Nat) (S : xS) (A : List Nat) : Prop := ∀ i, i < A.length → S.2.1 (c + 1) i = nI (A.getD i 0)
theorem xGs_app {c g : Nat} {S : xS} {A : List Nat} (h : xGs c S A) : xGs c (xSI S (c + 1) A.length (nI g)) (A ++ [g]) := by
  intro i hi
  have hi' : i < A.length + 1 := by rw [List.length_append] at hi; exact hi
  rw [xapp_get]
  rcases Nat.lt_or_ge i A.length with w | w
  · rw [if_pos w]
    exact xi (h i w) (Or.inr (by omega))
  · rw [if_neg (by omega), show i = A.length by omega, Nat.sub_self]
    exact xI_same _ _ _ _
theorem xgp_all (ct : xIt → Nat) (bt : Bool) : ∀ (L : List xLn), (L.flatMap (xgpl ct bt)).length ≤ (L.flatMap xmit).length + L.length
  | [] => Nat.le_refl _
  | ln :: L => by
    have h := xgp_all ct bt L
    have h2 : (xgpl ct bt ln).length ≤ (xmit ln).length + 1 := xgp_len ct bt ln.2.2 0
    simp only [List.flatMap_cons, List.length_append, List.length_cons]
    omega
theorem xcI_ge : ∀ (L : List xLn), (L.flatMap xmit).length ≤ (L.flatMap xcI).length
  | [] => Nat.le_refl _
  | ln :: L => by
    have h := xcI_ge L
    have h2 : (xmit ln).length ≤ (xcI ln).length := by unfold xcI xmit; rw [List.length_append]; omega
    simp only [List.flatMap_cons, List.length_append]
    omega
theorem xof_tk {α : Type} (f : xLn → List α) (L : List xLn) (l : Nat) (h : l < L.length) : (L.take (l + 1)).flatMap f = (L.take l).flatMap f ++ f (L.getD l (0, 0, [])) := by
  rw [List.take_succ, List.getElem?_eq_getElem h, List.flatMap_append, List.getD_eq_getElem?_getD, List.getElem?_eq_getElem h]
  simp
theorem xlen_pre {α : Type} (f : xLn → List α) (L : List xLn) (l : Nat) : ((L.take l).flatMap f).length ≤ (L.flatMap f).length := xof_le f L l
theorem ll_loop {a c n l : Nat} {t : Nat → Nat} {L : List xLn} {v : xTg} {bt : Bool} {d : Nat} {x3 : Value} (hco : xCo c) (ho : xRo a) (hl : l < L.length) : ∀ (j k g : Nat) (S : xS) (A : List Nat) (x8 : Value), k + j = (xcI (L.getD l (0, 0, []))).length → (A ++ xgp (xct v t bt) bt ((xcI (L.getD l (0, 0, []))).drop k) g).length ≤ 136 → XC S → xRV a S n t L → xRB a S v t L → xGs c S A → Wp false (d + 1) 1 cX1_learnLine (some .int) false 13 [.ref c, .ref a, .int (nI l), x3, .int (xB bt), .int (nI A.length), .int (nI g), .int (nI (xof xcI L l + k)), x8] [] S (fun r S' => r = some (.int (nI (A ++ xgp (xct v t bt) bt ((xcI (L.getD l (0, 0, []))).drop k) g).length)) ∧ xFl (fun i _ => i = c + 1) S S' ∧ xGs c S' (A ++ xgp (xct v t bt) bt ((xcI (L.getD l (0, 0, []))).drop k) g)) := by
  have hcu : 106 ≤ c := by obtain ⟨s, hs, rfl⟩ := hco; omega
  have hau := ho.m
  intro j
  induction j with
  | zero =>
    intro k g S A x8 hk hlen hX hV hB hA
    have hkk : k = (xcI (L.getD l (0, 0, []))).length := by omega
    have hc := (hco.sh hX).1
    have ha := (ho.sh hX).1
    have gf := c_firstItem (d + 0) ho hX hV (l := l + 1) (by omega)
    have e := xof_succ xcI L l hl
    have ok := hV.2.2.2.2.2.2.1
    have h120 := xRok_120 ok hV.2.2.2.2.2.2.2.1
    have hle := xof_le xcI L (l + 1)
    subst hkk
    rw [List.drop_length, xgp] at hlen ⊢
    have hA2 : A.length + 1 ≤ 136 := by rw [List.length_append] at hlen; exact hlen
    have gp := c_putGap (gv := nI g) (d + 0) hco (show A.length < 136 by omega) hX
    have hlen2 : (A ++ [g]).length = A.length + 1 := by rw [List.length_append]; rfl
    rw [hlen2]
    refine wp_iload dX1_learnLine_13 rfl (wp_aload_n dX1_learnLine_15 rfl rfl (wp_iload_n dX1_learnLine_16 rfl (wp_iconst (v := nI 1) dX1_learnLine_17 rfl (wv_iadd dX1_learnLine_18 (nI_add _ _) (wp_iv2 dX1_learnLine_19 k1_51 q_X3_firstItem (by decide) ha (by decide) (Nat.le_of_ble_eq_true rfl) gf ?_)))))
    refine wn_icmp_ge dX1_learnLine_22 rfl (by omega) (by omega) (fun c22 => ?_) (fun c22 => absurd c22 (by omega))
    exact wp_aload_n dX1_learnLine_96 rfl rfl (wp_iload dX1_learnLine_97 rfl (wp_iload dX1_learnLine_99 rfl (wp_iv3 dX1_learnLine_101 k1_57 q_X1_putGap (by decide) hc (by decide) (Nat.le_of_ble_eq_true rfl) gp (wp_ireturn dX1_learnLine_104 rfl rfl ⟨rfl, (xFl.rf S).SI rfl, xGs_app hA⟩))))
  | succ j ih =>
    intro k g S A x8 hk hlen hX hV hB hA
    have hc := (hco.sh hX).1
    have ha := (ho.sh hX).1
    have gf := c_firstItem (d + 0) ho hX hV (l := l + 1) (by omega)
    have e := xof_succ xcI L l hl
    have ok := hV.2.2.2.2.2.2.1
    have h120 := xRok_120 ok hV.2.2.2.2.2.2.2.1
    have hle := xof_le xcI L (l + 1)
    obtain ⟨f1, f2⟩ := xof_lt ok hl (show k < (xcI (L.getD l (0, 0, []))).length by omega)
    have gk := c_kindOf (d + 0) ho hX hV f1
    have gc := c_countOf (d + 0) ho hX hV hB bt f1
    rw [f2] at gk gc
    have hk5 : ((xcI (L.getD l (0, 0, []))).getD k (0, 0, 0)).1 ≤ 5 := by
      rw [← f2]
      rcases xRok_mem ok (xmem_getD (d := (0, 0, 0)) f1) with q | q
      · have := q.2.2.2.2.2; omega
      · have := q.1; omega
    have ed := xdrop_s (0, 0, 0) (xcI (L.getD l (0, 0, []))) k (by omega)
    rw [ed, xgp] at hlen ⊢
    rcases Decidable.em (((xcI (L.getD l (0, 0, []))).getD k (0, 0, 0)).1 = 3) with e3 | e3
    · cases bt with
      | true =>
        rw [if_pos ⟨e3, rfl⟩] at hlen ⊢
        have hA2 : A.length < 136 := by rw [List.length_append, List.length_cons] at hlen; omega
        have gp := c_putGap (gv := nI g) (d + 0) hco hA2 hX
        have F1 : xFl (fun i _ => i = c + 1) S (xSI S (c + 1) A.length (nI g)) := (xFl.rf S).SI rfl
        have X1 := F1.XC hX
        have ih2 := fun x8 => ih (k + 1) 0 (xSI S (c + 1) A.length (nI g)) (A ++ [g]) x8 (by omega) (by rw [List.append_assoc]; exact hlen) X1 (hV.fm (F1.m (R := fun _ _ => False)) (fun i k h => by omega)) (hB.fr F1 (fun k h => by omega)) (xGs_app hA)
        rw [show (A ++ [g]).length = A.length + 1 by rw [List.length_append]; rfl, List.append_assoc] at ih2
        have lift : ∀ x8, Wp false (d + 1) 1 cX1_learnLine (some .int) false 13 [.ref c, .ref a, .int (nI l), x3, .int (xB true), .int (nI (A.length + 1)), .int (nI 0), .int (nI (xof xcI L l + k + 1)), x8] [] (xSI S (c + 1) A.length (nI g)) (fun r S' => r = some (.int (nI (A ++ ([g] ++ xgp (xct v t true) true ((xcI (L.getD l (0, 0, []))).drop (k + 1)) 0)).length)) ∧ xFl (fun i _ => i = c + 1) S S' ∧ xGs c S' (A ++ ([g] ++ xgp (xct v t true) true ((xcI (L.getD l (0, 0, []))).drop (k + 1)) 0))) := fun x8 => (ih2 x8).mono (fun r S' h => ⟨h.1, F1.tt h.2.1, h.2.2⟩)
        refine wp_iload dX1_learnLine_13 rfl (wp_aload_n dX1_learnLine_15 rfl rfl (wp_iload_n dX1_learnLine_16 rfl (wp_iconst (v := nI 1) dX1_learnLine_17 rfl (wv_iadd dX1_learnLine_18 (nI_add _ _) (wp_iv2 dX1_learnLine_19 k1_51 q_X3_firstItem (by decide) ha (by decide) (Nat.le_of_ble_eq_true rfl) gf ?_)))))
        refine wn_icmp_ge dX1_learnLine_22 rfl (by omega) (by omega) (fun c22 => absurd c22 (by omega)) (fun c22 => ?_)
        refine wp_aload_n dX1_learnLine_25 rfl rfl (wp_iload dX1_learnLine_26 rfl (wp_iv2 dX1_learnLine_28 k1_54 q_X3_kindOf (by decide) ha (by decide) (Nat.le_of_ble_eq_true rfl) gk (wp_iconst (v := nI 3) dX1_learnLine_31 rfl ?_)))
        refine wn_icmp_ne dX1_learnLine_32 rfl (by omega) (by omega) (fun c32 => absurd c32 (by omega)) (fun c32 => ?_)
        refine wp_iconst (v := nI 1) dX1_learnLine_35 rfl (wp_goto dX1_learnLine_36 rfl (wp_istore dX1_learnLine_40 ⟨Nat.le_of_ble_eq_true rfl, Or.inr rfl⟩ rfl (wp_iload dX1_learnLine_42 rfl ?_)))
        refine wn_if_eq dX1_learnLine_44 rfl (by omega) (fun c44 => absurd c44 (by omega)) (fun c44 => ?_)
        refine wp_iload dX1_learnLine_47 rfl ?_
        refine wb_if_eq dX1_learnLine_49 rfl (fun c49 => absurd c49 (by decide)) (fun c49 => ?_)
        exact wp_aload_n dX1_learnLine_52 rfl rfl (wp_iload dX1_learnLine_53 rfl (wp_iload dX1_learnLine_55 rfl (wp_iv3 dX1_learnLine_57 k1_57 q_X1_putGap (by decide) hc (by decide) (Nat.le_of_ble_eq_true rfl) gp (wp_istore dX1_learnLine_60 ⟨Nat.le_of_ble_eq_true rfl, Or.inr rfl⟩ rfl (wp_iconst (v := nI 0) dX1_learnLine_62 rfl (wp_istore dX1_learnLine_63 ⟨Nat.le_of_ble_eq_true rfl, Or.inr rfl⟩ rfl (wp_goto dX1_learnLine_65 rfl (wp_iinc dX1_learnLine_90 rfl (nI_1 _) ⟨Nat.le_of_ble_eq_true rfl, Or.inr rfl⟩ rfl (wp_goto dX1_learnLine_93 rfl (lift _))))))))))
      | false =>
        rw [if_neg (fun w => absurd w.2 (by decide)), if_pos e3] at hlen ⊢
        have ih2 := fun x8 => ih (k + 1) (g + 1) S A x8 (by omega) hlen hX hV hB hA
        refine wp_iload dX1_learnLine_13 rfl (wp_aload_n dX1_learnLine_15 rfl rfl (wp_iload_n dX1_learnLine_16 rfl (wp_iconst (v := nI 1) dX1_learnLine_17 rfl (wv_iadd dX1_learnLine_18 (nI_add _ _) (wp_iv2 dX1_learnLine_19 k1_51 q_X3_firstItem (by decide) ha (by decide) (Nat.le_of_ble_eq_true rfl) gf ?_)))))
        refine wn_icmp_ge dX1_learnLine_22 rfl (by omega) (by omega) (fun c22 => absurd c22 (by omega)) (fun c22 => ?_)
        refine wp_aload_n dX1_learnLine_25 rfl rfl (wp_iload dX1_learnLine_26 rfl (wp_iv2 dX1_learnLine_28 k1_54 q_X3_kindOf (by decide) ha (by decide) (Nat.le_of_ble_eq_true rfl) gk (wp_iconst (v := nI 3) dX1_learnLine_31 rfl ?_)))
        refine wn_icmp_ne dX1_learnLine_32 rfl (by omega) (by omega) (fun c32 => absurd c32 (by omega)) (fun c32 => ?_)
        refine wp_iconst (v := nI 1) dX1_learnLine_35 rfl (wp_goto dX1_learnLine_36 rfl (wp_istore dX1_learnLine_40 ⟨Nat.le_of_ble_eq_true rfl, Or.inr rfl⟩ rfl (wp_iload dX1_learnLine_42 rfl ?_)))
        refine wn_if_eq dX1_learnLine_44 rfl (by omega) (fun c44 => absurd c44 (by omega)) (fun c44 => ?_)
        refine wp_iload dX1_learnLine_47 rfl ?_
        refine wb_if_eq dX1_learnLine_49 rfl (fun c49 => ?_) (fun c49 => absurd c49 (by decide))
        refine wp_iload dX1_learnLine_68 rfl (wp_iload dX1_learnLine_70 rfl ?_)
        refine wn_if_eq dX1_learnLine_72 rfl (by omega) (fun c72 => absurd c72 (by omega)) (fun c72 => ?_)
        exact wp_iconst (v := nI 1) dX1_learnLine_75 rfl (wp_goto dX1_learnLine_76 rfl (wv_iadd dX1_learnLine_87 (nI_add _ _) (wp_istore dX1_learnLine_88 ⟨Nat.le_of_ble_eq_true rfl, Or.inr rfl⟩ rfl (wp_iinc dX1_learnLine_90 rfl (nI_1 _) ⟨Nat.le_of_ble_eq_true rfl, Or.inr rfl⟩ rfl (wp_goto dX1_learnLine_93 rfl (ih2 _))))))
    · rw [if_neg (fun w => e3 w.1), if_neg e3] at hlen ⊢
      have ih2 := fun x8 => ih (k + 1) (g + (xct v t bt) ((xcI (L.getD l (0, 0, []))).getD k (0, 0, 0))) S A x8 (by omega) hlen hX hV hB hA
      refine wp_iload dX1_learnLine_13 rfl (wp_aload_n dX1_learnLine_15 rfl rfl (wp_iload_n dX1_learnLine_16 rfl (wp_iconst (v := nI 1) dX1_learnLine_17 rfl (wv_iadd dX1_learnLine_18 (nI_add _ _) (wp_iv2 dX1_learnLine_19 k1_51 q_X3_firstItem (by decide) ha (by decide) (Nat.le_of_ble_eq_true rfl) gf ?_)))))
      refine wn_icmp_ge dX1_learnLine_22 rfl (by omega) (by omega) (fun c22 => absurd c22 (by omega)) (fun c22 => ?_)
      refine wp_aload_n dX1_learnLine_25 rfl rfl (wp_iload dX1_learnLine_26 rfl (wp_iv2 dX1_learnLine_28 k1_54 q_X3_kindOf (by decide) ha (by decide) (Nat.le_of_ble_eq_true rfl) gk (wp_iconst (v := nI 3) dX1_learnLine_31 rfl ?_)))
      refine wn_icmp_ne dX1_learnLine_32 rfl (by omega) (by omega) (fun c32 => ?_) (fun c32 => absurd c32 (by omega))
      refine wp_iconst (v := nI 0) dX1_learnLine_39 rfl (wp_istore dX1_learnLine_40 ⟨Nat.le_of_ble_eq_true rfl, Or.inr rfl⟩ rfl (wp_iload dX1_learnLine_42 rfl ?_))
      refine wn_if_eq dX1_learnLine_44 rfl (by omega) (fun c44 => ?_) (fun c44 => absurd c44 (by omega))
      refine wp_iload dX1_learnLine_68 rfl (wp_iload dX1_learnLine_70 rfl ?_)
      refine wn_if_eq dX1_learnLine_72 rfl (by omega) (fun c72 => ?_) (fun c72 => absurd c72 (by omega))
      exact wp_aload_n dX1_learnLine_79 rfl rfl (wp_iload dX1_learnLine_80 rfl (wp_iload dX1_learnLine_82 rfl (wp_iv3 dX1_learnLine_84 k1_60 q_X3_countOf (by decide) ha (by decide) (Nat.le_of_ble_eq_true rfl) gc (wv_iadd dX1_learnLine_87 (nI_add _ _) (wp_istore dX1_learnLine_88 ⟨Nat.le_of_ble_eq_true rfl, Or.inr rfl⟩ rfl (wp_iinc dX1_learnLine_90 rfl (nI_1 _) ⟨Nat.le_of_ble_eq_true rfl, Or.inr rfl⟩ rfl (wp_goto dX1_learnLine_93 rfl (ih2 _))))))))
theorem c_learnLine {a c n l : Nat} {t : Nat → Nat} {L : List xLn} {v : xTg} {bt : Bool} (d : Nat) (hco : xCo c) (ho : xRo a) (hl : l < L.length) {A : List Nat} (hlen : (A ++ xgpl (xct v t bt) bt (L.getD l (0, 0, []))).length ≤ 136) {S : xS} (hX : XC S) (hV : xRV a S n t L) (hB : xRB a S v t L) (hA : xGs c S A) : ∃ S', xcall false (d + 1) j_X1_learnLine [.ref c, .ref a, .int (nI l), .int (nI A.length), .int (xB bt)] S (some (.int (nI (A ++ xgpl (xct v t bt) bt (L.getD l (0, 0, []))).length))) S' ∧ xFl (fun i _ => i = c + 1) S S' ∧ xGs c S' (A ++ xgpl (xct v t bt) bt (L.getD l (0, 0, []))) := by
  have hc := (hco.sh hX).1
  have ha := (ho.sh hX).1
  have gf := c_firstItem (d + 0) ho hX hV (l := l) (by omega)
  rw [← xgp_cI] at hlen ⊢
  obtain ⟨r, S', g1, rfl, z1, z2⟩ := xcall_some (al := false) (d := d + 1) (ls := [.ref c, .ref a, .int (nI l), .int (nI A.length), .int (xB bt), .float 0, .float 0, .float 0, .float 0]) (S := S) (as := [.ref c, .ref a, .int (nI l), .int (nI A.length), .int (xB bt)]) q_X1_learnLine (by decide) rfl (Nat.le_of_ble_eq_true rfl) rfl
    (P := fun r S' => r = some (.int (nI (A ++ xgp (xct v t bt) bt (xcI (L.getD l (0, 0, []))) 0).length)) ∧ xFl (fun i _ => i = c + 1) S S' ∧ xGs c S' (A ++ xgp (xct v t bt) bt (xcI (L.getD l (0, 0, []))) 0)) (by
      exact wp_iload_n dX1_learnLine_0 rfl (wp_istore dX1_learnLine_1 ⟨Nat.le_of_ble_eq_true rfl, Or.inr rfl⟩ rfl (wp_iconst (v := nI 0) dX1_learnLine_3 rfl (wp_istore dX1_learnLine_4 ⟨Nat.le_of_ble_eq_true rfl, Or.inr rfl⟩ rfl (wp_aload_n dX1_learnLine_6 rfl rfl (wp_iload_n dX1_learnLine_7 rfl (wp_iv2 dX1_learnLine_8 k1_51 q_X3_firstItem (by decide) ha (by decide) (Nat.le_of_ble_eq_true rfl) gf (wp_istore dX1_learnLine_11 ⟨Nat.le_of_ble_eq_true rfl, Or.inr rfl⟩ rfl (ll_loop hco ho hl (xcI (L.getD l (0, 0, []))).length 0 0 S A _ (Nat.zero_add _) hlen hX hV hB hA)))))))))
  exact ⟨S', g1, z1, z2⟩
theorem le_loop {a c n : Nat} {t : Nat → Nat} {L : List xLn} {v : xTg} {bt : Bool} {d : Nat} (hco : xCo c) (ho : xRo a) {Q : Option Value → xS → Prop} : ∀ (j l : Nat) (S : xS), l + j = L.length → XC S → xRV a S n t L → xRB a S v t L → S.2.1 c 3 = nI L.length → xGs c S ((L.take l).flatMap (xgpl (xct v t bt) bt)) → (∀ q, q < l → S.2.1 (c + 2) q = nI (xof (xgpl (xct v t bt) bt) L q) ∧ S.2.1 (c + 3) q = nI (L.getD q (0, 0, [])).1) → (∀ S' y4, xFl (fun i _ => i = c + 1 ∨ i = c + 2 ∨ i = c + 3) S S' → xGs c S' (L.flatMap (xgpl (xct v t bt) bt)) → (∀ q, q < L.length → S'.2.1 (c + 2) q = nI (xof (xgpl (xct v t bt) bt) L q) ∧ S'.2.1 (c + 3) q = nI (L.getD q (0, 0, [])).1) → Wp false (d + 2) 1 cX1_learn none false 67 [.ref c, .ref a, .int (xB bt), .int (nI (L.flatMap (xgpl (xct v t bt) bt)).length), y4] [] S' Q) → Wp false (d + 2) 1 cX1_learn none false 21 [.ref c, .ref a, .int (xB bt), .int (nI ((L.take l).flatMap (xgpl (xct v t bt) bt)).length), .int (nI l)] [] S Q := by
  have hcu : 106 ≤ c := by obtain ⟨s, hs, rfl⟩ := hco; omega
  have hau := ho.m
  intro j
  induction j with
  | zero =>
    intro l S hl hX hV hB k3 hA hR K
    have hc := (hco.sh hX).1
    have h16 := hV.2.2.2.2.2.2.2.2.1
    have hll : l = L.length := by omega
    subst hll
    rw [List.take_length] at hA ⊢
    refine wp_iload dX1_learn_21 rfl (wp_aload_n dX1_learn_23 rfl rfl (gv1_31 dX1_learn_24 hc k3 ?_))
    refine wn_icmp_ge dX1_learn_27 rfl (by omega) (by omega) (fun c27 => ?_) (fun c27 => absurd c27 (by omega))
    exact K S _ (xFl.rf S) hA hR
  | succ j ih =>
    intro l S hl hX hV hB k3 hA hR K
    obtain ⟨hc, hc1, hc2, hc3, rc0, rc1, rc2⟩ := hco.sh hX
    have ha := (ho.sh hX).1
    have h16 := hV.2.2.2.2.2.2.2.2.1
    have ok := hV.2.2.2.2.2.2.1
    have h120 := xRok_120 ok hV.2.2.2.2.2.2.2.1
    have hge := xcI_ge L
    have hall := xgp_all (xct v t bt) bt L
    have ek := xof_tk (xgpl (xct v t bt) bt) L l (by omega)
    have hpl := xlen_pre (xgpl (xct v t bt) bt) L (l + 1)
    have F1 : xFl (fun i k => i = c + 2 ∧ k = l) S (xSI S (c + 2) l (nI ((L.take l).flatMap (xgpl (xct v t bt) bt)).length)) := (xFl.rf S).SI ⟨rfl, rfl⟩
    have V1 := hV.fm (F1.m (R := fun _ _ => False)) (fun i k h => by omega)
    have gt := c_timesOf (d + 0) ho (F1.XC hX) V1 (show l < L.length by omega)
    have F2 : xFl (fun i k => (i = c + 2 ∨ i = c + 3) ∧ k = l) S (xSI (xSI S (c + 2) l (nI ((L.take l).flatMap (xgpl (xct v t bt) bt)).length)) (c + 3) l (nI (L.getD l (0, 0, [])).1)) := (F1.mono (fun i k h => ⟨Or.inl h.1, h.2⟩)).SI ⟨Or.inr rfl, rfl⟩
    have X2 := F2.XC hX
    have V2 := hV.fm (F2.m (R := fun _ _ => False)) (fun i k h => by omega)
    have B2 := hB.fr F2 (fun k h => by omega)
    obtain ⟨S3, g3, f3, h3⟩ := c_learnLine d hco ho (show l < L.length by omega) (A := ((L.take l).flatMap (xgpl (xct v t bt) bt))) (bt := bt) (v := v) (by rw [← ek]; omega) X2 V2 B2 (fun i hi => F2.i (hA i hi) (by omega))
    have X3 := f3.XC X2
    rw [← ek] at g3 h3
    have F3 : xFl (fun i _ => i = c + 1 ∨ i = c + 2 ∨ i = c + 3) S S3 := (F2.mono (fun i k h => by omega)).tt (f3.mono (fun i k h => by omega))
    have ih2 := ih (l + 1) S3 (by omega) X3 (hV.fm (F3.m (R := fun _ _ => False)) (fun i k h => by omega)) (hB.fr F3 (fun k h => by omega)) (F3.i k3 (by omega)) h3 (fun q hq => by
      rcases Nat.lt_or_ge q l with w | w
      · exact ⟨f3.i (F2.i (hR q w).1 (by omega)) (by omega), f3.i (F2.i (hR q w).2 (by omega)) (by omega)⟩
      · rw [show q = l by omega]
        exact ⟨f3.i (xi (xI_same _ _ _ _) (Or.inl (by omega))) (by omega), f3.i (xI_same _ _ _ _) (by omega)⟩) (fun S' y4 f h1 h2 => K S' y4 (F3.tt f) h1 h2)
    refine wp_iload dX1_learn_21 rfl (wp_aload_n dX1_learn_23 rfl rfl (gv1_31 dX1_learn_24 hc k3 ?_))
    refine wn_icmp_ge dX1_learn_27 rfl (by omega) (by omega) (fun c27 => absurd c27 (by omega)) (fun c27 => ?_)
    exact wp_aload_n dX1_learn_30 rfl rfl (g1_15 dX1_learn_31 hc rc1 (wp_iload dX1_learn_34 rfl (wp_iload_n dX1_learn_36 rfl (wn_iastore dX1_learn_37 hc2 rfl (by omega) (by decide) (wp_aload_n dX1_learn_38 rfl rfl (g1_18 dX1_learn_39 hc rc2 (wp_iload dX1_learn_42 rfl (wp_aload_n dX1_learn_44 rfl rfl (wp_iload dX1_learn_45 rfl (wp_iv2 dX1_learn_47 k1_32 q_X3_timesOf (by decide) ha (by decide) (Nat.le_of_ble_eq_true rfl) gt (wn_iastore dX1_learn_50 hc3 rfl (by omega) (by decide) (wp_aload_n dX1_learn_51 rfl rfl (wp_aload_n dX1_learn_52 rfl rfl (wp_iload dX1_learn_53 rfl (wp_iload_n dX1_learn_55 rfl (wp_iload_n dX1_learn_56 rfl (wp_iv5 dX1_learn_57 k1_36 q_X1_learnLine (by decide) hc (by decide) (Nat.le_of_ble_eq_true rfl) g3 (wp_istore_n dX1_learn_60 ⟨Nat.le_of_ble_eq_true rfl, Or.inr rfl⟩ rfl (wp_iinc dX1_learn_61 rfl (nI_1 _) ⟨Nat.le_of_ble_eq_true rfl, Or.inr rfl⟩ rfl (wp_goto dX1_learn_64 rfl ih2))))))))))))))))))))
theorem c_learnC {a c n : Nat} {t : Nat → Nat} {L : List xLn} {v : xTg} {bt : Bool} (d : Nat) (hco : xCo c) (ho : xRo a) {S : xS} (hX : XC S) (hV : xRV a S n t L) (hB : xRB a S v t L) : ∃ S', xcall false (d + 2) j_X1_learn [.ref c, .ref a, .int (xB bt)] S none S' ∧ xFl (fun i k => (i = c ∧ 3 ≤ k) ∨ i = c + 1 ∨ i = c + 2 ∨ i = c + 3) S S' ∧ xCh c S' (xct v t bt) bt L 0 := by
  have hcu : 106 ≤ c := by obtain ⟨s, hs, rfl⟩ := hco; omega
  have hau := ho.m
  obtain ⟨hc, hc1, hc2, hc3, rc0, rc1, rc2⟩ := hco.sh hX
  have ha := (ho.sh hX).1
  have h16 := hV.2.2.2.2.2.2.2.2.1
  have k7 := hV.2.2.2.2.1
  have F0 : xFl (fun i k => i = c ∧ k = 3) S (xSI S c 3 (nI L.length)) := (xFl.rf S).SI ⟨rfl, rfl⟩
  have V0 := hV.fm (F0.m (R := fun _ _ => False)) (fun i k h => by omega)
  have B0 := hB.fr F0 (fun k h => by omega)
  obtain ⟨r, S', g1, rfl, z1, z2⟩ := xcall_some (al := false) (d := d + 2) (ls := [.ref c, .ref a, .int (xB bt), .float 0, .float 0]) (S := S) (as := [.ref c, .ref a, .int (xB bt)]) q_X1_learn (by decide) rfl (Nat.le_of_ble_eq_true rfl) rfl
    (P := fun r S' => r = none ∧ xFl (fun i k => (i = c ∧ 3 ≤ k) ∨ i = c + 1 ∨ i = c + 2 ∨ i = c + 3) S S' ∧ xCh c S' (xct v t bt) bt L 0) (by
      refine wp_iconst (v := nI 0) dX1_learn_0 rfl (wp_istore_n dX1_learn_1 ⟨Nat.le_of_ble_eq_true rfl, Or.inr rfl⟩ rfl (wp_aload_n dX1_learn_2 rfl rfl (wp_aload_n dX1_learn_3 rfl rfl (gv1_21 dX1_learn_4 ha k7 (wp_aload_n dX1_learn_7 rfl rfl (g1_18 dX1_learn_8 hc rc2 (wp_alen (v := nI 16) dX1_learn_11 hc3 ⟨by decide, by decide⟩ rfl (wn_min dX1_learn_12 k1_25 (Nat.le_of_ble_eq_true rfl) (by omega) (by omega) (Nat.min_eq_left (by omega)) (p1_31 dX1_learn_15 hc (wp_iconst (v := nI 0) dX1_learn_18 rfl (wp_istore dX1_learn_19 ⟨Nat.le_of_ble_eq_true rfl, Or.inr rfl⟩ rfl ?_)))))))))))
      refine le_loop (L := L) hco ho L.length 0 _ (Nat.zero_add _) (F0.XC hX) V0 B0 (xI_same _ _ _ _) (fun i hi => absurd hi (Nat.not_lt_zero i)) (fun q hq => absurd hq (Nat.not_lt_zero q)) (fun S1 y4 f1 h1 h2 => ?_)
      have X1 := f1.XC (F0.XC hX)
      have k3 : S1.2.1 c 3 = nI L.length := f1.i (xI_same _ _ _ _) (by omega)
      obtain ⟨hc, hc1, hc2, hc3, rc0, rc1, rc2⟩ := hco.sh X1
      have ha := (ho.sh X1).1
      have V1 := V0.fm (f1.m (R := fun _ _ => False)) (fun i k h => by omega)
      have F2 : xFl (fun i k => (i = c + 2 ∧ k = L.length) ∨ (i = c ∧ k = 4)) S1 (xSI (xSI S1 (c + 2) L.length (nI (L.flatMap (xgpl (xct v t bt) bt)).length)) c 4 (nI 0)) := ((xFl.rf S1).SI (Or.inl ⟨rfl, rfl⟩)).SI (Or.inr ⟨rfl, rfl⟩)
      have ga := c_hasAsk (d + 0) ho (F2.XC X1) (V1.fm (F2.m (R := fun _ _ => False)) (fun i k h => by omega))
      have F3 : xFl (fun i k => (i = c + 2 ∧ k = L.length) ∨ (i = c ∧ (k = 4 ∨ k = 5))) S1 (xSI (xSI (xSI S1 (c + 2) L.length (nI (L.flatMap (xgpl (xct v t bt) bt)).length)) c 4 (nI 0)) c 5 (xB (xask L))) := (F2.mono (fun i k h => by omega)).SI (Or.inr ⟨rfl, Or.inr rfl⟩)
      have fin : xFl (fun i k => (i = c ∧ 3 ≤ k) ∨ i = c + 1 ∨ i = c + 2 ∨ i = c + 3) S (xSI (xSI (xSI S1 (c + 2) L.length (nI (L.flatMap (xgpl (xct v t bt) bt)).length)) c 4 (nI 0)) c 5 (xB (xask L))) ∧ xCh c (xSI (xSI (xSI S1 (c + 2) L.length (nI (L.flatMap (xgpl (xct v t bt) bt)).length)) c 4 (nI 0)) c 5 (xB (xask L))) (xct v t bt) bt L 0 := by
        refine ⟨((F0.mono (fun i k h => by omega)).tt (f1.mono (fun i k h => by omega))).tt (F3.mono (fun i k h => by omega)), F3.i k3 (by omega), xi (xI_same _ _ _ _) (Or.inr (by decide)), xI_same _ _ _ _, fun l hl => ?_, fun l hl => F3.i (h2 l hl).2 (by omega), fun i hi => F3.i (h1 i hi) (by omega)⟩
        rcases Nat.lt_or_ge l L.length with w | w
        · exact F3.i (h2 l w).1 (by omega)
        · rw [show l = L.length by omega, xof_all]
          exact xi (xi (xI_same _ _ _ _) (Or.inl (by omega))) (Or.inl (by omega))
      exact wp_aload_n dX1_learn_67 rfl rfl (g1_15 dX1_learn_68 hc rc1 (wp_aload_n dX1_learn_71 rfl rfl (gv1_31 dX1_learn_72 hc k3 (wp_iload_n dX1_learn_75 rfl (wn_iastore dX1_learn_76 hc2 rfl (by omega) (by decide) (wp_aload_n dX1_learn_77 rfl rfl (wp_iconst (v := nI 0) dX1_learn_78 rfl (p1_40 dX1_learn_79 hc (wp_aload_n dX1_learn_82 rfl rfl (wp_aload_n dX1_learn_83 rfl rfl (wp_iv1 dX1_learn_84 k1_43 q_X3_hasAsk (by decide) ha (by decide) (Nat.le_of_ble_eq_true rfl) ga (p1_47 dX1_learn_87 hc (xB_01 _) (wp_return dX1_learn_90 rfl ⟨rfl, fin⟩))))))))))))))
  exact ⟨S', g1, z1, z2⟩
