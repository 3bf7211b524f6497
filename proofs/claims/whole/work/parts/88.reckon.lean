/-! COUNTING of the class: reckon -/
theorem xRl.fr {S S' : xS} {R : List Nat} {P : Nat → Nat → Prop} (h : xRl S R) (hf : xFl P S S') (hn : ∀ i k, ((i = 74 ∧ k = 7) ∨ i = 79) → ¬ P i k) : xRl S' R := ⟨hf.i h.1 (hn _ _ (by omega)), fun k hk => hf.i (h.2 k hk) (hn _ _ (by omega))⟩
theorem xNb.fr {S S' : xS} {nb : Nat → Nat} {P0 : Nat} {P : Nat → Nat → Prop} (h : xNb S nb P0) (hf : xFl P S S') (hn : ∀ k, ¬ P 77 k) : xNb S' nb P0 := fun p hp => hf.i (h p hp) (hn p)
/-- the letters of the ANSWERS in the RING -/
def xAl (S : xS) (al : Nat → Nat) (ac : Nat) : Prop := S.2.1 74 5 = nI ac ∧ 1 ≤ ac ∧ ac ≤ 5 ∧ ∀ a, a < ac → S.2.1 78 a = nI (al a) ∧ al a ≤ 12
theorem xAl.fr {S S' : xS} {al : Nat → Nat} {ac : Nat} {P : Nat → Nat → Prop} (h : xAl S al ac) (hf : xFl P S S') (hn : ∀ i k, ((i = 74 ∧ k = 5) ∨ i = 78) → ¬ P i k) : xAl S' al ac := ⟨hf.i h.1 (hn _ _ (by omega)), h.2.1, h.2.2.1, fun a ha => ⟨hf.i (h.2.2.2 a ha).1 (hn _ _ (by omega)), (h.2.2.2 a ha).2⟩⟩
theorem rk_loop {R : List Nat} {al : Nat → Nat} {ac k P d : Nat} {x1 x2 x4 : Value} (hr1 : 1 ≤ R.length) (hr2 : R.length ≤ 24) (hk : k < 24) (hP : P ≤ 2 ^ 29) : ∀ (j a : Nat) (S : xS), a + j = ac → XC S → xRl S R → xAl S al ac → (∀ e, e < a → S.2.1 (82 + k) e = nI (xha R (P + al e))) → Wp false (d + 3) 4 cX4_reckon (some .int) false 111 [.ref 74, x1, x2, .int (nI k), x4, .int (nI P), .int (nI a)] [] S (fun r S' => r = some (.int (nI ac)) ∧ xFl (fun i _ => i = 82 + k) S S' ∧ (∀ e, e < ac → S'.2.1 (82 + k) e = nI (xha R (P + al e)))) := by
  intro j
  induction j with
  | zero =>
    intro a S ha hX hl hA h
    have haa : a = ac := by omega
    subst haa
    obtain ⟨k5, h1, h5, hv⟩ := hA
    refine wp_iload dX4_reckon_111 rfl (wp_aload_n dX4_reckon_113 rfl rfl (gv4_33 dX4_reckon_114 (xsh hX sh_74) k5 ?_))
    refine wn_icmp_ge dX4_reckon_117 rfl (by omega) (by omega) (fun c117 => ?_) (fun c117 => absurd c117 (by omega))
    exact wp_aload_n dX4_reckon_149 rfl rfl (gv4_33 dX4_reckon_150 (xsh hX sh_74) k5 (wp_ireturn dX4_reckon_153 rfl rfl ⟨rfl, xFl.rf S, h⟩))
  | succ j ih =>
    intro a S ha hX hl hA h
    obtain ⟨k5, h1, h5, hv⟩ := id hA
    have r1 := r81_a hX hk
    have s1 := s81_a hX hk
    have va := hv a (by omega)
    have v1 := va.1
    have v2 := va.2
    have gh := c_handAt (p := P + al a) (d + 2) hr1 hr2 (by omega) hX hl
    have F1 : xFl (fun i q => i = 82 + k ∧ q = a) S (xSI S (82 + k) a (nI (xha R (P + al a)))) := (xFl.rf S).SI ⟨rfl, rfl⟩
    have ih2 := ih (a + 1) _ (by omega) (F1.XC hX) (hl.fr F1 (fun i k h => by omega)) (hA.fr F1 (fun i k h => by omega)) (fun q hq => by
      rcases Nat.lt_or_ge q a with w | w
      · exact F1.i (h q w) (by omega)
      · rw [show q = a by omega]; exact xI_same _ _ _ _)
    refine wp_iload dX4_reckon_111 rfl (wp_aload_n dX4_reckon_113 rfl rfl (gv4_33 dX4_reckon_114 (xsh hX sh_74) k5 ?_))
    refine wn_icmp_ge dX4_reckon_117 rfl (by omega) (by omega) (fun c117 => absurd c117 (by omega)) (fun c117 => ?_)
    refine wp_aload_n dX4_reckon_120 rfl rfl (g4_44 dX4_reckon_121 (xsh hX sh_74) (xrr hX r74_9) (wp_iload_n dX4_reckon_124 rfl (wn_aaload dX4_reckon_125 (xsh hX sh_81) (Or.inr (Or.inr rfl)) (by omega) (by decide) r1 (wp_iload dX4_reckon_126 rfl (wp_aload_n dX4_reckon_128 rfl rfl (wp_iload dX4_reckon_129 rfl (wp_aload_n dX4_reckon_131 rfl rfl (g4_30 dX4_reckon_132 (xsh hX sh_74) (xrr hX r74_4) (wp_iload dX4_reckon_135 rfl (wn_iaload dX4_reckon_137 (xsh hX sh_78) rfl (by omega) (by decide) v1 (wv_iadd dX4_reckon_138 (nI_add _ _) (wp_iv2 dX4_reckon_139 k4_165 q_X4_handAt (by decide) (xsh hX sh_74) (by decide) (Nat.le_of_ble_eq_true rfl) gh (wn_iastore dX4_reckon_142 s1 rfl (by omega) (by decide) (wp_iinc dX4_reckon_143 rfl (nI_1 _) ⟨Nat.le_of_ble_eq_true rfl, Or.inr rfl⟩ rfl (wp_goto dX4_reckon_146 rfl ?_)))))))))))))))
    refine ih2.mono ?_
    rintro r S' ⟨z1, z2, z3⟩
    exact ⟨z1, (F1.mono (fun i k h => h.1)).tt z2, z3⟩
theorem c_reckon {g : xRg} {r : Nat} {nb : Nat → Nat} {bt : Bool} {ct : xIt → Nat} {L : List xLn} {al : Nat → Nat} {m s k ac oc sl : Nat} (d : Nat) (hg : xgo g) (h16 : L.length ≤ 16) (h136 : (L.flatMap (xgpl ct bt)).length ≤ 136) (h9 : ∀ l, l < L.length → (L.getD l (0, 0, [])).1 ≤ 9) (hm : m < 2 ^ 31) (hs : s < xgH g) (hk : k < 24) (hoc1 : 1 ≤ oc) (hoc4 : oc ≤ 4) (hsl : sl < 6) (hr1 : 1 ≤ (xlu m (xgH g) (xbk g k) (xgH g) s).length) (hr29 : r ≤ 1000) (hT : 1 ≤ (xsaL (xnm bt nb (xgf g) (xlu m (xgH g) (xbk g k) (xgH g) s)) ct L 0 + r)) (hB : xsaL (xnm bt nb (xgf g) (xlu m (xgH g) (xbk g k) (xgH g) s)) ct L 0 ≤ 2 ^ 28) {S : xS} (hX : XC S) (hR : xRC S g) (hN : xNb S nb (xgP g)) (hA : xAl S al ac) (hoc : S.2.1 74 2 = nI oc) (hor : S.2.1 76 (k % oc) = nI sl) (hG : xCh (106 + 4 * sl) S ct bt L r) : ∃ S', xcall false (d + 3) j_X4_reckon [.ref 74, .int (nI m), .int (nI s), .int (nI k)] S (some (.int (nI (if xask L = true then ac else 1)))) S' ∧ xFl (fun i q => (i = 74 ∧ q = 7) ∨ i = 79 ∨ (i = 80 ∧ q = k) ∨ i = 82 + k) S S' ∧ S'.2.1 80 k = (if xask L = true then nI (xow (xgf g) (xha (xlu m (xgH g) (xbk g k) (xgH g) s) ((xsaL (xnm bt nb (xgf g) (xlu m (xgH g) (xbk g k) (xgH g) s)) ct L 0 + r) - 1))) else -1) ∧ (∀ e, e < (if xask L = true then ac else 1) → S'.2.1 (82 + k) e = nI (xha (xlu m (xgH g) (xbk g k) (xgH g) s) ((xsaL (xnm bt nb (xgf g) (xlu m (xgH g) (xbk g k) (xgH g) s)) ct L 0 + r) - 1 + if xask L = true then al e else 0))) := by
  have hco : xCo (106 + 4 * sl) := ⟨sl, hsl, rfl⟩
  obtain ⟨q1, q2, q3⟩ := hg.H
  have hr2 := Nat.le_trans (xlu_le m (xgH g) (xbk g k) (xgH g) s) q2
  have hr3 : ∀ p, xha (xlu m (xgH g) (xbk g k) (xgH g) s) p < xgH g := fun p => xha_lt hs
  have gc := c_chantOf (s := sl) (d + 1) hsl hX
  obtain ⟨S1, g1, f1, hl1⟩ := c_lineUp (m := m) (s := s) (k := k) (d + 1) hg hm hs (by omega) hX hR
  have X1 := f1.XC hX
  have G1 := hG.fr f1 (fun i k h => by omega)
  have R1 := hR.fr f1 (fun k h => by omega)
  have N1 := hN.fr f1 (fun k h => by omega)
  have A1 := hA.fr f1 (fun i k h => by omega)
  have gs := c_sayAll d hg hco hr1 hr2 hr3 h16 h136 h9 X1 R1 hl1 N1 G1 (by omega)
  have gh := c_handAt (p := (xsaL (xnm bt nb (xgf g) (xlu m (xgH g) (xbk g k) (xgH g) s)) ct L 0 + r) - 1) (d + 2) hr1 hr2 (by omega) X1 hl1
  have h3 := hr3 ((xsaL (xnm bt nb (xgf g) (xlu m (xgH g) (xbk g k) (xgH g) s)) ct L 0 + r) - 1)
  have hmod : k % oc < oc := Nat.mod_lt k (by omega)
  have k5 := G1.2.2.1
  have hc := (hco.sh X1).1
  have r1 := r81_a X1 hk
  have s1 := s81_a X1 hk
  cases hask : xask L with
  | false =>
    rw [hask] at k5
    have F2 : xFl (fun i q => (i = 80 ∧ q = k) ∨ i = 82 + k) S1 (xSI (xSI S1 80 k (-1)) (82 + k) 0 (nI (xha (xlu m (xgH g) (xbk g k) (xgH g) s) ((xsaL (xnm bt nb (xgf g) (xlu m (xgH g) (xbk g k) (xgH g) s)) ct L 0 + r) - 1)))) := ((xFl.rf S1).SI (Or.inl ⟨rfl, rfl⟩)).SI (Or.inr rfl)
    have F1' : xFl (fun i q => (i = 80 ∧ q = k)) S1 (xSI S1 80 k (-1)) := (xFl.rf S1).SI ⟨rfl, rfl⟩
    have gh' := c_handAt (p := (xsaL (xnm bt nb (xgf g) (xlu m (xgH g) (xbk g k) (xgH g) s)) ct L 0 + r) - 1) (d + 2) hr1 hr2 (by omega) (F1'.XC X1) (hl1.fr F1' (fun i k h => by omega))
    refine ⟨xSI (xSI S1 80 k (-1)) (82 + k) 0 (nI (xha (xlu m (xgH g) (xbk g k) (xgH g) s) ((xsaL (xnm bt nb (xgf g) (xlu m (xgH g) (xbk g k) (xgH g) s)) ct L 0 + r) - 1))), ?_, f1.mono (fun i k h => by omega) |>.tt (F2.mono (fun i k h => by omega)), xi (xI_same _ _ _ _) (Or.inl (by omega)), fun a ha => ?_⟩
    · refine xcall_intro (ls := [.ref 74, .int (nI m), .int (nI s), .int (nI k), .float 0, .float 0, .float 0]) q_X4_reckon (by decide) rfl (Nat.le_of_ble_eq_true rfl) rfl ?_
      refine wp_iload_n dX4_reckon_0 rfl ?_
      refine wn_if_lt dX4_reckon_1 rfl (by omega) ?_
      refine wp_iload_n dX4_reckon_4 rfl (wp_bipush (v := nI 24) dX4_reckon_5 rfl ?_)
      refine wn_icmp_ge dX4_reckon_7 rfl (by omega) (by omega) (fun c7 => absurd c7 (by omega)) (fun c7 => ?_)
      refine wp_aload_n dX4_reckon_10 rfl rfl (gv4_23 dX4_reckon_11 (xsh hX sh_74) hoc (wp_iconst (v := nI 1) dX4_reckon_14 rfl ?_))
      refine wn_icmp_ge dX4_reckon_15 rfl (by omega) (by omega) (fun c15 => ?_) (fun c15 => absurd c15 (by omega))
      refine wp_aload_n dX4_reckon_20 rfl rfl (wp_aload_n dX4_reckon_21 rfl rfl (g4_19 dX4_reckon_22 (xsh hX sh_74) (xrr hX r74_1) (wp_iload_n dX4_reckon_25 rfl (wp_aload_n dX4_reckon_26 rfl rfl (gv4_23 dX4_reckon_27 (xsh hX sh_74) hoc (wv_irem dX4_reckon_30 (nI_n0 (by omega) (by omega)) (pk_rem (by omega) (by omega) (by omega)) (wn_iaload dX4_reckon_31 (xsh hX sh_76) rfl (by omega) (by decide) hor (wp_iv2 dX4_reckon_32 k4_115 q_X4_chantOf (by decide) (xsh hX sh_74) (by decide) (Nat.le_of_ble_eq_true rfl) gc (wp_astore dX4_reckon_35 rfl ⟨Nat.le_of_ble_eq_true rfl, Or.inr rfl⟩ rfl (wp_aload dX4_reckon_37 rfl rfl (wp_ifnonnull_R dX4_reckon_39 rfl (wp_aload_n dX4_reckon_44 rfl rfl (wp_iload_n dX4_reckon_45 rfl (wp_iload_n dX4_reckon_46 rfl (wp_iload_n dX4_reckon_47 rfl (wp_iv4 dX4_reckon_48 k4_154 q_X4_lineUp (by decide) (xsh hX sh_74) (by decide) (Nat.le_of_ble_eq_true rfl) g1 (wp_aload_n dX4_reckon_51 rfl rfl (wp_aload dX4_reckon_52 rfl rfl (wp_iv2 dX4_reckon_54 k4_158 q_X4_sayAll (by decide) (xsh X1 sh_74) (by decide) (Nat.le_of_ble_eq_true rfl) gs (wp_iconst (v := nI 1) dX4_reckon_57 rfl (wv_isub dX4_reckon_58 (pk_sub (by omega)) (wp_istore dX4_reckon_59 ⟨Nat.le_of_ble_eq_true rfl, Or.inr rfl⟩ rfl (wp_aload dX4_reckon_61 rfl rfl (gv4_162 dX4_reckon_63 hc k5 ?_))))))))))))))))))))))))
      refine wb_if_ne dX4_reckon_66 rfl (fun c66 => absurd c66 (by decide)) (fun c66 => ?_)
      exact wp_aload_n dX4_reckon_69 rfl rfl (g4_39 dX4_reckon_70 (xsh X1 sh_74) (xrr X1 r74_8) (wp_iload_n dX4_reckon_73 rfl (wp_iconst (v := -1) dX4_reckon_74 rfl (wn_iastore dX4_reckon_75 (xsh X1 sh_80) rfl (by omega) (by decide) (wp_aload_n dX4_reckon_76 rfl rfl (g4_44 dX4_reckon_77 (xsh X1 sh_74) (xrr X1 r74_9) (wp_iload_n dX4_reckon_80 rfl (wn_aaload dX4_reckon_81 (xsh X1 sh_81) (Or.inr (Or.inr rfl)) (by omega) (by decide) r1 (wp_iconst (v := nI 0) dX4_reckon_82 rfl (wp_aload_n dX4_reckon_83 rfl rfl (wp_iload dX4_reckon_84 rfl (wp_iv2 dX4_reckon_86 k4_165 q_X4_handAt (by decide) (xsh X1 sh_74) (by decide) (Nat.le_of_ble_eq_true rfl) gh' (wn_iastore dX4_reckon_89 s1 rfl (by omega) (by decide) (wp_iconst (v := nI 1) dX4_reckon_90 rfl (wp_ireturn dX4_reckon_91 rfl rfl ⟨rfl, rfl⟩)))))))))))))))
    · rw [show a = 0 from Nat.lt_one_iff.mp ha]
      exact xI_same _ _ _ _
  | true =>
    rw [hask] at k5
    have go := c_ownerOf (h := xha (xlu m (xgH g) (xbk g k) (xgH g) s) ((xsaL (xnm bt nb (xgf g) (xlu m (xgH g) (xbk g k) (xgH g) s)) ct L 0 + r) - 1)) (d + 2) (by omega) X1 R1
    have F2 : xFl (fun i q => i = 80 ∧ q = k) S1 (xSI S1 80 k (nI (xow (xgf g) (xha (xlu m (xgH g) (xbk g k) (xgH g) s) ((xsaL (xnm bt nb (xgf g) (xlu m (xgH g) (xbk g k) (xgH g) s)) ct L 0 + r) - 1))))) := (xFl.rf S1).SI ⟨rfl, rfl⟩
    obtain ⟨r', S', g', rfl, z1, z2⟩ := xcall_some (al := false) (d := d + 3) (ls := [.ref 74, .int (nI m), .int (nI s), .int (nI k), .float 0, .float 0, .float 0]) (S := S) (as := [.ref 74, .int (nI m), .int (nI s), .int (nI k)]) q_X4_reckon (by decide) rfl (Nat.le_of_ble_eq_true rfl) rfl
      (P := fun r' S' => r' = some (.int (nI ac)) ∧ xFl (fun i _ => i = 82 + k) (xSI S1 80 k (nI (xow (xgf g) (xha (xlu m (xgH g) (xbk g k) (xgH g) s) ((xsaL (xnm bt nb (xgf g) (xlu m (xgH g) (xbk g k) (xgH g) s)) ct L 0 + r) - 1))))) S' ∧ (∀ e, e < ac → S'.2.1 (82 + k) e = nI (xha (xlu m (xgH g) (xbk g k) (xgH g) s) ((xsaL (xnm bt nb (xgf g) (xlu m (xgH g) (xbk g k) (xgH g) s)) ct L 0 + r) - 1 + al e)))) (by
        refine wp_iload_n dX4_reckon_0 rfl ?_
        refine wn_if_lt dX4_reckon_1 rfl (by omega) ?_
        refine wp_iload_n dX4_reckon_4 rfl (wp_bipush (v := nI 24) dX4_reckon_5 rfl ?_)
        refine wn_icmp_ge dX4_reckon_7 rfl (by omega) (by omega) (fun c7 => absurd c7 (by omega)) (fun c7 => ?_)
        refine wp_aload_n dX4_reckon_10 rfl rfl (gv4_23 dX4_reckon_11 (xsh hX sh_74) hoc (wp_iconst (v := nI 1) dX4_reckon_14 rfl ?_))
        refine wn_icmp_ge dX4_reckon_15 rfl (by omega) (by omega) (fun c15 => ?_) (fun c15 => absurd c15 (by omega))
        refine wp_aload_n dX4_reckon_20 rfl rfl (wp_aload_n dX4_reckon_21 rfl rfl (g4_19 dX4_reckon_22 (xsh hX sh_74) (xrr hX r74_1) (wp_iload_n dX4_reckon_25 rfl (wp_aload_n dX4_reckon_26 rfl rfl (gv4_23 dX4_reckon_27 (xsh hX sh_74) hoc (wv_irem dX4_reckon_30 (nI_n0 (by omega) (by omega)) (pk_rem (by omega) (by omega) (by omega)) (wn_iaload dX4_reckon_31 (xsh hX sh_76) rfl (by omega) (by decide) hor (wp_iv2 dX4_reckon_32 k4_115 q_X4_chantOf (by decide) (xsh hX sh_74) (by decide) (Nat.le_of_ble_eq_true rfl) gc (wp_astore dX4_reckon_35 rfl ⟨Nat.le_of_ble_eq_true rfl, Or.inr rfl⟩ rfl (wp_aload dX4_reckon_37 rfl rfl (wp_ifnonnull_R dX4_reckon_39 rfl (wp_aload_n dX4_reckon_44 rfl rfl (wp_iload_n dX4_reckon_45 rfl (wp_iload_n dX4_reckon_46 rfl (wp_iload_n dX4_reckon_47 rfl (wp_iv4 dX4_reckon_48 k4_154 q_X4_lineUp (by decide) (xsh hX sh_74) (by decide) (Nat.le_of_ble_eq_true rfl) g1 (wp_aload_n dX4_reckon_51 rfl rfl (wp_aload dX4_reckon_52 rfl rfl (wp_iv2 dX4_reckon_54 k4_158 q_X4_sayAll (by decide) (xsh X1 sh_74) (by decide) (Nat.le_of_ble_eq_true rfl) gs (wp_iconst (v := nI 1) dX4_reckon_57 rfl (wv_isub dX4_reckon_58 (pk_sub (by omega)) (wp_istore dX4_reckon_59 ⟨Nat.le_of_ble_eq_true rfl, Or.inr rfl⟩ rfl (wp_aload dX4_reckon_61 rfl rfl (gv4_162 dX4_reckon_63 hc k5 ?_))))))))))))))))))))))))
        refine wb_if_ne dX4_reckon_66 rfl (fun c66 => ?_) (fun c66 => absurd c66 (by decide))
        exact wp_aload_n dX4_reckon_92 rfl rfl (g4_39 dX4_reckon_93 (xsh X1 sh_74) (xrr X1 r74_8) (wp_iload_n dX4_reckon_96 rfl (wp_aload_n dX4_reckon_97 rfl rfl (wp_aload_n dX4_reckon_98 rfl rfl (wp_iload dX4_reckon_99 rfl (wp_iv2 dX4_reckon_101 k4_165 q_X4_handAt (by decide) (xsh X1 sh_74) (by decide) (Nat.le_of_ble_eq_true rfl) gh (wp_iv2 dX4_reckon_104 k4_168 q_X4_ownerOf (by decide) (xsh X1 sh_74) (by decide) (Nat.le_of_ble_eq_true rfl) go (wn_iastore dX4_reckon_107 (xsh X1 sh_80) rfl (by omega) (by decide) (wp_iconst (v := nI 0) dX4_reckon_108 rfl (wp_istore dX4_reckon_109 ⟨Nat.le_of_ble_eq_true rfl, Or.inr rfl⟩ rfl (rk_loop hr1 hr2 hk (by omega) ac 0 _ (Nat.zero_add _) (F2.XC X1) (hl1.fr F2 (fun i k h => by omega)) (A1.fr F2 (fun i k h => by omega)) (fun a ha => absurd ha (Nat.not_lt_zero a))))))))))))))
    refine ⟨S', g', ((f1.mono (fun i k h => by omega)).tt (F2.mono (fun i k h => by omega))).tt (z1.mono (fun i k h => by omega)), z1.i (xI_same _ _ _ _) (by omega), fun a ha => z2 a ha⟩
