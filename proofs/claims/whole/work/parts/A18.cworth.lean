/-! a GAME of the class: worthOf -/
def xWo9 (c : xPx) (w : Option Nat) (see m s k : Nat) : Nat := if xovr (xzg c) m = true then xEE c w k (xpm (xzg c) m) else xVW c w see m s k
def xMo (S : xS) (c : xPx) (w : Option Nat) (see nw : Nat) : Prop := (∀ x, x < 2048 → ∃ v, v ≤ nw ∧ S.2.1 131 x = nI v) ∧ ∀ m s k, xgd c m s k → S.2.1 131 (m * 8 + s) = nI nw → S.2.1 130 (m * 8 + s) = nI (xVW c w see m s k)
theorem xMo.fr {S S' : xS} {c : xPx} {w : Option Nat} {see nw : Nat} {P : Nat → Nat → Prop} (h : xMo S c w see nw) (hf : xFl P S S') (hn : ∀ x, ¬ P 130 x ∧ ¬ P 131 x) : xMo S' c w see nw := ⟨fun x hx => by obtain ⟨v, h1, h2⟩ := h.1 x hx; exact ⟨v, h1, hf.i h2 (hn x).2⟩, fun m s k hg e => hf.i (h.2 m s k hg ((hf.2.2 131 _ (hn _).2).symm.trans e)) (hn _).1⟩
def xFW (k i q : Nat) : Prop := (i = 74 ∧ q = 7) ∨ i = 79 ∨ (i = 80 ∧ k ≤ q) ∨ (82 + k ≤ i ∧ i ≤ 105) ∨ i = 130 ∨ i = 131
theorem xFW_s (k i q : Nat) (h : xFW (k + 1) i q) : xFW k i q := by unfold xFW at h ⊢; omega
theorem xgd.key {c : xPx} {m s k : Nat} (h8 : xgH (xzg c) ≤ 8) (h : xgd c m s k) : m < 256 ∧ s < 8 ∧ m * 8 + s < 2048 := by
  have hm : m < 256 := Nat.lt_of_lt_of_le h.1 (Nat.pow_le_pow_right (by decide) h8)
  have hs : s < 8 := Nat.lt_of_lt_of_le h.2.2.1 h8
  exact ⟨hm, hs, by omega⟩
/-- all that the class's GAME stands on -/
def xPr (S : xS) (c : xPx) (w : Option Nat) (see nw : Nat) : Prop := XC S ∧ xRD S c 0 ∧ xGM S c w see nw ∧ xMo S c w see nw
theorem xPr.fr {S S' : xS} {c : xPx} {w : Option Nat} {see nw k : Nat} (h : xPr S c w see nw) (ho : xzo c) (hf : xFl (xFW k) S S') (hm : xMo S' c w see nw) : xPr S' c w see nw := ⟨hf.XC h.1, h.2.1.fr hf (fun i q h => by unfold xFW; omega) ho, h.2.2.1.fr hf (fun q h => by unfold xFW; omega), hm⟩
theorem xEE_k (c : xPx) (w : Option Nat) (k k' L : Nat) : xEE c w k L = xEE c w k' L := by cases w <;> rfl
theorem c_worthAfter {c : xPx} {w : Option Nat} {see nw m s k a d : Nat} (ho : xzo c) (h8 : xgH (xzg c) ≤ 8) (hw : ∀ p, w = some p → p < 12) (IH : ∀ (m s : Nat) (S : xS), m < 2 ^ xgH (xzg c) → s < xgH (xzg c) → xcb m (xgH (xzg c)) + (k + 1) = xgH (xzg c) → (xgs (xzg c) = true → 0 < m) → xPr S c w see nw → ∃ S', xcall false (d + 5) j_X2_worthOf [.ref 73, .int (nI m), .int (nI s), .int (nI (k + 1))] S (some (.int (nI (xWo9 c w see m s (k + 1))))) S' ∧ xFl (xFW (k + 1)) S S' ∧ xMo S' c w see nw) (hg : xgd c m s k) (ha5 : a < 5) {S : xS} (hP : xPr S c w see nw) (h82 : S.2.1 (82 + k) a = nI (xzh c 0 m s k a)) : ∃ S', xcall false (d + 6) j_X2_worthAfter [.ref 73, .int (nI m), .int (nI s), .int (nI k), .int (nI a)] S (some (.int (nI (xvl c 0 (xEE c w) (xVW c w see) m s k a)))) S' ∧ xFl (xFW (k + 1)) S S' ∧ xMo S' c w see nw := by
  obtain ⟨hX, hD, hG, hM⟩ := hP
  have hgg := ho.g
  have g24 := hgg.H
  have hk := hg.k
  have hP12 : xgP (xzg c) ≤ 12 := hgg.2.1
  have hh : xzh c 0 m s k a < xgH (xzg c) := xzh_lt 0 m k a hg.2.2.1
  have hown := xow_lt hh
  obtain ⟨x, hx, hb⟩ := xtb_ex hg.1 hg.2.1
  have hr1 := xzR_pos (k := k) hx hb hg.2.2.1
  have hbit : m.testBit (xzh c 0 m s k a) = true := xha_tb hg.2.2.1 hr1
  have gh := c_handHit (d + 5) (show k < 24 by omega) ha5 hX h82
  have ks := hD.1.2.2.2.2.2.1
  have go := c_ownerOf (h := xzh c 0 m s k a) (d + 5) (by omega) hX hD.1
  cases hst : xgs (xzg c) with
  | true =>
    rw [hst] at ks
    have p12 : 2 ^ xow (xgf (xzg c)) (xzh c 0 m s k a) < 2 ^ 12 := Nat.pow_lt_pow_right (by decide) (by omega)
    have ge := c_endWorth (k := k) (L := 2 ^ xow (xgf (xzg c)) (xzh c 0 m s k a)) (d + 4) hw p12 hX hG
    have eV : (xvl c 0 (xEE c w) (xVW c w see) m s k a) = xEE c w k (2 ^ xow (xgf (xzg c)) (xzh c 0 m s k a)) := by
      unfold xvl xen
      rw [hst, if_pos rfl]
      rfl
    rw [eV]
    refine ⟨S, ?_, xFl.rf S, hM⟩
    refine xcall_intro (ls := [.ref 73, .int (nI m), .int (nI s), .int (nI k), .int (nI a), .float 0, .float 0]) q_X2_worthAfter (by decide) rfl (Nat.le_of_ble_eq_true rfl) rfl ?_
    refine wp_aload_n dX2_worthAfter_0 rfl rfl (g2_14 dX2_worthAfter_1 (xsh hX sh_73) (xrr hX r73_0) (wp_iload_n dX2_worthAfter_4 rfl (wp_iload dX2_worthAfter_5 rfl (wp_iv3 dX2_worthAfter_7 k2_75 q_X4_handHit (by decide) (xsh hX sh_74) (by decide) (Nat.le_of_ble_eq_true rfl) gh (wp_istore dX2_worthAfter_10 ⟨Nat.le_of_ble_eq_true rfl, Or.inr rfl⟩ rfl (wp_aload_n dX2_worthAfter_12 rfl rfl (g2_14 dX2_worthAfter_13 (xsh hX sh_73) (xrr hX r73_0) (gv2_71 dX2_worthAfter_16 (xsh hX sh_74) ks ?_))))))))
    refine wb_if_eq dX2_worthAfter_19 rfl (fun c19 => absurd c19 (by decide)) (fun c19 => ?_)
    exact wp_aload_n dX2_worthAfter_22 rfl rfl (wp_iconst (v := nI 1) dX2_worthAfter_23 rfl (wp_aload_n dX2_worthAfter_24 rfl rfl (g2_14 dX2_worthAfter_25 (xsh hX sh_73) (xrr hX r73_0) (wp_iload dX2_worthAfter_28 rfl (wp_iv2 dX2_worthAfter_30 k2_112 q_X4_ownerOf (by decide) (xsh hX sh_74) (by decide) (Nat.le_of_ble_eq_true rfl) go (wv_ishl dX2_worthAfter_33 (xshl1 (by omega)) (wp_iv2 dX2_worthAfter_34 k2_97 q_X2_endWorth (by decide) (xsh hX sh_73) (by decide) (Nat.le_of_ble_eq_true rfl) ge (wp_ireturn dX2_worthAfter_37 rfl rfl ⟨rfl, rfl⟩))))))))
  | false =>
    rw [hst] at ks
    have hm2 : xn1 c 0 m s k a < 2 ^ xgH (xzg c) := xrm_lt hg.1 hh
    have h24 := x24 g24.2.1 hg.1
    have h242 := x24 g24.2.1 hm2
    have hcb := xcb_rm hbit (xgH (xzg c)) hh
    have hgd := hg.2.2.2
    have hs2 : xn2 c 0 m s k a < xgH (xzg c) := xnb1_lt hgg hg.2.2.1 hh
    have gn := c_nextBegin (m := xn1 c 0 m s k a) (s := s) (h := xzh c 0 m s k a) (k := k + 1) (d + 3) hgg (by omega) hg.2.2.1 hh (by omega) hX hD.1
    obtain ⟨S', g1, f1, m1⟩ := IH (xn1 c 0 m s k a) (xn2 c 0 m s k a) S hm2 hs2 (by show xcb (m ^^^ 2 ^ xzh c 0 m s k a) _ + _ = _; omega) (fun q => by rw [hst] at q; cases q) ⟨hX, hD, hG, hM⟩
    have eV : (xvl c 0 (xEE c w) (xVW c w see) m s k a) = xWo9 c w see (xn1 c 0 m s k a) (xn2 c 0 m s k a) (k + 1) := by
      unfold xvl xen xWo9
      rw [hst, if_neg (by decide)]
      cases xovr (xzg c) (xn1 c 0 m s k a) with
      | true => rw [if_pos rfl, if_pos rfl]; exact xEE_k _ _ _ _ _
      | false => rw [if_neg (by decide), if_neg (by decide)]; rfl
    rw [eV]
    refine ⟨S', ?_, f1, m1⟩
    refine xcall_intro (ls := [.ref 73, .int (nI m), .int (nI s), .int (nI k), .int (nI a), .float 0, .float 0]) q_X2_worthAfter (by decide) rfl (Nat.le_of_ble_eq_true rfl) rfl ?_
    refine wp_aload_n dX2_worthAfter_0 rfl rfl (g2_14 dX2_worthAfter_1 (xsh hX sh_73) (xrr hX r73_0) (wp_iload_n dX2_worthAfter_4 rfl (wp_iload dX2_worthAfter_5 rfl (wp_iv3 dX2_worthAfter_7 k2_75 q_X4_handHit (by decide) (xsh hX sh_74) (by decide) (Nat.le_of_ble_eq_true rfl) gh (wp_istore dX2_worthAfter_10 ⟨Nat.le_of_ble_eq_true rfl, Or.inr rfl⟩ rfl (wp_aload_n dX2_worthAfter_12 rfl rfl (g2_14 dX2_worthAfter_13 (xsh hX sh_73) (xrr hX r73_0) (gv2_71 dX2_worthAfter_16 (xsh hX sh_74) ks ?_))))))))
    refine wb_if_eq dX2_worthAfter_19 rfl (fun c19 => ?_) (fun c19 => absurd c19 (by decide))
    exact wp_iload_n dX2_worthAfter_38 rfl (wp_iconst (v := nI 1) dX2_worthAfter_39 rfl (wp_iload dX2_worthAfter_40 rfl (wv_ishl dX2_worthAfter_42 (xshl1 (by omega)) (wp_iconst (v := -1) dX2_worthAfter_43 rfl (wp_ixor dX2_worthAfter_44 (wv_iand dX2_worthAfter_45 (xrmb (by omega) hbit) (wp_istore dX2_worthAfter_46 ⟨Nat.le_of_ble_eq_true rfl, Or.inr rfl⟩ rfl (wp_aload_n dX2_worthAfter_48 rfl rfl (wp_iload dX2_worthAfter_49 rfl (wp_aload_n dX2_worthAfter_51 rfl rfl (g2_14 dX2_worthAfter_52 (xsh hX sh_73) (xrr hX r73_0) (wp_iload dX2_worthAfter_55 rfl (wp_iload_n dX2_worthAfter_57 rfl (wp_iload dX2_worthAfter_58 rfl (wp_iload_n dX2_worthAfter_60 rfl (wp_iconst (v := nI 1) dX2_worthAfter_61 rfl (wv_iadd dX2_worthAfter_62 (nI_add _ _) (wp_iv5 dX2_worthAfter_63 k2_79 q_X4_nextBegin (by decide) (xsh hX sh_74) (by decide) (Nat.le_of_ble_eq_true rfl) gn (wp_iload_n dX2_worthAfter_66 rfl (wp_iconst (v := nI 1) dX2_worthAfter_67 rfl (wv_iadd dX2_worthAfter_68 (nI_add _ _) (wp_iv4 dX2_worthAfter_69 k2_46 q_X2_worthOf (by decide) (xsh hX sh_73) (by decide) (Nat.le_of_ble_eq_true rfl) g1 (wp_ireturn dX2_worthAfter_72 rfl rfl ⟨rfl, rfl⟩)))))))))))))))))))))))
theorem wor_loop {c : xPx} {w : Option Nat} {see nw m s k d : Nat} (ho : xzo c) (h8 : xgH (xzg c) ≤ 8) (hw : ∀ p, w = some p → p < 12) (IH : ∀ (m s : Nat) (S : xS), m < 2 ^ xgH (xzg c) → s < xgH (xzg c) → xcb m (xgH (xzg c)) + (k + 1) = xgH (xzg c) → (xgs (xzg c) = true → 0 < m) → xPr S c w see nw → ∃ S', xcall false (d + 5) j_X2_worthOf [.ref 73, .int (nI m), .int (nI s), .int (nI (k + 1))] S (some (.int (nI (xWo9 c w see m s (k + 1))))) S' ∧ xFl (xFW (k + 1)) S S' ∧ xMo S' c w see nw) (hsee : see < 2 ^ 12) (hg : xgd c m s k) {Q : Option Value → xS → Prop} : ∀ (j a b : Nat) (S : xS), a + j = c.2.2.2.1.length → b < 2 ^ 12 → xPr S c w see nw → S.2.1 80 k = nI (xzq c 0 m s k) → (∀ e, e < c.2.2.2.1.length → S.2.1 (82 + k) e = nI (xzh c 0 m s k e)) → (∀ S' y7, xFl (xFW (k + 1)) S S' → xMo S' c w see nw → Wp false (d + 7) 2 cX2_worthOf (some .int) false 135 [.ref 73, .int (nI m), .int (nI s), .int (nI k), .int (nI (m * 8 + s)), .int (nI c.2.2.2.1.length), .int (nI (xlpp (xstl c w see (xzq c 0 m s k)) (xbtr c w (xzq c 0 m s k)) (fun a => (xvl c 0 (xEE c w) (xVW c w see) m s k a)) j a b)), y7] [] S' Q) → Wp false (d + 7) 2 cX2_worthOf (some .int) false 94 [.ref 73, .int (nI m), .int (nI s), .int (nI k), .int (nI (m * 8 + s)), .int (nI c.2.2.2.1.length), .int (nI b), .int (nI a)] [] S Q := by
  have hN := ho.2.2.1
  have hq := xzq_lt (ex := 0) hg
  have hk := hg.k
  have hP12 : xgP (xzg c) ≤ 12 := ho.g.2.1
  have p12 : 2 ^ xgP (xzg c) ≤ 2 ^ 12 := Nat.pow_le_pow_right (by decide) hP12
  intro j
  induction j with
  | zero =>
    intro a b S haj hb hP h80 h82 K
    have haa : a = c.2.2.2.1.length := by omega
    have hX := hP.1
    have nx := K S (.int (nI a)) (xFl.rf S) hP.2.2.2
    rw [xlpp] at nx
    refine wp_iload dX2_worthOf_94 rfl (wp_iload dX2_worthOf_96 rfl ?_)
    refine wn_icmp_ge dX2_worthOf_98 rfl (by omega) (by omega) (fun c98 => ?_) (fun c98 => absurd c98 (by omega))
    exact nx
  | succ j ih =>
    intro a b S haj hb hP h80 h82 K
    have hX := hP.1
    have gs := c_isSettled (q := xzq c 0 m s k) (b := b) (d + 5) hw (show k < 24 by omega) (by omega) hsee hb hX hP.2.2.1 h80
    rw [xlpp] at K
    cases hst : xstl c w see (xzq c 0 m s k) b with
    | true =>
      rw [hst] at gs
      rw [hst, if_pos rfl] at K
      have nx := K S (.int (nI a)) (xFl.rf S) hP.2.2.2
      refine wp_iload dX2_worthOf_94 rfl (wp_iload dX2_worthOf_96 rfl ?_)
      refine wn_icmp_ge dX2_worthOf_98 rfl (by omega) (by omega) (fun c98 => absurd c98 (by omega)) (fun c98 => ?_)
      refine wp_aload_n dX2_worthOf_101 rfl rfl (wp_iload_n dX2_worthOf_102 rfl (wp_iload dX2_worthOf_103 rfl (wp_iv3 dX2_worthOf_105 k2_106 q_X2_isSettled (by decide) (xsh hX sh_73) (by decide) (Nat.le_of_ble_eq_true rfl) gs ?_)))
      refine wb_if_ne dX2_worthOf_108 rfl (fun c108 => ?_) (fun c108 => absurd c108 (by decide))
      exact nx
    | false =>
      rw [hst] at gs
      rw [hst, if_neg (by decide)] at K
      obtain ⟨S1, ga, f1, m1⟩ := c_worthAfter (a := a) ho h8 hw IH hg (by omega) hP (h82 a (by omega))
      have P1 := hP.fr ho f1 m1
      have X1 := P1.1
      have h80' := f1.i h80 (by unfold xFW; omega)
      have hv := xvW_lt (w := w) (see := see) (a := a) ho hg
      have gb := c_better (q := xzq c 0 m s k) (b := b) (oo := (xvl c 0 (xEE c w) (xVW c w see) m s k a)) (d + 5) hw (show k < 24 by omega) (by omega) (by omega) X1 P1.2.2.1 h80'
      have hb2 : xbtr c w (xzq c 0 m s k) b (xvl c 0 (xEE c w) (xVW c w see) m s k a) < 2 ^ 12 := by
        cases w with
        | none => show (if _ then _ else b) < _; split <;> omega
        | some p => show (xvl c 0 (xEE c (some p)) (xVW c (some p) see) m s k a) < _; omega
      have nx := ih (a + 1) _ S1 (by omega) hb2 P1 h80' (fun e he => f1.i (h82 e he) (by unfold xFW; omega)) (fun S2 y7 f2 m2 => K S2 y7 (f1.tt f2) m2)
      refine wp_iload dX2_worthOf_94 rfl (wp_iload dX2_worthOf_96 rfl ?_)
      refine wn_icmp_ge dX2_worthOf_98 rfl (by omega) (by omega) (fun c98 => absurd c98 (by omega)) (fun c98 => ?_)
      refine wp_aload_n dX2_worthOf_101 rfl rfl (wp_iload_n dX2_worthOf_102 rfl (wp_iload dX2_worthOf_103 rfl (wp_iv3 dX2_worthOf_105 k2_106 q_X2_isSettled (by decide) (xsh hX sh_73) (by decide) (Nat.le_of_ble_eq_true rfl) gs ?_)))
      refine wb_if_ne dX2_worthOf_108 rfl (fun c108 => absurd c108 (by decide)) (fun c108 => ?_)
      exact wp_aload_n dX2_worthOf_111 rfl rfl (wp_iload_n dX2_worthOf_112 rfl (wp_iload dX2_worthOf_113 rfl (wp_aload_n dX2_worthOf_115 rfl rfl (wp_iload_n dX2_worthOf_116 rfl (wp_iload_n dX2_worthOf_117 rfl (wp_iload_n dX2_worthOf_118 rfl (wp_iload dX2_worthOf_119 rfl (wp_iv5 dX2_worthOf_121 k2_63 q_X2_worthAfter (by decide) (xsh hX sh_73) (by decide) (Nat.le_of_ble_eq_true rfl) ga (wp_iv4 dX2_worthOf_124 k2_109 q_X2_better (by decide) (xsh X1 sh_73) (by decide) (Nat.le_of_ble_eq_true rfl) gb (wp_istore dX2_worthOf_127 ⟨Nat.le_of_ble_eq_true rfl, Or.inr rfl⟩ rfl (wp_iinc dX2_worthOf_129 rfl (nI_1 _) ⟨Nat.le_of_ble_eq_true rfl, Or.inr rfl⟩ rfl (wp_goto dX2_worthOf_132 rfl nx))))))))))))
theorem c_worthOf {c : xPx} {w : Option Nat} {see nw : Nat} (ho : xzo c) (h8 : xgH (xzg c) ≤ 8) (hw : ∀ p, w = some p → p < 12) (ha : xzal c = true) (hsee : see < 2 ^ 12) (hnw : nw < 2 ^ 30) : ∀ (f d m s k : Nat) (S : xS), k + f = xgH (xzg c) → m < 2 ^ xgH (xzg c) → s < xgH (xzg c) → xcb m (xgH (xzg c)) + k = xgH (xzg c) → (xgs (xzg c) = true → 0 < m) → xPr S c w see nw → ∃ S', xcall false (d + 2 * f + 5) j_X2_worthOf [.ref 73, .int (nI m), .int (nI s), .int (nI k)] S (some (.int (nI (xWo9 c w see m s k)))) S' ∧ xFl (xFW k) S S' ∧ xMo S' c w see nw := by
  have hgg := ho.g
  have g24 := hgg.H
  have hP12 : xgP (xzg c) ≤ 12 := hgg.2.1
  have p12 : 2 ^ xgP (xzg c) ≤ 2 ^ 12 := Nat.pow_le_pow_right (by decide) hP12
  have hN := ho.2.2.1
  have over : ∀ (D m s k : Nat) (S : xS), m < 2 ^ xgH (xzg c) → xPr S c w see nw → xovr (xzg c) m = true → ∃ S', xcall false (D + 5) j_X2_worthOf [.ref 73, .int (nI m), .int (nI s), .int (nI k)] S (some (.int (nI (xWo9 c w see m s k)))) S' ∧ xFl (xFW k) S S' ∧ xMo S' c w see nw := by
    intro D m s k S hm hP hov
    have hX := hP.1
    have h24 := x24 g24.2.1 hm
    have gi := c_isOver (D + 3) hgg hm hX hP.2.1.1
    rw [hov] at gi
    have go := c_owners (D + 4) hgg (show m < 2 ^ 31 by omega) hX hP.2.1.1
    have ge := c_endWorth (k := k) (L := xpm (xzg c) m) (D + 3) hw (Nat.lt_of_lt_of_le (xpm_lt hm) p12) hX hP.2.2.1
    rw [show xWo9 c w see m s k = xEE c w k (xpm (xzg c) m) by unfold xWo9; rw [if_pos hov]]
    refine ⟨S, ?_, xFl.rf S, hP.2.2.2⟩
    refine xcall_intro (ls := [.ref 73, .int (nI m), .int (nI s), .int (nI k), .float 0, .float 0, .float 0, .float 0]) q_X2_worthOf (by decide) rfl (Nat.le_of_ble_eq_true rfl) rfl ?_
    refine wp_aload_n dX2_worthOf_0 rfl rfl (g2_14 dX2_worthOf_1 (xsh hX sh_73) (xrr hX r73_0) (wp_iload_n dX2_worthOf_4 rfl (wp_iv2 dX2_worthOf_5 k2_50 q_X4_isOver (by decide) (xsh hX sh_74) (by decide) (Nat.le_of_ble_eq_true rfl) gi ?_)))
    refine wb_if_eq dX2_worthOf_8 rfl (fun c8 => absurd c8 (by decide)) (fun c8 => ?_)
    exact wp_aload_n dX2_worthOf_11 rfl rfl (wp_aload_n dX2_worthOf_12 rfl rfl (g2_14 dX2_worthOf_13 (xsh hX sh_73) (xrr hX r73_0) (wp_iload_n dX2_worthOf_16 rfl (wp_iv2 dX2_worthOf_17 k2_94 q_X4_owners (by decide) (xsh hX sh_74) (by decide) (Nat.le_of_ble_eq_true rfl) go (wp_iv2 dX2_worthOf_20 k2_97 q_X2_endWorth (by decide) (xsh hX sh_73) (by decide) (Nat.le_of_ble_eq_true rfl) ge (wp_ireturn dX2_worthOf_23 rfl rfl ⟨rfl, rfl⟩))))))
  intro f
  induction f with
  | zero =>
    intro d m s k S hk hm hs hc h0 hP
    have hz : m = 0 := by
      rcases Nat.eq_zero_or_pos m with z | z
      · exact z
      · have := xcb_ge hm z; omega
    have hst : xgs (xzg c) = false := by
      cases e : xgs (xzg c) with
      | false => rfl
      | true => have := h0 e; omega
    exact over d m s k S hm hP (by rw [hz]; exact xovr_0 hst)
  | succ f ih =>
    intro d m s k S hk hm hs hc h0 hP
    have eD : d + 2 * (f + 1) + 5 = (d + 2 * f) + 7 := by omega
    rw [eD]
    cases hov : xovr (xzg c) m with
    | true => exact over (d + 2 * f + 2) m s k S hm hP hov
    | false =>
      have hX := hP.1
      have hm0 : 0 < m := by
        rcases Nat.eq_zero_or_pos m with z | z
        · cases hst : xgs (xzg c) with
          | true => exact h0 hst
          | false => rw [z, xovr_0 hst] at hov; cases hov
        · exact z
      have hg : xgd c m s k := ⟨hm, hm0, hs, hc⟩
      obtain ⟨hm8, hs8, hkey⟩ := hg.key h8
      have hkk := hg.k
      have gi := c_isOver (d + 2 * f + 5) hgg hm hX hP.2.1.1
      rw [hov] at gi
      have gk := c_key (m := m) (s := s) (d + 2 * f + 6) (S := S)
      have gy := c_isKey (x := m * 8 + s) (d + 2 * f + 6) hkey (S := S)
      obtain ⟨v, hv1, hv2⟩ := hP.2.2.2.1 (m * 8 + s) hkey
      have kn := hP.2.2.1.1
      rw [show xWo9 c w see m s k = xVW c w see m s k by unfold xWo9; rw [hov, if_neg (by decide)]]
      rcases Decidable.em (v = nw) with z | z
      · subst z
        have kw := hP.2.2.2.2 m s k hg hv2
        refine ⟨S, ?_, xFl.rf S, hP.2.2.2⟩
        refine xcall_intro (ls := [.ref 73, .int (nI m), .int (nI s), .int (nI k), .float 0, .float 0, .float 0, .float 0]) q_X2_worthOf (by decide) rfl (Nat.le_of_ble_eq_true rfl) rfl ?_
        refine wp_aload_n dX2_worthOf_0 rfl rfl (g2_14 dX2_worthOf_1 (xsh hX sh_73) (xrr hX r73_0) (wp_iload_n dX2_worthOf_4 rfl (wp_iv2 dX2_worthOf_5 k2_50 q_X4_isOver (by decide) (xsh hX sh_74) (by decide) (Nat.le_of_ble_eq_true rfl) gi ?_)))
        refine wb_if_eq dX2_worthOf_8 rfl (fun c8 => ?_) (fun c8 => absurd c8 (by decide))
        refine wp_iload_n dX2_worthOf_24 rfl (wp_iload_n dX2_worthOf_25 rfl (wp_is2 dX2_worthOf_26 k2_100 q_X2_key (by decide) (Nat.le_of_ble_eq_true rfl) gk (wp_istore dX2_worthOf_29 ⟨Nat.le_of_ble_eq_true rfl, Or.inr rfl⟩ rfl (wp_iload_n dX2_worthOf_31 rfl (wp_bipush (v := nI 8) dX2_worthOf_32 rfl ?_)))))
        refine wn_icmp_ge dX2_worthOf_34 rfl (by omega) (by omega) (fun c34 => absurd c34 (by omega)) (fun c34 => ?_)
        refine wp_iload dX2_worthOf_37 rfl (wp_is1 dX2_worthOf_39 k2_103 q_X2_isKey (by decide) (Nat.le_of_ble_eq_true rfl) gy ?_)
        refine wb_if_ne dX2_worthOf_42 rfl (fun c42 => ?_) (fun c42 => absurd c42 (by decide))
        refine wp_aload_n dX2_worthOf_47 rfl rfl (g2_22 dX2_worthOf_48 (xsh hX sh_73) (xrr hX r73_2) (wp_iload dX2_worthOf_51 rfl (wn_iaload dX2_worthOf_53 (xsh hX sh_131) rfl (by omega) (by decide) hv2 (wp_aload_n dX2_worthOf_54 rfl rfl (gv2_91 dX2_worthOf_55 (xsh hX sh_73) kn ?_)))))
        refine wn_icmp_ne dX2_worthOf_58 rfl (by omega) (by omega) (fun c58 => absurd c58 (by omega)) (fun c58 => ?_)
        exact wp_aload_n dX2_worthOf_61 rfl rfl (g2_18 dX2_worthOf_62 (xsh hX sh_73) (xrr hX r73_1) (wp_iload dX2_worthOf_65 rfl (wn_iaload dX2_worthOf_67 (xsh hX sh_130) rfl (by omega) (by decide) kw (wp_ireturn dX2_worthOf_68 rfl rfl ⟨rfl, rfl⟩))))
      · obtain ⟨S1, gr, f1, h80, h82⟩ := c_reckonZ (ex := 0) (m := m) (s := s) (k := k) (d + 2 * f + 3) ho ha (by decide) hm hm0 hs (by omega) hX hP.2.1
        have F1 : xFl (xFW k) S S1 := f1.mono (fun i q h => by unfold xFW; omega)
        have P1 := hP.fr ho F1 (hP.2.2.2.fr f1 (fun x => by omega))
        have X1 := P1.1
        have IH := fun (m s : Nat) (S : xS) a b cc dd ee => ih d m s (k + 1) S (by omega) a b cc dd ee
        have hw1 : 1 ≤ xzw c k := by unfold xzw; split <;> omega
        obtain ⟨S2, ga, f2, m2⟩ := c_worthAfter (a := 0) (d := d + 2 * f) ho h8 hw IH hg (by decide) P1 (h82 0 (by omega))
        have F2 := F1.tt (f2.mono (xFW_s k))
        have P2 := P1.fr ho f2 m2
        have X2 := P2.1
        have hv0 := xvW_lt (w := w) (see := see) (a := 0) ho hg
        have eV : xVW c w see m s k = xJJ c w see m s k (fun a => (xvl c 0 (xEE c w) (xVW c w see) m s k a)) := xV_eq _ _ hg
        have last : ∀ (S3 : xS) (y5 y7 : Value), xFl (xFW (k + 1)) S2 S3 → xMo S3 c w see nw → Wp false (d + 2 * f + 7) 2 cX2_worthOf (some .int) false 135 [.ref 73, .int (nI m), .int (nI s), .int (nI k), .int (nI (m * 8 + s)), y5, .int (nI (xVW c w see m s k)), y7] [] S3 (fun r S' => r = some (.int (nI (xVW c w see m s k))) ∧ xFl (xFW k) S S' ∧ xMo S' c w see nw) := by
          intro S3 y5 y7 f3 m3
          have P3 := P2.fr ho f3 m3
          have X3 := P3.1
          have kn3 := P3.2.2.1.1
          have A : xFl (fun i q => (i = 131 ∨ i = 130) ∧ q = m * 8 + s) S3 (xSI (xSI S3 131 (m * 8 + s) (nI nw)) 130 (m * 8 + s) (nI (xVW c w see m s k))) := ((xFl.rf S3).SI ⟨Or.inl rfl, rfl⟩).SI ⟨Or.inr rfl, rfl⟩
          have FF : xFl (xFW k) S (xSI (xSI S3 131 (m * 8 + s) (nI nw)) 130 (m * 8 + s) (nI (xVW c w see m s k))) := (F2.tt (f3.mono (xFW_s k))).tt (A.mono (fun i q h => by unfold xFW; omega))
          have fin : xFl (xFW k) S (xSI (xSI S3 131 (m * 8 + s) (nI nw)) 130 (m * 8 + s) (nI (xVW c w see m s k))) ∧ xMo (xSI (xSI S3 131 (m * 8 + s) (nI nw)) 130 (m * 8 + s) (nI (xVW c w see m s k))) c w see nw := by
            refine ⟨FF, fun x hx => ?_, fun m' s' k' hg' e => ?_⟩
            · rcases Decidable.em (x = m * 8 + s) with q | q
              · rw [q]; exact ⟨nw, Nat.le_refl _, xi (xI_same _ _ _ _) (Or.inl (by decide))⟩
              · obtain ⟨v, q1, q2⟩ := m3.1 x hx
                exact ⟨v, q1, A.i q2 (by omega)⟩
            · obtain ⟨_, hs8', _⟩ := hg'.key h8
              rcases Decidable.em (m' * 8 + s' = m * 8 + s) with q | q
              · have q1 : m' = m := by omega
                have q2 : s' = s := by omega
                subst q1; subst q2
                have q3 : k' = k := by have := hg.2.2.2; have := hg'.2.2.2; omega
                subst q3
                exact xI_same _ _ _ _
              · exact A.i (m3.2 m' s' k' hg' ((A.2.2 131 _ (by omega)).symm.trans e)) (by omega)
          exact wp_aload_n dX2_worthOf_135 rfl rfl (g2_22 dX2_worthOf_136 (xsh X3 sh_73) (xrr X3 r73_2) (wp_iload dX2_worthOf_139 rfl (wp_aload_n dX2_worthOf_141 rfl rfl (gv2_91 dX2_worthOf_142 (xsh X3 sh_73) kn3 (wn_iastore dX2_worthOf_145 (xsh X3 sh_131) rfl (by omega) (by decide) (wp_aload_n dX2_worthOf_146 rfl rfl (g2_18 dX2_worthOf_147 (xsh X3 sh_73) (xrr X3 r73_1) (wp_iload dX2_worthOf_150 rfl (wp_iload dX2_worthOf_152 rfl (wn_iastore dX2_worthOf_154 (xsh X3 sh_130) rfl (by omega) (by decide) (wp_iload dX2_worthOf_155 rfl (wp_ireturn dX2_worthOf_157 rfl rfl ⟨rfl, fin⟩))))))))))))
        cases hask : xzA c k with
        | true =>
          have hw2 : xzw c k = c.2.2.2.1.length := by unfold xzw; rw [if_pos hask]
          rw [hask, if_pos rfl] at h80
          rw [hw2] at h82 gr
          have eL := xJJ_lp (w := w) (see := see) (m := m) (s := s) (v := fun a => (xvl c 0 (xEE c w) (xVW c w see) m s k a)) ho hask (fun p hp a => by subst hp; exact xvW_1)
          rw [← eV] at eL
          have lp := wor_loop (d := d + 2 * f) ho h8 hw IH hsee hg (Q := (fun r S' => r = some (.int (nI (xVW c w see m s k))) ∧ xFl (xFW k) S S' ∧ xMo S' c w see nw)) (c.2.2.2.1.length - 1) 1 (xvl c 0 (xEE c w) (xVW c w see) m s k 0) S2 (by omega) (by omega) P2 (f2.i h80 (by unfold xFW; omega)) (fun e he => f2.i (h82 e he) (by unfold xFW; omega)) (fun S3 y7 f3 m3 => by rw [← eL]; exact last S3 _ y7 f3 m3)
          obtain ⟨r, S', g3, rfl, z⟩ := xcall_some (al := false) (d := d + 2 * f + 7) (ls := [.ref 73, .int (nI m), .int (nI s), .int (nI k), .float 0, .float 0, .float 0, .float 0]) (S := S) (as := [.ref 73, .int (nI m), .int (nI s), .int (nI k)]) q_X2_worthOf (by decide) rfl (Nat.le_of_ble_eq_true rfl) rfl (P := (fun r S' => r = some (.int (nI (xVW c w see m s k))) ∧ xFl (xFW k) S S' ∧ xMo S' c w see nw)) (by
            refine wp_aload_n dX2_worthOf_0 rfl rfl (g2_14 dX2_worthOf_1 (xsh hX sh_73) (xrr hX r73_0) (wp_iload_n dX2_worthOf_4 rfl (wp_iv2 dX2_worthOf_5 k2_50 q_X4_isOver (by decide) (xsh hX sh_74) (by decide) (Nat.le_of_ble_eq_true rfl) gi ?_)))
            refine wb_if_eq dX2_worthOf_8 rfl (fun c8 => ?_) (fun c8 => absurd c8 (by decide))
            refine wp_iload_n dX2_worthOf_24 rfl (wp_iload_n dX2_worthOf_25 rfl (wp_is2 dX2_worthOf_26 k2_100 q_X2_key (by decide) (Nat.le_of_ble_eq_true rfl) gk (wp_istore dX2_worthOf_29 ⟨Nat.le_of_ble_eq_true rfl, Or.inr rfl⟩ rfl (wp_iload_n dX2_worthOf_31 rfl (wp_bipush (v := nI 8) dX2_worthOf_32 rfl ?_)))))
            refine wn_icmp_ge dX2_worthOf_34 rfl (by omega) (by omega) (fun c34 => absurd c34 (by omega)) (fun c34 => ?_)
            refine wp_iload dX2_worthOf_37 rfl (wp_is1 dX2_worthOf_39 k2_103 q_X2_isKey (by decide) (Nat.le_of_ble_eq_true rfl) gy ?_)
            refine wb_if_ne dX2_worthOf_42 rfl (fun c42 => ?_) (fun c42 => absurd c42 (by decide))
            refine wp_aload_n dX2_worthOf_47 rfl rfl (g2_22 dX2_worthOf_48 (xsh hX sh_73) (xrr hX r73_2) (wp_iload dX2_worthOf_51 rfl (wn_iaload dX2_worthOf_53 (xsh hX sh_131) rfl (by omega) (by decide) hv2 (wp_aload_n dX2_worthOf_54 rfl rfl (gv2_91 dX2_worthOf_55 (xsh hX sh_73) kn ?_)))))
            refine wn_icmp_ne dX2_worthOf_58 rfl (by omega) (by omega) (fun c58 => ?_) (fun c58 => absurd c58 (by omega))
            exact wp_aload_n dX2_worthOf_69 rfl rfl (g2_14 dX2_worthOf_70 (xsh hX sh_73) (xrr hX r73_0) (wp_iload_n dX2_worthOf_73 rfl (wp_iload_n dX2_worthOf_74 rfl (wp_iload_n dX2_worthOf_75 rfl (wp_iv4 dX2_worthOf_76 k2_54 q_X4_reckon (by decide) (xsh hX sh_74) (by decide) (Nat.le_of_ble_eq_true rfl) gr (wp_istore dX2_worthOf_79 ⟨Nat.le_of_ble_eq_true rfl, Or.inr rfl⟩ rfl (wp_aload_n dX2_worthOf_81 rfl rfl (wp_iload_n dX2_worthOf_82 rfl (wp_iload_n dX2_worthOf_83 rfl (wp_iload_n dX2_worthOf_84 rfl (wp_iconst (v := nI 0) dX2_worthOf_85 rfl (wp_iv5 dX2_worthOf_86 k2_63 q_X2_worthAfter (by decide) (xsh X1 sh_73) (by decide) (Nat.le_of_ble_eq_true rfl) ga (wp_istore dX2_worthOf_89 ⟨Nat.le_of_ble_eq_true rfl, Or.inr rfl⟩ rfl (wp_iconst (v := nI 1) dX2_worthOf_91 rfl (wp_istore dX2_worthOf_92 ⟨Nat.le_of_ble_eq_true rfl, Or.inr rfl⟩ rfl lp))))))))))))))))
          exact ⟨S', g3, z⟩
        | false =>
          have hw2 : xzw c k = 1 := by unfold xzw; rw [hask, if_neg (by decide)]
          rw [hw2] at gr
          rw [xJJ_no hask] at eV
          have la := last S2 (.int (nI 1)) (.int (nI 1)) (xFl.rf S2) m2
          obtain ⟨r, S', g3, rfl, z⟩ := xcall_some (al := false) (d := d + 2 * f + 7) (ls := [.ref 73, .int (nI m), .int (nI s), .int (nI k), .float 0, .float 0, .float 0, .float 0]) (S := S) (as := [.ref 73, .int (nI m), .int (nI s), .int (nI k)]) q_X2_worthOf (by decide) rfl (Nat.le_of_ble_eq_true rfl) rfl (P := (fun r S' => r = some (.int (nI (xVW c w see m s k))) ∧ xFl (xFW k) S S' ∧ xMo S' c w see nw)) (by
            rw [eV] at la ⊢
            refine wp_aload_n dX2_worthOf_0 rfl rfl (g2_14 dX2_worthOf_1 (xsh hX sh_73) (xrr hX r73_0) (wp_iload_n dX2_worthOf_4 rfl (wp_iv2 dX2_worthOf_5 k2_50 q_X4_isOver (by decide) (xsh hX sh_74) (by decide) (Nat.le_of_ble_eq_true rfl) gi ?_)))
            refine wb_if_eq dX2_worthOf_8 rfl (fun c8 => ?_) (fun c8 => absurd c8 (by decide))
            refine wp_iload_n dX2_worthOf_24 rfl (wp_iload_n dX2_worthOf_25 rfl (wp_is2 dX2_worthOf_26 k2_100 q_X2_key (by decide) (Nat.le_of_ble_eq_true rfl) gk (wp_istore dX2_worthOf_29 ⟨Nat.le_of_ble_eq_true rfl, Or.inr rfl⟩ rfl (wp_iload_n dX2_worthOf_31 rfl (wp_bipush (v := nI 8) dX2_worthOf_32 rfl ?_)))))
            refine wn_icmp_ge dX2_worthOf_34 rfl (by omega) (by omega) (fun c34 => absurd c34 (by omega)) (fun c34 => ?_)
            refine wp_iload dX2_worthOf_37 rfl (wp_is1 dX2_worthOf_39 k2_103 q_X2_isKey (by decide) (Nat.le_of_ble_eq_true rfl) gy ?_)
            refine wb_if_ne dX2_worthOf_42 rfl (fun c42 => ?_) (fun c42 => absurd c42 (by decide))
            refine wp_aload_n dX2_worthOf_47 rfl rfl (g2_22 dX2_worthOf_48 (xsh hX sh_73) (xrr hX r73_2) (wp_iload dX2_worthOf_51 rfl (wn_iaload dX2_worthOf_53 (xsh hX sh_131) rfl (by omega) (by decide) hv2 (wp_aload_n dX2_worthOf_54 rfl rfl (gv2_91 dX2_worthOf_55 (xsh hX sh_73) kn ?_)))))
            refine wn_icmp_ne dX2_worthOf_58 rfl (by omega) (by omega) (fun c58 => ?_) (fun c58 => absurd c58 (by omega))
            refine wp_aload_n dX2_worthOf_69 rfl rfl (g2_14 dX2_worthOf_70 (xsh hX sh_73) (xrr hX r73_0) (wp_iload_n dX2_worthOf_73 rfl (wp_iload_n dX2_worthOf_74 rfl (wp_iload_n dX2_worthOf_75 rfl (wp_iv4 dX2_worthOf_76 k2_54 q_X4_reckon (by decide) (xsh hX sh_74) (by decide) (Nat.le_of_ble_eq_true rfl) gr (wp_istore dX2_worthOf_79 ⟨Nat.le_of_ble_eq_true rfl, Or.inr rfl⟩ rfl (wp_aload_n dX2_worthOf_81 rfl rfl (wp_iload_n dX2_worthOf_82 rfl (wp_iload_n dX2_worthOf_83 rfl (wp_iload_n dX2_worthOf_84 rfl (wp_iconst (v := nI 0) dX2_worthOf_85 rfl (wp_iv5 dX2_worthOf_86 k2_63 q_X2_worthAfter (by decide) (xsh X1 sh_73) (by decide) (Nat.le_of_ble_eq_true rfl) ga (wp_istore dX2_worthOf_89 ⟨Nat.le_of_ble_eq_true rfl, Or.inr rfl⟩ rfl (wp_iconst (v := nI 1) dX2_worthOf_91 rfl (wp_istore dX2_worthOf_92 ⟨Nat.le_of_ble_eq_true rfl, Or.inr rfl⟩ rfl ?_)))))))))))))))
            refine wp_iload dX2_worthOf_94 rfl (wp_iload dX2_worthOf_96 rfl ?_)
            refine wn_icmp_ge dX2_worthOf_98 rfl (by omega) (by omega) (fun c98 => ?_) (fun c98 => absurd c98 (by omega))
            exact la)
          exact ⟨S', g3, z⟩
