/-! records of the class: followFrom, follow -/
theorem xrch_lo {c : xPx} {t : Nat → Nat} : ∀ i m s, xrch c t i m s → ∀ j, j < i → xmtc c t j
  | 0, _, _, _, j, h => absurd h (Nat.not_lt_zero j)
  | i + 1, m', s', h, j, hj => by
    obtain ⟨m, s, a, h1, h2, h3, _, _, _⟩ := h
    rcases Nat.lt_or_ge j i with w | w
    · exact xrch_lo i m s h1 j w
    · rw [show j = i by omega]; exact ⟨m, s, a, h1, h2, h3⟩
theorem xrch_no {c : xPx} {t : Nat → Nat} (h0 : xovr (xzg c) (2 ^ xgH (xzg c) - 1) = false) : ∀ i m s, xrch c t i m s → xovr (xzg c) m = false
  | 0, m, s, h => by rw [h.1]; exact h0
  | i + 1, m', s', h => by
    obtain ⟨m, s, a, h1, h2, h3, he, e1, e2⟩ := h
    rw [e1]
    unfold xen at he
    split at he
    · cases he
    · split at he
      · cases he
      · rename_i w; cases e : xovr (xzg c) (xn1 c 0 m s i a) with
        | false => rfl
        | true => exact absurd e w
/-- what is marked while a record is followed -/
def xfg (c : xPx) (t : Nat → Nat) (M : Nat → Bool) : Prop := ∀ x, M x = true → ∃ m s k, x = m * 8 + s ∧ xgd c m s k ∧ (xovr (xzg c) m = true ∨ xrch c t k m s)
def xFM (S : xS) (nw : Nat) (M : Nat → Bool) : Prop := ∃ sh, xSh S nw M (fun _ => 0) sh
theorem xFM.fr {S S' : xS} {nw : Nat} {M : Nat → Bool} {P : Nat → Nat → Prop} (h : xFM S nw M) (hf : xFl P S S') (hn : ∀ i q, (i = 130 ∨ i = 131 ∨ i = 132) → ¬ P i q) : xFM S' nw M := by obtain ⟨sh, h⟩ := h; exact ⟨sh, h.fr hf hn⟩
theorem xFM.add {S : xS} {nw z : Nat} {M : Nat → Bool} (h : xFM S nw M) : xFM (xSI (xSI S 130 z (nI (0 + 0))) 131 z (nI nw)) nw (fun y => M y || decide (y = z)) := by
  obtain ⟨sh, h⟩ := h
  have q := h.add (z := z) (W := 0)
  have e : (fun y => (fun _ : Nat => 0) y + if y = z then 0 else 0) = (fun _ : Nat => 0) := by funext y; show 0 + (if y = z then 0 else 0) = 0; split <;> rfl
  rw [e] at q
  exact ⟨sh, q⟩
/-- followFrom, its ANSWERS below a -/
def xffI (c : xPx) (t : Nat → Nat) (m s k : Nat) (M0 M : Nat → Bool) (b a : Nat) : Prop := ((b = k + 1 ∧ ∃ e, e < a ∧ xow (xgf (xzg c)) (xzh c 0 m s k e) = t k) ∨ (b = 0 ∧ ∀ e, e < a → ¬ xow (xgf (xzg c)) (xzh c 0 m s k e) = t k)) ∧ (∀ y, M0 y = true → M y = true) ∧ (∀ y, m * 8 ≤ y → M y = M0 y) ∧ xfg c t M ∧ ∀ e, e < a → xow (xgf (xzg c)) (xzh c 0 m s k e) = t k → xgs (xzg c) = false → M (xn1 c 0 m s k e * 8 + xn2 c 0 m s k e) = true
theorem xffI.no {c : xPx} {t : Nat → Nat} {m s k a b : Nat} {M0 M : Nat → Bool} (h : xffI c t m s k M0 M b a) (hne : ¬ xow (xgf (xzg c)) (xzh c 0 m s k a) = t k) : xffI c t m s k M0 M b (a + 1) := by
  obtain ⟨h1, h2, h3, h4, h5⟩ := h
  refine ⟨?_, h2, h3, h4, fun e he hm hs => ?_⟩
  · rcases h1 with ⟨q1, e, q2, q3⟩ | ⟨q1, q2⟩
    · exact Or.inl ⟨q1, e, by omega, q3⟩
    · refine Or.inr ⟨q1, fun e he => ?_⟩
      rcases Nat.lt_or_ge e a with w | w
      · exact q2 e w
      · rw [show e = a by omega]; exact hne
  · rcases Nat.lt_or_ge e a with w | w
    · exact h5 e w hm hs
    · rw [show e = a by omega] at hm; exact absurd hm hne
theorem xffI.st {c : xPx} {t : Nat → Nat} {m s k a b : Nat} {M0 M : Nat → Bool} (h : xffI c t m s k M0 M b a) (he : xow (xgf (xzg c)) (xzh c 0 m s k a) = t k) (hst : xgs (xzg c) = true) : xffI c t m s k M0 M (k + 1) (a + 1) := by
  obtain ⟨h1, h2, h3, h4, h5⟩ := h
  exact ⟨Or.inl ⟨rfl, a, Nat.lt_succ_self a, he⟩, h2, h3, h4, fun e he hm hs => by rw [hst] at hs; cases hs⟩
theorem xffI.go {c : xPx} {t : Nat → Nat} {m s k a b : Nat} {M0 M : Nat → Bool} (ho : xzo c) (h8 : xgH (xzg c) ≤ 8) (hg : xgd c m s k) (hov : xovr (xzg c) m = false) (hr : xrch c t k m s) (hw : a < xzw c k) (h : xffI c t m s k M0 M b a) (he : xow (xgf (xzg c)) (xzh c 0 m s k a) = t k) (hst : xgs (xzg c) = false) : xffI c t m s k M0 (fun y => M y || decide (y = xn1 c 0 m s k a * 8 + xn2 c 0 m s k a)) (k + 1) (a + 1) := by
  obtain ⟨h1, h2, h3, h4, h5⟩ := h
  have hn := hg.nx0 (ex := 0) (a := a) ho hov hst
  obtain ⟨_, hs8, hkey⟩ := hn.key h8
  obtain ⟨x, hx, hb⟩ := xtb_ex hg.1 hg.2.1
  have hr1 := xzR_pos (k := k) hx hb hg.2.2.1
  have lt : xn1 c 0 m s k a < m := xxor_lt (xha_tb hg.2.2.1 hr1)
  refine ⟨Or.inl ⟨rfl, a, Nat.lt_succ_self a, he⟩, fun y hy => ?_, fun y hy => ?_, fun y hy => ?_, fun e he' hm hs => ?_⟩
  · show (M y || _) = true
    rw [h2 y hy, Bool.true_or]
  · show (M y || decide (y = _)) = _
    rw [decide_eq_false (by omega), Bool.or_false]
    exact h3 y hy
  · have hy' : (M y || decide (y = xn1 c 0 m s k a * 8 + xn2 c 0 m s k a)) = true := hy
    rcases Bool.or_eq_true _ _ ▸ hy' with q | q
    · exact h4 y q
    · refine ⟨_, _, k + 1, of_decide_eq_true q, hn, ?_⟩
      cases e : xovr (xzg c) (xn1 c 0 m s k a) with
      | true => exact Or.inl rfl
      | false =>
        refine Or.inr ⟨m, s, a, hr, hw, he, ?_, rfl, rfl⟩
        unfold xen
        rw [hst, if_neg Bool.false_ne_true, e, if_neg Bool.false_ne_true]
  · rcases Nat.lt_or_ge e a with w | w
    · show (M _ || _) = true
      rw [h5 e w hm hs, Bool.true_or]
    · rw [show e = a by omega]
      show (M _ || decide (_ = _)) = true
      rw [decide_eq_true rfl, Bool.or_true]
theorem ff_loop {c : xPx} {t : Nat → Nat} {m s k n nw d : Nat} {M0 : Nat → Bool} (ho : xzo c) (ha : xzal c = true) (h8 : xgH (xzg c) ≤ 8) (hnw : nw < 2 ^ 30) (hg : xgd c m s k) (hov : xovr (xzg c) m = false) (hr : xrch c t k m s) (hkn : k < n) : ∀ (j a b : Nat) (S : xS) (M : Nat → Bool) (y9 y10 : Value), a + j = xzw c k → XC S → xRD S c 0 → xTb S n t → S.2.1 73 3 = nI nw → xFM S nw M → (∀ e, e < xzw c k → S.2.1 (82 + k) e = nI (xzh c 0 m s k e)) → xffI c t m s k M0 M b a → b ≤ 8 → Wp false (d + 4) 2 cX2_followFrom (some .int) false 58 [.ref 73, .int (nI m), .int (nI s), .ref 2, .int (nI n), .int (nI k), .int (nI (xzw c k)), .int (nI b), .int (nI a), y9, y10] [] S (fun r S' => ∃ b' M', r = some (.int (nI b')) ∧ xFl (fun i q => i = 130 ∨ i = 131) S S' ∧ xFM S' nw M' ∧ xffI c t m s k M0 M' b' (xzw c k)) := by
  have hgg := ho.g
  have g24 := hgg.H
  have hN := ho.2.2.1
  have hk := hg.k
  have hP12 : xgP (xzg c) ≤ 12 := hgg.2.1
  have hw1 : 1 ≤ xzw c k ∧ xzw c k ≤ 5 := by unfold xzw; split <;> omega
  have h24 := x24 g24.2.1 hg.1
  intro j
  induction j with
  | zero =>
    intro a b S M y9 y10 haj hX hD hT kn hM h82 hI hb8
    have haa : a = xzw c k := by omega
    subst haa
    have fin : ∃ b' M', some (Value.int (nI b)) = some (.int (nI b')) ∧ xFl (fun i q => i = 130 ∨ i = 131) S S ∧ xFM S nw M' ∧ xffI c t m s k M0 M' b' (xzw c k) := ⟨b, M, rfl, xFl.rf S, hM, hI⟩
    refine wp_iload dX2_followFrom_58 rfl (wp_iload dX2_followFrom_60 rfl ?_)
    refine wn_icmp_ge dX2_followFrom_62 rfl (by omega) (by omega) (fun c62 => ?_) (fun c62 => absurd c62 (by omega))
    exact wp_iload dX2_followFrom_149 rfl (wp_ireturn dX2_followFrom_151 rfl rfl fin)
  | succ j ih =>
    intro a b S M y9 y10 haj hX hD hT kn hM h82 hI hb8
    have hh : xzh c 0 m s k a < xgH (xzg c) := xzh_lt 0 m k a hg.2.2.1
    have hown := xow_lt hh
    have gh := c_handHit (d + 3) (show k < 24 by omega) (show a < 5 by omega) hX (h82 a (by omega))
    have go := c_ownerOf (h := xzh c 0 m s k a) (d + 3) (by omega) hX hD.1
    have ks := hD.1.2.2.2.2.2.1
    obtain ⟨t1, t2⟩ := hT.2 k hkn
    obtain ⟨x, hx, hb⟩ := xtb_ex hg.1 hg.2.1
    have hr1 := xzR_pos (k := k) hx hb hg.2.2.1
    have hbit : m.testBit (xzh c 0 m s k a) = true := xha_tb hg.2.2.1 hr1
    rcases Decidable.em (xow (xgf (xzg c)) (xzh c 0 m s k a) = t k) with w | w
    · cases hst : xgs (xzg c) with
      | true =>
        rw [hst] at ks
        have nx := ih (a + 1) (k + 1) S M (.int (nI (xzh c 0 m s k a))) (.int (nI (xn1 c 0 m s k a))) (by omega) hX hD hT kn hM h82 (hI.st w hst) (by omega)
        refine wp_iload dX2_followFrom_58 rfl (wp_iload dX2_followFrom_60 rfl ?_)
        refine wn_icmp_ge dX2_followFrom_62 rfl (by omega) (by omega) (fun c62 => absurd c62 (by omega)) (fun c62 => ?_)
        refine wp_aload_n dX2_followFrom_65 rfl rfl (g2_14 dX2_followFrom_66 (xsh hX sh_73) (xrr hX r73_0) (wp_iload dX2_followFrom_69 rfl (wp_iload dX2_followFrom_71 rfl (wp_iv3 dX2_followFrom_73 k2_75 q_X4_handHit (by decide) (xsh hX sh_74) (by decide) (Nat.le_of_ble_eq_true rfl) gh (wp_istore dX2_followFrom_76 ⟨Nat.le_of_ble_eq_true rfl, Or.inr rfl⟩ rfl (wp_aload_n dX2_followFrom_78 rfl rfl (g2_14 dX2_followFrom_79 (xsh hX sh_73) (xrr hX r73_0) (wp_iload dX2_followFrom_82 rfl (wp_iv2 dX2_followFrom_84 k2_112 q_X4_ownerOf (by decide) (xsh hX sh_74) (by decide) (Nat.le_of_ble_eq_true rfl) go (wp_aload_n dX2_followFrom_87 rfl rfl (wp_iload dX2_followFrom_88 rfl (wn_caload dX2_followFrom_90 (xsh hX sh_2) rfl (by omega) (by decide) t2 ?_))))))))))))
        refine wn_icmp_ne dX2_followFrom_91 rfl (by omega) (by omega) (fun c91 => absurd c91 (by omega)) (fun c91 => ?_)
        refine wp_iload dX2_followFrom_94 rfl (wp_iconst (v := nI 1) dX2_followFrom_96 rfl (wv_iadd dX2_followFrom_97 (nI_add _ _) (wp_istore dX2_followFrom_98 ⟨Nat.le_of_ble_eq_true rfl, Or.inr rfl⟩ rfl (wp_iload_n dX2_followFrom_100 rfl (wp_iconst (v := nI 1) dX2_followFrom_101 rfl (wp_iload dX2_followFrom_102 rfl (wv_ishl dX2_followFrom_104 (xshl1 (by omega)) (wp_iconst (v := -1) dX2_followFrom_105 rfl (wp_ixor dX2_followFrom_106 (wv_iand dX2_followFrom_107 (xrmb (by omega) hbit) (wp_istore dX2_followFrom_108 ⟨Nat.le_of_ble_eq_true rfl, Or.inr rfl⟩ rfl (wp_aload_n dX2_followFrom_110 rfl rfl (g2_14 dX2_followFrom_111 (xsh hX sh_73) (xrr hX r73_0) (gv2_71 dX2_followFrom_114 (xsh hX sh_74) ks ?_))))))))))))))
        refine wb_if_ne dX2_followFrom_117 rfl (fun c117 => ?_) (fun c117 => absurd c117 (by decide))
        exact wp_iinc dX2_followFrom_143 rfl (nI_1 _) ⟨Nat.le_of_ble_eq_true rfl, Or.inr rfl⟩ rfl (wp_goto dX2_followFrom_146 rfl nx)
      | false =>
        rw [hst] at ks
        have hn := hg.nx0 (ex := 0) (a := a) ho hov hst
        have h242 := x24 g24.2.1 hn.1
        have gn := c_nextBegin (m := xn1 c 0 m s k a) (s := s) (h := xzh c 0 m s k a) (k := k + 1) (d + 1) hgg (by omega) hg.2.2.1 hh (by omega) hX hD.1
        have gd : xcall false (d + 3) j_X2_add [.ref 73, .int (nI (xn1 c 0 m s k a)), .int (nI (xn2 c 0 m s k a)), .int (nI 0)] S none (xSI (xSI S 130 (xn1 c 0 m s k a * 8 + xn2 c 0 m s k a) (nI (0 + 0))) 131 (xn1 c 0 m s k a * 8 + xn2 c 0 m s k a) (nI nw)) := by
          obtain ⟨sh, hs⟩ := hM
          exact c_add (W := 0) (d + 2) (hn.key h8).2.2 hnw hX kn hs
        have F1 : xFl (fun i q => i = 130 ∨ i = 131) S (xSI (xSI S 130 (xn1 c 0 m s k a * 8 + xn2 c 0 m s k a) (nI (0 + 0))) 131 (xn1 c 0 m s k a * 8 + xn2 c 0 m s k a) (nI nw)) := ((xFl.rf S).SI (Or.inl rfl)).SI (Or.inr rfl)
        have X1 := F1.XC hX
        have nx := (ih (a + 1) (k + 1) _ _ (.int (nI (xzh c 0 m s k a))) (.int (nI (xn1 c 0 m s k a))) (by omega) X1 (hD.fr F1 (fun i q h => by omega) ho) (hT.fr F1 (fun q h => by omega)) (F1.i kn (by omega)) hM.add (fun e he => F1.i (h82 e he) (by omega)) (hI.go ho h8 hg hov hr (by omega) w hst) (by omega)).mono (Q' := (fun r S' => ∃ b' M', r = some (.int (nI b')) ∧ xFl (fun i q => i = 130 ∨ i = 131) S S' ∧ xFM S' nw M' ∧ xffI c t m s k M0 M' b' (xzw c k))) (fun r S' z => by
          obtain ⟨b', M', z1, z2, z3⟩ := z
          exact ⟨b', M', z1, F1.tt z2, z3⟩)
        refine wp_iload dX2_followFrom_58 rfl (wp_iload dX2_followFrom_60 rfl ?_)
        refine wn_icmp_ge dX2_followFrom_62 rfl (by omega) (by omega) (fun c62 => absurd c62 (by omega)) (fun c62 => ?_)
        refine wp_aload_n dX2_followFrom_65 rfl rfl (g2_14 dX2_followFrom_66 (xsh hX sh_73) (xrr hX r73_0) (wp_iload dX2_followFrom_69 rfl (wp_iload dX2_followFrom_71 rfl (wp_iv3 dX2_followFrom_73 k2_75 q_X4_handHit (by decide) (xsh hX sh_74) (by decide) (Nat.le_of_ble_eq_true rfl) gh (wp_istore dX2_followFrom_76 ⟨Nat.le_of_ble_eq_true rfl, Or.inr rfl⟩ rfl (wp_aload_n dX2_followFrom_78 rfl rfl (g2_14 dX2_followFrom_79 (xsh hX sh_73) (xrr hX r73_0) (wp_iload dX2_followFrom_82 rfl (wp_iv2 dX2_followFrom_84 k2_112 q_X4_ownerOf (by decide) (xsh hX sh_74) (by decide) (Nat.le_of_ble_eq_true rfl) go (wp_aload_n dX2_followFrom_87 rfl rfl (wp_iload dX2_followFrom_88 rfl (wn_caload dX2_followFrom_90 (xsh hX sh_2) rfl (by omega) (by decide) t2 ?_))))))))))))
        refine wn_icmp_ne dX2_followFrom_91 rfl (by omega) (by omega) (fun c91 => absurd c91 (by omega)) (fun c91 => ?_)
        refine wp_iload dX2_followFrom_94 rfl (wp_iconst (v := nI 1) dX2_followFrom_96 rfl (wv_iadd dX2_followFrom_97 (nI_add _ _) (wp_istore dX2_followFrom_98 ⟨Nat.le_of_ble_eq_true rfl, Or.inr rfl⟩ rfl (wp_iload_n dX2_followFrom_100 rfl (wp_iconst (v := nI 1) dX2_followFrom_101 rfl (wp_iload dX2_followFrom_102 rfl (wv_ishl dX2_followFrom_104 (xshl1 (by omega)) (wp_iconst (v := -1) dX2_followFrom_105 rfl (wp_ixor dX2_followFrom_106 (wv_iand dX2_followFrom_107 (xrmb (by omega) hbit) (wp_istore dX2_followFrom_108 ⟨Nat.le_of_ble_eq_true rfl, Or.inr rfl⟩ rfl (wp_aload_n dX2_followFrom_110 rfl rfl (g2_14 dX2_followFrom_111 (xsh hX sh_73) (xrr hX r73_0) (gv2_71 dX2_followFrom_114 (xsh hX sh_74) ks ?_))))))))))))))
        refine wb_if_ne dX2_followFrom_117 rfl (fun c117 => absurd c117 (by decide)) (fun c117 => ?_)
        exact wp_aload_n dX2_followFrom_120 rfl rfl (wp_iload dX2_followFrom_121 rfl (wp_aload_n dX2_followFrom_123 rfl rfl (g2_14 dX2_followFrom_124 (xsh hX sh_73) (xrr hX r73_0) (wp_iload dX2_followFrom_127 rfl (wp_iload_n dX2_followFrom_129 rfl (wp_iload dX2_followFrom_130 rfl (wp_iload dX2_followFrom_132 rfl (wp_iconst (v := nI 1) dX2_followFrom_134 rfl (wv_iadd dX2_followFrom_135 (nI_add _ _) (wp_iv5 dX2_followFrom_136 k2_79 q_X4_nextBegin (by decide) (xsh hX sh_74) (by decide) (Nat.le_of_ble_eq_true rfl) gn (wp_iconst (v := nI 0) dX2_followFrom_139 rfl (wp_iv4 dX2_followFrom_140 k2_133 q_X2_add (by decide) (xsh hX sh_73) (by decide) (Nat.le_of_ble_eq_true rfl) gd (wp_iinc dX2_followFrom_143 rfl (nI_1 _) ⟨Nat.le_of_ble_eq_true rfl, Or.inr rfl⟩ rfl (wp_goto dX2_followFrom_146 rfl nx))))))))))))))
    · have nx := ih (a + 1) b S M (.int (nI (xzh c 0 m s k a))) y10 (by omega) hX hD hT kn hM h82 (hI.no w) hb8
      refine wp_iload dX2_followFrom_58 rfl (wp_iload dX2_followFrom_60 rfl ?_)
      refine wn_icmp_ge dX2_followFrom_62 rfl (by omega) (by omega) (fun c62 => absurd c62 (by omega)) (fun c62 => ?_)
      refine wp_aload_n dX2_followFrom_65 rfl rfl (g2_14 dX2_followFrom_66 (xsh hX sh_73) (xrr hX r73_0) (wp_iload dX2_followFrom_69 rfl (wp_iload dX2_followFrom_71 rfl (wp_iv3 dX2_followFrom_73 k2_75 q_X4_handHit (by decide) (xsh hX sh_74) (by decide) (Nat.le_of_ble_eq_true rfl) gh (wp_istore dX2_followFrom_76 ⟨Nat.le_of_ble_eq_true rfl, Or.inr rfl⟩ rfl (wp_aload_n dX2_followFrom_78 rfl rfl (g2_14 dX2_followFrom_79 (xsh hX sh_73) (xrr hX r73_0) (wp_iload dX2_followFrom_82 rfl (wp_iv2 dX2_followFrom_84 k2_112 q_X4_ownerOf (by decide) (xsh hX sh_74) (by decide) (Nat.le_of_ble_eq_true rfl) go (wp_aload_n dX2_followFrom_87 rfl rfl (wp_iload dX2_followFrom_88 rfl (wn_caload dX2_followFrom_90 (xsh hX sh_2) rfl (by omega) (by decide) t2 ?_))))))))))))
      refine wn_icmp_ne dX2_followFrom_91 rfl (by omega) (by omega) (fun c91 => ?_) (fun c91 => absurd c91 (by omega))
      exact wp_iinc dX2_followFrom_143 rfl (nI_1 _) ⟨Nat.le_of_ble_eq_true rfl, Or.inr rfl⟩ rfl (wp_goto dX2_followFrom_146 rfl nx)
theorem c_followFrom {c : xPx} {t : Nat → Nat} {m s k n nw : Nat} {M0 : Nat → Bool} (d : Nat) (ho : xzo c) (ha : xzal c = true) (h8 : xgH (xzg c) ≤ 8) (hnw : nw < 2 ^ 30) (hg : xgd c m s k) (hr : xovr (xzg c) m = true ∨ xrch c t k m s) {S : xS} (hX : XC S) (hD : xRD S c 0) (hT : xTb S n t) (kn : S.2.1 73 3 = nI nw) (hM : xFM S nw M0) (hG : xfg c t M0) : ∃ b S' M', xcall false (d + 4) j_X2_followFrom [.ref 73, .int (nI m), .int (nI s), .ref 2, .int (nI n)] S (some (.int (nI b))) S' ∧ xFl (fun i q => (i = 74 ∧ q = 7) ∨ i = 79 ∨ i = 80 ∨ (82 ≤ i ∧ i ≤ 105) ∨ i = 130 ∨ i = 131) S S' ∧ xFM S' nw M' ∧ ((b = 0 ∧ M' = M0 ∧ (xovr (xzg c) m = true ∨ n ≤ k)) ∨ (xovr (xzg c) m = false ∧ k < n ∧ xrch c t k m s ∧ xffI c t m s k M0 M' b (xzw c k))) := by
  have hgg := ho.g
  have g24 := hgg.H
  have hN := ho.2.2.1
  have hk := hg.k
  have h260 := hT.1
  have gi := c_isOver (d + 2) hgg hg.1 hX hD.1
  have gb := c_hitsBefore (d + 2) ho h8 hg hX hD
  cases hov : xovr (xzg c) m with
  | true =>
    rw [hov] at gi
    refine ⟨0, S, M0, ?_, xFl.rf S, hM, Or.inl ⟨rfl, rfl, Or.inl rfl⟩⟩
    refine xcall_intro (ls := [.ref 73, .int (nI m), .int (nI s), .ref 2, .int (nI n), .float 0, .float 0, .float 0, .float 0, .float 0, .float 0]) q_X2_followFrom (by decide) rfl (Nat.le_of_ble_eq_true rfl) rfl ?_
    refine wp_aload_n dX2_followFrom_0 rfl rfl (wp_iload_n dX2_followFrom_1 rfl (wp_iv2 dX2_followFrom_2 k2_144 q_X2_hitsBefore (by decide) (xsh hX sh_73) (by decide) (Nat.le_of_ble_eq_true rfl) gb (wp_istore dX2_followFrom_5 ⟨Nat.le_of_ble_eq_true rfl, Or.inr rfl⟩ rfl (wp_aload_n dX2_followFrom_7 rfl rfl (g2_14 dX2_followFrom_8 (xsh hX sh_73) (xrr hX r73_0) (wp_iload_n dX2_followFrom_11 rfl (wp_iv2 dX2_followFrom_12 k2_50 q_X4_isOver (by decide) (xsh hX sh_74) (by decide) (Nat.le_of_ble_eq_true rfl) gi ?_)))))))
    refine wb_if_ne dX2_followFrom_15 rfl (fun c15 => ?_) (fun c15 => absurd c15 (by decide))
    exact wp_iconst (v := nI 0) dX2_followFrom_37 rfl (wp_ireturn dX2_followFrom_38 rfl rfl ⟨rfl, rfl⟩)
  | false =>
    rw [hov] at gi
    rcases Nat.lt_or_ge k n with w | w
    · have hr' : xrch c t k m s := by
        rcases hr with z | z
        · rw [hov] at z; cases z
        · exact z
      obtain ⟨S1, gr, f1, h80, h82⟩ := c_reckonZ (ex := 0) (m := m) (s := s) (k := k) (d + 0) ho ha (by decide) hg.1 hg.2.1 hg.2.2.1 (by omega) hX hD
      have X1 := f1.XC hX
      have I0 : xffI c t m s k M0 M0 0 0 := ⟨Or.inr ⟨rfl, fun e he => absurd he (Nat.not_lt_zero e)⟩, fun y h => h, fun y _ => rfl, hG, fun e he => absurd he (Nat.not_lt_zero e)⟩
      have lp := ff_loop (d := d) ho ha h8 hnw hg hov hr' w (xzw c k) 0 0 S1 M0 (.float 0) (.float 0) (Nat.zero_add _) X1 (hD.fr f1 (fun i q h => by omega) ho) (hT.fr f1 (fun q h => by omega)) (f1.i kn (by omega)) (hM.fr f1 (fun i q h => by omega)) h82 I0 (by decide)
      obtain ⟨r, S', g1, b, M', rfl, z1, z2, z3⟩ := xcall_some (al := false) (d := d + 4) (ls := [.ref 73, .int (nI m), .int (nI s), .ref 2, .int (nI n), .float 0, .float 0, .float 0, .float 0, .float 0, .float 0]) (S := S) (as := [.ref 73, .int (nI m), .int (nI s), .ref 2, .int (nI n)]) q_X2_followFrom (by decide) rfl (Nat.le_of_ble_eq_true rfl) rfl (P := (fun r S' => ∃ b' M', r = some (.int (nI b')) ∧ xFl (fun i q => i = 130 ∨ i = 131) S1 S' ∧ xFM S' nw M' ∧ xffI c t m s k M0 M' b' (xzw c k))) (by
          refine wp_aload_n dX2_followFrom_0 rfl rfl (wp_iload_n dX2_followFrom_1 rfl (wp_iv2 dX2_followFrom_2 k2_144 q_X2_hitsBefore (by decide) (xsh hX sh_73) (by decide) (Nat.le_of_ble_eq_true rfl) gb (wp_istore dX2_followFrom_5 ⟨Nat.le_of_ble_eq_true rfl, Or.inr rfl⟩ rfl (wp_aload_n dX2_followFrom_7 rfl rfl (g2_14 dX2_followFrom_8 (xsh hX sh_73) (xrr hX r73_0) (wp_iload_n dX2_followFrom_11 rfl (wp_iv2 dX2_followFrom_12 k2_50 q_X4_isOver (by decide) (xsh hX sh_74) (by decide) (Nat.le_of_ble_eq_true rfl) gi ?_)))))))
          refine wb_if_ne dX2_followFrom_15 rfl (fun c15 => absurd c15 (by decide)) (fun c15 => ?_)
          refine wp_iload dX2_followFrom_18 rfl ?_
          refine wn_if_lt dX2_followFrom_20 rfl (by omega) ?_
          refine wp_iload dX2_followFrom_23 rfl (wp_iload dX2_followFrom_25 rfl ?_)
          refine wn_icmp_ge dX2_followFrom_27 rfl (by omega) (by omega) (fun c27 => absurd c27 (by omega)) (fun c27 => ?_)
          refine wp_iload dX2_followFrom_30 rfl (wp_aload_n dX2_followFrom_32 rfl rfl (wp_alen (v := nI 260) dX2_followFrom_33 (xsh hX sh_2) ⟨by decide, by decide⟩ rfl ?_))
          refine wn_icmp_lt dX2_followFrom_34 rfl (by omega) (by omega) (fun c34 => ?_) (fun c34 => absurd c34 (by omega))
          exact wp_aload_n dX2_followFrom_39 rfl rfl (g2_14 dX2_followFrom_40 (xsh hX sh_73) (xrr hX r73_0) (wp_iload_n dX2_followFrom_43 rfl (wp_iload_n dX2_followFrom_44 rfl (wp_iload dX2_followFrom_45 rfl (wp_iv4 dX2_followFrom_47 k2_54 q_X4_reckon (by decide) (xsh hX sh_74) (by decide) (Nat.le_of_ble_eq_true rfl) gr (wp_istore dX2_followFrom_50 ⟨Nat.le_of_ble_eq_true rfl, Or.inr rfl⟩ rfl (wp_iconst (v := nI 0) dX2_followFrom_52 rfl (wp_istore dX2_followFrom_53 ⟨Nat.le_of_ble_eq_true rfl, Or.inr rfl⟩ rfl (wp_iconst (v := nI 0) dX2_followFrom_55 rfl (wp_istore dX2_followFrom_56 ⟨Nat.le_of_ble_eq_true rfl, Or.inr rfl⟩ rfl lp)))))))))))
      exact ⟨b, S', M', g1, (f1.mono (fun i q h => by omega)).tt (z1.mono (fun i q h => by omega)), z2, Or.inr ⟨rfl, w, hr', z3⟩⟩
    · refine ⟨0, S, M0, ?_, xFl.rf S, hM, Or.inl ⟨rfl, rfl, Or.inr w⟩⟩
      refine xcall_intro (ls := [.ref 73, .int (nI m), .int (nI s), .ref 2, .int (nI n), .float 0, .float 0, .float 0, .float 0, .float 0, .float 0]) q_X2_followFrom (by decide) rfl (Nat.le_of_ble_eq_true rfl) rfl ?_
      refine wp_aload_n dX2_followFrom_0 rfl rfl (wp_iload_n dX2_followFrom_1 rfl (wp_iv2 dX2_followFrom_2 k2_144 q_X2_hitsBefore (by decide) (xsh hX sh_73) (by decide) (Nat.le_of_ble_eq_true rfl) gb (wp_istore dX2_followFrom_5 ⟨Nat.le_of_ble_eq_true rfl, Or.inr rfl⟩ rfl (wp_aload_n dX2_followFrom_7 rfl rfl (g2_14 dX2_followFrom_8 (xsh hX sh_73) (xrr hX r73_0) (wp_iload_n dX2_followFrom_11 rfl (wp_iv2 dX2_followFrom_12 k2_50 q_X4_isOver (by decide) (xsh hX sh_74) (by decide) (Nat.le_of_ble_eq_true rfl) gi ?_)))))))
      refine wb_if_ne dX2_followFrom_15 rfl (fun c15 => absurd c15 (by decide)) (fun c15 => ?_)
      refine wp_iload dX2_followFrom_18 rfl ?_
      refine wn_if_lt dX2_followFrom_20 rfl (by omega) ?_
      refine wp_iload dX2_followFrom_23 rfl (wp_iload dX2_followFrom_25 rfl ?_)
      refine wn_icmp_ge dX2_followFrom_27 rfl (by omega) (by omega) (fun c27 => ?_) (fun c27 => absurd c27 (by omega))
      exact wp_iconst (v := nI 0) dX2_followFrom_37 rfl (wp_ireturn dX2_followFrom_38 rfl rfl ⟨rfl, rfl⟩)
