/-! play of the reference, the call -/
theorem xby_lt0 : ∀ c, c < 256 → 128 ≤ c → xby c < 0 := by decide +kernel
theorem xovr_fl {g : xRg} (hg : xgo g) : xovr g (2 ^ xgH g - 1) = (!xgs g && decide (xgP g ≤ xgl g)) := by
  unfold xovr
  rw [xpm_fl, xcb_up (n := xgP g) (by have := Nat.two_pow_pos (xgP g); omega) 12 hg.2.1, xcb_fl]
/-- the tape's bytes as the reference has them -/
def xTr (S : xS) (n : Nat) (t : Nat → Nat) : Prop := n ≤ 260 ∧ ∀ k, k < n → t k < 256 ∧ S.2.1 188 k = xby (t k)
theorem xTr.fr {S S' : xS} {n : Nat} {t : Nat → Nat} {P : Nat → Nat → Prop} (h : xTr S n t) (hf : xFl P S S') (hn : ∀ k, ¬ P 188 k) : xTr S' n t := ⟨h.1, fun k hk => ⟨(h.2 k hk).1, hf.i (h.2 k hk).2 (hn k)⟩⟩
theorem xTr.n {S : xS} {n b : Nat} {t : Nat → Nat} (h : xTr S n t) (hb : b ≤ 128) (h3 : S.2.1 187 3 = nI n) (ha : ∀ k, k < n → t k < b) : xTn S n t b := ⟨h.1, h3, fun q hq => ⟨ha q hq, by rw [(h.2 q hq).2, xby_lo _ (by have := ha q hq; omega)]⟩⟩
theorem mt_ok {n b d : Nat} {t : Nat → Nat} {x2 x3 x4 x5 x6 x7 : Value} (hb : b ≤ 128) {S : xS} (hX : XC S) (hT : xTn S n t b) (k31 : S.2.1 187 31 = nI b) {Q : Option Value → xS → Prop} (K : Wp false (d + 3) 11 cX12_play (some .int) false 58 [.ref 187, .int (nI n), x2, x3, x4, x5, x6, x7] [] S Q) : ∀ (j i : Nat), i + j = n → Wp false (d + 3) 11 cX12_play (some .int) false 20 [.ref 187, .int (nI i), x2, x3, x4, x5, x6, x7] [] S Q := by
  obtain ⟨h260, k3, h⟩ := hT
  intro j
  induction j with
  | zero =>
    intro i hi
    have hii : i = n := by omega
    subst hii
    refine wp_iload_n dX12_play_20 rfl (wp_aload_n dX12_play_21 rfl rfl (gv11_18 dX12_play_22 (xsh hX sh_187) k3 ?_))
    refine wn_icmp_ge dX12_play_25 rfl (by omega) (by omega) (fun c25 => ?_) (fun c25 => absurd c25 (by omega))
    exact K
  | succ j ih =>
    intro i hi
    have nx := ih (i + 1) (by omega)
    obtain ⟨h1, h2⟩ := h i (by omega)
    refine wp_iload_n dX12_play_20 rfl (wp_aload_n dX12_play_21 rfl rfl (gv11_18 dX12_play_22 (xsh hX sh_187) k3 ?_))
    refine wn_icmp_ge dX12_play_25 rfl (by omega) (by omega) (fun c25 => absurd c25 (by omega)) (fun c25 => ?_)
    refine wp_aload_n dX12_play_28 rfl rfl (g11_14 dX12_play_29 (xsh hX sh_187) (xrr hX r187_1) (wp_iload_n dX12_play_32 rfl (wn_baload dX12_play_33 (xsh hX sh_188) (Or.inl rfl) (by omega) (by decide) h2 ?_)))
    refine wn_if_lt dX12_play_34 rfl (by omega) ?_
    refine wp_aload_n dX12_play_37 rfl rfl (g11_14 dX12_play_38 (xsh hX sh_187) (xrr hX r187_1) (wp_iload_n dX12_play_41 rfl (wn_baload dX12_play_42 (xsh hX sh_188) (Or.inl rfl) (by omega) (by decide) h2 (wp_aload_n dX12_play_43 rfl rfl (gv11_189 dX12_play_44 (xsh hX sh_187) k31 ?_)))))
    refine wn_icmp_lt dX12_play_47 rfl (by omega) (by omega) (fun c47 => ?_) (fun c47 => absurd c47 (by omega))
    exact wp_iinc dX12_play_52 rfl (nI_1 _) ⟨Nat.le_of_ble_eq_true rfl, Or.inr rfl⟩ rfl (wp_goto dX12_play_55 rfl nx)
theorem mt_no {n b d : Nat} {t : Nat → Nat} {x2 x3 x4 x5 x6 x7 : Value} (hb : b ≤ 128) {S : xS} (hX : XC S) (hT : xTr S n t) (k3 : S.2.1 187 3 = nI n) (k31 : S.2.1 187 31 = nI b) : ∀ (j i : Nat), i + j = n → (¬ ∀ k, i ≤ k → k < n → t k < b) → Wp false (d + 3) 11 cX12_play (some .int) false 20 [.ref 187, .int (nI i), x2, x3, x4, x5, x6, x7] [] S (fun r S' => r = some (.int (-1)) ∧ S' = S) := by
  obtain ⟨h260, h⟩ := hT
  intro j
  induction j with
  | zero =>
    intro i hi hn
    exact absurd (fun k h1 h2 => absurd h2 (by omega)) hn
  | succ j ih =>
    intro i hi hn
    obtain ⟨h1, h2⟩ := h i (by omega)
    rcases Nat.lt_or_ge (t i) b with w | w
    · have nx := ih (i + 1) (by omega) (fun q => hn (fun k h1 h2 => by
        rcases Nat.eq_or_lt_of_le h1 with e | e
        · rw [← e]; exact w
        · exact q k e h2))
      rw [xby_lo _ (by omega)] at h2
      refine wp_iload_n dX12_play_20 rfl (wp_aload_n dX12_play_21 rfl rfl (gv11_18 dX12_play_22 (xsh hX sh_187) k3 ?_))
      refine wn_icmp_ge dX12_play_25 rfl (by omega) (by omega) (fun c25 => absurd c25 (by omega)) (fun c25 => ?_)
      refine wp_aload_n dX12_play_28 rfl rfl (g11_14 dX12_play_29 (xsh hX sh_187) (xrr hX r187_1) (wp_iload_n dX12_play_32 rfl (wn_baload dX12_play_33 (xsh hX sh_188) (Or.inl rfl) (by omega) (by decide) h2 ?_)))
      refine wn_if_lt dX12_play_34 rfl (by omega) ?_
      refine wp_aload_n dX12_play_37 rfl rfl (g11_14 dX12_play_38 (xsh hX sh_187) (xrr hX r187_1) (wp_iload_n dX12_play_41 rfl (wn_baload dX12_play_42 (xsh hX sh_188) (Or.inl rfl) (by omega) (by decide) h2 (wp_aload_n dX12_play_43 rfl rfl (gv11_189 dX12_play_44 (xsh hX sh_187) k31 ?_)))))
      refine wn_icmp_lt dX12_play_47 rfl (by omega) (by omega) (fun c47 => ?_) (fun c47 => absurd c47 (by omega))
      exact wp_iinc dX12_play_52 rfl (nI_1 _) ⟨Nat.le_of_ble_eq_true rfl, Or.inr rfl⟩ rfl (wp_goto dX12_play_55 rfl nx)
    · rcases Nat.lt_or_ge (t i) 128 with w2 | w2
      · rw [xby_lo _ w2] at h2
        refine wp_iload_n dX12_play_20 rfl (wp_aload_n dX12_play_21 rfl rfl (gv11_18 dX12_play_22 (xsh hX sh_187) k3 ?_))
        refine wn_icmp_ge dX12_play_25 rfl (by omega) (by omega) (fun c25 => absurd c25 (by omega)) (fun c25 => ?_)
        refine wp_aload_n dX12_play_28 rfl rfl (g11_14 dX12_play_29 (xsh hX sh_187) (xrr hX r187_1) (wp_iload_n dX12_play_32 rfl (wn_baload dX12_play_33 (xsh hX sh_188) (Or.inl rfl) (by omega) (by decide) h2 ?_)))
        refine wn_if_lt dX12_play_34 rfl (by omega) ?_
        refine wp_aload_n dX12_play_37 rfl rfl (g11_14 dX12_play_38 (xsh hX sh_187) (xrr hX r187_1) (wp_iload_n dX12_play_41 rfl (wn_baload dX12_play_42 (xsh hX sh_188) (Or.inl rfl) (by omega) (by decide) h2 (wp_aload_n dX12_play_43 rfl rfl (gv11_189 dX12_play_44 (xsh hX sh_187) k31 ?_)))))
        refine wn_icmp_lt dX12_play_47 rfl (by omega) (by omega) (fun c47 => absurd c47 (by omega)) (fun c47 => ?_)
        exact wp_iconst (v := -1) dX12_play_50 rfl (wp_ireturn dX12_play_51 rfl rfl ⟨rfl, rfl⟩)
      · have hneg := xby_lt0 _ h1 w2
        refine wp_iload_n dX12_play_20 rfl (wp_aload_n dX12_play_21 rfl rfl (gv11_18 dX12_play_22 (xsh hX sh_187) k3 ?_))
        refine wn_icmp_ge dX12_play_25 rfl (by omega) (by omega) (fun c25 => absurd c25 (by omega)) (fun c25 => ?_)
        refine wp_aload_n dX12_play_28 rfl rfl (g11_14 dX12_play_29 (xsh hX sh_187) (xrr hX r187_1) (wp_iload_n dX12_play_32 rfl (wn_baload dX12_play_33 (xsh hX sh_188) (Or.inl rfl) (by omega) (by decide) h2 ?_)))
        refine wp_if_lt dX12_play_34 rfl (fun c34 => ?_) (fun c34 => absurd c34 (not_not_intro hneg))
        exact wp_iconst (v := -1) dX12_play_50 rfl (wp_ireturn dX12_play_51 rfl rfl ⟨rfl, rfl⟩)
theorem m_isOverAtFirst {c : xPx} (d : Nat) (ho : xzo c) {S : xS} (hX : XC S) (l2 : S.2.1 208 2 = nI (c.1.1 2)) (l5 : S.2.1 208 5 = nI (c.1.1 5)) (k30 : S.2.1 187 30 = nI c.2.2.1.length) : xcall false d j_X12_isOverAtFirst [.ref 187] S (some (.int (xB (xovr (xzg c) (2 ^ xgH (xzg c) - 1))))) S := by
  have b2 : c.1.1 2 ≤ 1 := ho.1.1 2 (by decide)
  have b5 : c.1.1 5 < 2 ^ 30 := ho.g.2.2.2
  have hP : c.2.2.1.length ≤ 12 := ho.2.1.2.1
  rw [xovr_fl ho.g]
  show xcall _ _ _ _ _ (some (.int (xB (!(decide (c.1.1 2 = 1)) && decide (c.2.2.1.length ≤ c.1.1 5))))) _
  rcases Decidable.em (c.1.1 2 = 1) with w | w
  · rw [decide_eq_true w]
    refine xcall_intro (ls := [.ref 187]) q_X12_isOverAtFirst (by decide) rfl (Nat.le_of_ble_eq_true rfl) rfl ?_
    refine wp_aload_n dX12_isOverAtFirst_0 rfl rfl (g11_272 dX12_isOverAtFirst_1 (xsh hX sh_187) (xrr hX r187_45) (wp_iconst (v := nI 2) dX12_isOverAtFirst_4 rfl (wn_iaload dX12_isOverAtFirst_5 (xsh hX sh_208) rfl (by omega) (by decide) l2 ?_)))
    refine wn_if_ne dX12_isOverAtFirst_6 rfl (by omega) (fun c6 => ?_) (fun c6 => absurd c6 (by omega))
    exact wp_iconst (v := nI 0) dX12_isOverAtFirst_26 rfl (wb_ret dX12_isOverAtFirst_27 rfl rfl ⟨rfl, rfl⟩)
  · rw [decide_eq_false w]
    rcases Nat.lt_or_ge (c.1.1 5) c.2.2.1.length with q | q
    · rw [decide_eq_false (by omega)]
      refine xcall_intro (ls := [.ref 187]) q_X12_isOverAtFirst (by decide) rfl (Nat.le_of_ble_eq_true rfl) rfl ?_
      refine wp_aload_n dX12_isOverAtFirst_0 rfl rfl (g11_272 dX12_isOverAtFirst_1 (xsh hX sh_187) (xrr hX r187_45) (wp_iconst (v := nI 2) dX12_isOverAtFirst_4 rfl (wn_iaload dX12_isOverAtFirst_5 (xsh hX sh_208) rfl (by omega) (by decide) l2 ?_)))
      refine wn_if_ne dX12_isOverAtFirst_6 rfl (by omega) (fun c6 => absurd c6 (by omega)) (fun c6 => ?_)
      refine wp_aload_n dX12_isOverAtFirst_9 rfl rfl (gv11_183 dX12_isOverAtFirst_10 (xsh hX sh_187) k30 (wp_aload_n dX12_isOverAtFirst_13 rfl rfl (g11_272 dX12_isOverAtFirst_14 (xsh hX sh_187) (xrr hX r187_45) (wp_iconst (v := nI 5) dX12_isOverAtFirst_17 rfl (wn_iaload dX12_isOverAtFirst_18 (xsh hX sh_208) rfl (by omega) (by decide) l5 ?_)))))
      refine wn_icmp_gt dX12_isOverAtFirst_19 rfl (by omega) (by omega) (fun c19 => ?_) (fun c19 => absurd c19 (by omega))
      exact wp_iconst (v := nI 0) dX12_isOverAtFirst_26 rfl (wb_ret dX12_isOverAtFirst_27 rfl rfl ⟨rfl, rfl⟩)
    · rw [decide_eq_true q]
      refine xcall_intro (ls := [.ref 187]) q_X12_isOverAtFirst (by decide) rfl (Nat.le_of_ble_eq_true rfl) rfl ?_
      refine wp_aload_n dX12_isOverAtFirst_0 rfl rfl (g11_272 dX12_isOverAtFirst_1 (xsh hX sh_187) (xrr hX r187_45) (wp_iconst (v := nI 2) dX12_isOverAtFirst_4 rfl (wn_iaload dX12_isOverAtFirst_5 (xsh hX sh_208) rfl (by omega) (by decide) l2 ?_)))
      refine wn_if_ne dX12_isOverAtFirst_6 rfl (by omega) (fun c6 => absurd c6 (by omega)) (fun c6 => ?_)
      refine wp_aload_n dX12_isOverAtFirst_9 rfl rfl (gv11_183 dX12_isOverAtFirst_10 (xsh hX sh_187) k30 (wp_aload_n dX12_isOverAtFirst_13 rfl rfl (g11_272 dX12_isOverAtFirst_14 (xsh hX sh_187) (xrr hX r187_45) (wp_iconst (v := nI 5) dX12_isOverAtFirst_17 rfl (wn_iaload dX12_isOverAtFirst_18 (xsh hX sh_208) rfl (by omega) (by decide) l5 ?_)))))
      refine wn_icmp_gt dX12_isOverAtFirst_19 rfl (by omega) (by omega) (fun c19 => absurd c19 (by omega)) (fun c19 => ?_)
      exact wp_iconst (v := nI 1) dX12_isOverAtFirst_22 rfl (wp_goto dX12_isOverAtFirst_23 rfl (wb_ret dX12_isOverAtFirst_27 rfl rfl ⟨rfl, rfl⟩))
theorem m_play_no1 {v : xYd} {tv : xTg} {l l2 : List (List Nat)} {σ : xSv} {n : Nat} {t : Nat → Nat} (d : Nat) (ho : xzo (v, tv, l, l2, σ)) {S : xS} (hX : XC S) (hM : xMl S σ) (hT : xTgM S tv) (hY : xYdM S v) (hW : xWMo S l) (hA : xWM 1844 197 S l2) (ka : S.2.1 187 31 = nI l2.length) (hn : S.2.1 187 2 = nI n) (hB : xTr S n t) (hal : xzal (v, tv, l, l2, σ) = false) : ∃ S', xcall false (d + 6) j_X12_play [.ref 187] S (some (.int (-1))) S' ∧ xFl (fun i k => (i = 187 ∧ (k = 0 ∨ k = 2 ∨ k = 3 ∨ k = 4 ∨ k = 58 ∨ k = 59 ∨ k = 60)) ∨ i = 212 ∨ i = 213 ∨ i = 214 ∨ i = 215 ∨ i = 217 ∨ i = 218) S S' ∧ S'.2.1 187 2 = nI 0 := by
  have F0 : xFl (fun i k => i = 187 ∧ (k = 0 ∨ k = 2 ∨ k = 3 ∨ k = 4)) S (xSI (xSI (xSI (xSI S 187 0 (nI 0)) 187 3 (nI n)) 187 2 (nI 0)) 187 4 (nI 0)) := ((((xFl.rf S).SI ⟨rfl, by decide⟩).SI ⟨rfl, by decide⟩).SI ⟨rfl, by decide⟩).SI ⟨rfl, by decide⟩
  have X0 := F0.XC hX
  have gt := m_taken (S := xSI S 187 0 (nI 0)) (d + 5) (((xFl.rf S).SI (P := fun i k => i = 187 ∧ k = 0) ⟨rfl, rfl⟩).XC hX) (xi hn (Or.inr (by decide)))
  have k3 : (xSI (xSI (xSI (xSI S 187 0 (nI 0)) 187 3 (nI n)) 187 2 (nI 0)) 187 4 (nI 0)).2.1 187 3 = nI n := xi (xi (xI_same _ _ _ _) (Or.inr (by decide))) (Or.inr (by decide))
  have k2 : (xSI (xSI (xSI (xSI S 187 0 (nI 0)) 187 3 (nI n)) 187 2 (nI 0)) 187 4 (nI 0)).2.1 187 2 = nI 0 := xi (xI_same _ _ _ _) (Or.inr (by decide))
  have B0 := hB.fr F0 (fun k h => by omega)
  have hl5 : l2.length ≤ 5 := ho.2.2.1.2.1
  obtain ⟨S1, g1, f1, z1⟩ := m_prepareYard d ho X0 (hM.fr F0 (fun i k h => by omega)) (hT.fr F0 (fun q h => by omega) (fun a q h => by omega)) (hY.fr F0 (fun i q h => by omega)) (hW.fr F0 (fun i k h => by omega)) (fun q hq => ⟨F0.i (hA q hq).1 (by omega), fun k hk => F0.i ((hA q hq).2 k hk) (by omega)⟩) (F0.i ka (by omega))
  have X1 := f1.XC X0
  rw [hal] at g1
  refine ⟨S1, ?_, (F0.mono (fun i k h => by omega)).tt (f1.mono (fun i k h => by omega)), f1.i k2 (by omega)⟩
  refine xcall_intro (ls := [.ref 187, .float 0, .float 0, .float 0, .float 0, .float 0, .float 0, .float 0]) q_X12_play (by decide) rfl (Nat.le_of_ble_eq_true rfl) rfl ?_
  refine wp_aload_n dX12_play_0 rfl rfl (wp_iconst (v := nI 0) dX12_play_1 rfl (p11_1 dX12_play_2 (xsh hX sh_187) (wp_aload_n dX12_play_5 rfl rfl (wp_iv1 dX12_play_6 k11_69 q_X12_taken (by decide) (xsh hX sh_187) (by decide) (Nat.le_of_ble_eq_true rfl) gt (wp_aload_n dX12_play_9 rfl rfl (wp_iv1 dX12_play_10 k11_452 q_X12_prepareYard (by decide) (xsh X0 sh_187) (by decide) (Nat.le_of_ble_eq_true rfl) g1 ?_))))))
  refine wb_if_ne dX12_play_13 rfl (fun c13 => absurd c13 (by decide)) (fun c13 => ?_)
  exact wp_iconst (v := -1) dX12_play_16 rfl (wp_ireturn dX12_play_17 rfl rfl ⟨rfl, rfl⟩)
theorem m_play_no2 {v : xYd} {tv : xTg} {l l2 : List (List Nat)} {σ : xSv} {n : Nat} {t : Nat → Nat} (d : Nat) (ho : xzo (v, tv, l, l2, σ)) {S : xS} (hX : XC S) (hM : xMl S σ) (hT : xTgM S tv) (hY : xYdM S v) (hW : xWMo S l) (hA : xWM 1844 197 S l2) (ka : S.2.1 187 31 = nI l2.length) (hn : S.2.1 187 2 = nI n) (hB : xTr S n t) (hal : xzal (v, tv, l, l2, σ) = true) (hno : ¬ ∀ k, k < n → t k < l2.length) : ∃ S', xcall false (d + 6) j_X12_play [.ref 187] S (some (.int (-1))) S' ∧ xFl (fun i k => (i = 187 ∧ (k = 0 ∨ k = 2 ∨ k = 3 ∨ k = 4 ∨ k = 58 ∨ k = 59 ∨ k = 60)) ∨ i = 212 ∨ i = 213 ∨ i = 214 ∨ i = 215 ∨ i = 217 ∨ i = 218) S S' ∧ S'.2.1 187 2 = nI 0 := by
  have F0 : xFl (fun i k => i = 187 ∧ (k = 0 ∨ k = 2 ∨ k = 3 ∨ k = 4)) S (xSI (xSI (xSI (xSI S 187 0 (nI 0)) 187 3 (nI n)) 187 2 (nI 0)) 187 4 (nI 0)) := ((((xFl.rf S).SI ⟨rfl, by decide⟩).SI ⟨rfl, by decide⟩).SI ⟨rfl, by decide⟩).SI ⟨rfl, by decide⟩
  have X0 := F0.XC hX
  have gt := m_taken (S := xSI S 187 0 (nI 0)) (d + 5) (((xFl.rf S).SI (P := fun i k => i = 187 ∧ k = 0) ⟨rfl, rfl⟩).XC hX) (xi hn (Or.inr (by decide)))
  have k3 : (xSI (xSI (xSI (xSI S 187 0 (nI 0)) 187 3 (nI n)) 187 2 (nI 0)) 187 4 (nI 0)).2.1 187 3 = nI n := xi (xi (xI_same _ _ _ _) (Or.inr (by decide))) (Or.inr (by decide))
  have k2 : (xSI (xSI (xSI (xSI S 187 0 (nI 0)) 187 3 (nI n)) 187 2 (nI 0)) 187 4 (nI 0)).2.1 187 2 = nI 0 := xi (xI_same _ _ _ _) (Or.inr (by decide))
  have B0 := hB.fr F0 (fun k h => by omega)
  have hl5 : l2.length ≤ 5 := ho.2.2.1.2.1
  obtain ⟨S1, g1, f1, z1⟩ := m_prepareYard d ho X0 (hM.fr F0 (fun i k h => by omega)) (hT.fr F0 (fun q h => by omega) (fun a q h => by omega)) (hY.fr F0 (fun i q h => by omega)) (hW.fr F0 (fun i k h => by omega)) (fun q hq => ⟨F0.i (hA q hq).1 (by omega), fun k hk => F0.i ((hA q hq).2 k hk) (by omega)⟩) (F0.i ka (by omega))
  have X1 := f1.XC X0
  rw [hal] at g1
  refine ⟨S1, ?_, (F0.mono (fun i k h => by omega)).tt (f1.mono (fun i k h => by omega)), f1.i k2 (by omega)⟩
  have lp := mt_no (d := d + 3) (x2 := .float 0) (x3 := .float 0) (x4 := .float 0) (x5 := .float 0) (x6 := .float 0) (x7 := .float 0) (b := l2.length) (by omega) X1 (B0.fr f1 (fun k h => by omega)) (f1.i k3 (by omega)) (f1.i (F0.i ka (by omega)) (by omega)) n 0 (Nat.zero_add _) (fun q => hno (fun k hk => q k (Nat.zero_le _) hk))
  refine xcall_intro (ls := [.ref 187, .float 0, .float 0, .float 0, .float 0, .float 0, .float 0, .float 0]) q_X12_play (by decide) rfl (Nat.le_of_ble_eq_true rfl) rfl ?_
  refine wp_aload_n dX12_play_0 rfl rfl (wp_iconst (v := nI 0) dX12_play_1 rfl (p11_1 dX12_play_2 (xsh hX sh_187) (wp_aload_n dX12_play_5 rfl rfl (wp_iv1 dX12_play_6 k11_69 q_X12_taken (by decide) (xsh hX sh_187) (by decide) (Nat.le_of_ble_eq_true rfl) gt (wp_aload_n dX12_play_9 rfl rfl (wp_iv1 dX12_play_10 k11_452 q_X12_prepareYard (by decide) (xsh X0 sh_187) (by decide) (Nat.le_of_ble_eq_true rfl) g1 ?_))))))
  refine wb_if_ne dX12_play_13 rfl (fun c13 => ?_) (fun c13 => absurd c13 (by decide))
  exact wp_iconst (v := nI 0) dX12_play_18 rfl (wp_istore_n dX12_play_19 ⟨Nat.le_of_ble_eq_true rfl, Or.inr rfl⟩ rfl lp)
theorem m_play {v : xYd} {tv : xTg} {l l2 : List (List Nat)} {σ : xSv} {n : Nat} {t : Nat → Nat} (d : Nat) (ho : xzo (v, tv, l, l2, σ)) {S : xS} (hX : XC S) (hM : xMl S σ) (hT : xTgM S tv) (hY : xYdM S v) (hW : xWMo S l) (hA : xWM 1844 197 S l2) (ka : S.2.1 187 31 = nI l2.length) (hn : S.2.1 187 2 = nI n) (hB : xTr S n t) (hal : xzal (v, tv, l, l2, σ) = true) (hyes : ∀ k, k < n → t k < l2.length) : ∃ S', xcall false (d + 6) j_X12_play [.ref 187] S (some (.int (nI (xwk (v, tv, l, l2, σ) t n 24 (2 ^ xgH (xgOf l.length v) - 1) 0 0 0).2))) S' ∧ xFl (fun i k => (i = 187 ∧ (k = 0 ∨ k = 2 ∨ k = 3 ∨ k = 4 ∨ (58 ≤ k ∧ k ≤ 70) ∨ k = 72)) ∨ (212 ≤ i ∧ i ≤ 219)) S S' ∧ S'.2.1 187 2 = nI 0 ∧ S'.2.1 187 72 = nI (xwk (v, tv, l, l2, σ) t n 24 (2 ^ xgH (xgOf l.length v) - 1) 0 0 0).1.length ∧ ∀ q, q < (xwk (v, tv, l, l2, σ) t n 24 (2 ^ xgH (xgOf l.length v) - 1) 0 0 0).1.length → S'.2.1 219 q = nI ((xwk (v, tv, l, l2, σ) t n 24 (2 ^ xgH (xgOf l.length v) - 1) 0 0 0).1.getD q 0) := by
  have F0 : xFl (fun i k => i = 187 ∧ (k = 0 ∨ k = 2 ∨ k = 3 ∨ k = 4)) S (xSI (xSI (xSI (xSI S 187 0 (nI 0)) 187 3 (nI n)) 187 2 (nI 0)) 187 4 (nI 0)) := ((((xFl.rf S).SI ⟨rfl, by decide⟩).SI ⟨rfl, by decide⟩).SI ⟨rfl, by decide⟩).SI ⟨rfl, by decide⟩
  have X0 := F0.XC hX
  have gt := m_taken (S := xSI S 187 0 (nI 0)) (d + 5) (((xFl.rf S).SI (P := fun i k => i = 187 ∧ k = 0) ⟨rfl, rfl⟩).XC hX) (xi hn (Or.inr (by decide)))
  have k3 : (xSI (xSI (xSI (xSI S 187 0 (nI 0)) 187 3 (nI n)) 187 2 (nI 0)) 187 4 (nI 0)).2.1 187 3 = nI n := xi (xi (xI_same _ _ _ _) (Or.inr (by decide))) (Or.inr (by decide))
  have k2 : (xSI (xSI (xSI (xSI S 187 0 (nI 0)) 187 3 (nI n)) 187 2 (nI 0)) 187 4 (nI 0)).2.1 187 2 = nI 0 := xi (xI_same _ _ _ _) (Or.inr (by decide))
  have B0 := hB.fr F0 (fun k h => by omega)
  have hl5 : l2.length ≤ 5 := ho.2.2.1.2.1
  obtain ⟨S1, g1, f1, z1⟩ := m_prepareYard d ho X0 (hM.fr F0 (fun i k h => by omega)) (hT.fr F0 (fun q h => by omega) (fun a q h => by omega)) (hY.fr F0 (fun i q h => by omega)) (hW.fr F0 (fun i k h => by omega)) (fun q hq => ⟨F0.i (hA q hq).1 (by omega), fun k hk => F0.i ((hA q hq).2 k hk) (by omega)⟩) (F0.i ka (by omega))
  have X1 := f1.XC X0
  rw [hal] at g1
  have D1 := z1 hal
  have hg := ho.g
  have hH := hg.H
  have hP : l.length ≤ 12 := ho.2.1.2.1
  have hpos := Nat.two_pow_pos (xgH (xgOf l.length v))
  have hposP := Nat.two_pow_pos l.length
  have hH1 : 1 ≤ xgH (xgOf l.length v) := hH.1
  have hH24 : xgH (xgOf l.length v) ≤ 24 := hH.2.1
  have h1lt : 1 < 2 ^ xgH (xgOf l.length v) := Nat.one_lt_two_pow (by omega)
  have T1 : xTn S1 n t l2.length := (B0.fr f1 (fun k h => by omega)).n (by omega) (f1.i k3 (by omega)) hyes
  have F2 : xFl (fun i k => i = 187 ∧ k = 72) S1 (xSI S1 187 72 (nI 0)) := (xFl.rf S1).SI ⟨rfl, rfl⟩
  have X2 := F2.XC X1
  have D2 := D1.fr ho F2 (fun i q h => by omega)
  have T2 := T1.fr F2 (fun i q h => by omega)
  have go := m_isOverAtFirst (d + 5) ho X2 (D2.2.2.2.2.2.2.2.1.1 2 (by decide)) (D2.2.2.2.2.2.2.2.1.1 5 (by decide)) D2.2.2.2.2.2.2.2.2.1
  have k30 : S1.2.1 187 30 = nI l.length := D1.2.2.2.2.2.2.2.2.1
  have k60 : S1.2.1 187 60 = nI (xgH (xgOf l.length v)) := D1.1
  have FA : xFl (fun i k => (i = 187 ∧ (k = 0 ∨ k = 2 ∨ k = 3 ∨ k = 4 ∨ (58 ≤ k ∧ k ≤ 70) ∨ k = 72)) ∨ (212 ≤ i ∧ i ≤ 219)) S (xSI S1 187 72 (nI 0)) := ((F0.mono (fun i k h => by omega)).tt (f1.mono (fun i k h => by omega))).tt (F2.mono (fun i k h => by omega))
  have k2' : (xSI S1 187 72 (nI 0)).2.1 187 2 = nI 0 := F2.i (f1.i k2 (by omega)) (by omega)
  cases hov : xovr (xzg (v, tv, l, l2, σ)) (2 ^ xgH (xzg (v, tv, l, l2, σ)) - 1) with
  | true =>
    rw [hov] at go
    have ew : (xwk (v, tv, l, l2, σ) t n 24 (2 ^ xgH (xgOf l.length v) - 1) 0 0 0) = ([], 2 ^ l.length - 1) := by
      rw [xwk]
      exact (if_pos hov).trans (congrArg (Prod.mk []) (xpm_fl _))
    rw [ew]
    refine ⟨xSI S1 187 72 (nI 0), ?_, FA, k2', xI_same _ _ _ _, fun q hq => absurd hq (Nat.not_lt_zero q)⟩
    have K : Wp false (d + 6) 11 cX12_play (some .int) false 58 [.ref 187, .int (nI n), .float 0, .float 0, .float 0, .float 0, .float 0, .float 0] [] S1 (fun r S' => r = some (.int (nI (2 ^ l.length - 1))) ∧ S' = xSI S1 187 72 (nI 0)) := by
      refine wp_aload_n dX12_play_58 rfl rfl (wp_iconst (v := nI 0) dX12_play_59 rfl (p11_455 dX12_play_60 (xsh X1 sh_187) (wp_iconst (v := nI 1) dX12_play_63 rfl (wp_aload_n dX12_play_64 rfl rfl (gv11_183 dX12_play_65 (xsh X1 sh_187) (xi k30 (Or.inr (by decide))) (wv_ishl dX12_play_68 (xshl1 (by omega)) (wp_iconst (v := nI 1) dX12_play_69 rfl (wv_isub dX12_play_70 (pk_sub (by omega)) (wp_istore_n dX12_play_71 ⟨Nat.le_of_ble_eq_true rfl, Or.inr rfl⟩ rfl (wp_aload_n dX12_play_72 rfl rfl (wp_iv1 dX12_play_73 k11_458 q_X12_isOverAtFirst (by decide) (xsh X1 sh_187) (by decide) (Nat.le_of_ble_eq_true rfl) go ?_)))))))))))
      refine wb_if_eq dX12_play_76 rfl (fun c76 => absurd c76 (by decide)) (fun c76 => ?_)
      exact wp_iload_n dX12_play_79 rfl (wp_ireturn dX12_play_80 rfl rfl ⟨rfl, rfl⟩)
    have lp := mt_ok (d := d + 3) (by omega) X1 T1 (f1.i (F0.i ka (by omega)) (by omega)) K n 0 (Nat.zero_add _)
    refine xcall_intro (ls := [.ref 187, .float 0, .float 0, .float 0, .float 0, .float 0, .float 0, .float 0]) q_X12_play (by decide) rfl (Nat.le_of_ble_eq_true rfl) rfl ?_
    refine wp_aload_n dX12_play_0 rfl rfl (wp_iconst (v := nI 0) dX12_play_1 rfl (p11_1 dX12_play_2 (xsh hX sh_187) (wp_aload_n dX12_play_5 rfl rfl (wp_iv1 dX12_play_6 k11_69 q_X12_taken (by decide) (xsh hX sh_187) (by decide) (Nat.le_of_ble_eq_true rfl) gt (wp_aload_n dX12_play_9 rfl rfl (wp_iv1 dX12_play_10 k11_452 q_X12_prepareYard (by decide) (xsh X0 sh_187) (by decide) (Nat.le_of_ble_eq_true rfl) g1 ?_))))))
    refine wb_if_ne dX12_play_13 rfl (fun c13 => ?_) (fun c13 => absurd c13 (by decide))
    exact wp_iconst (v := nI 0) dX12_play_18 rfl (wp_istore_n dX12_play_19 ⟨Nat.le_of_ble_eq_true rfl, Or.inr rfl⟩ rfl lp)
  | false =>
    rw [hov] at go
    have lp2 := mp_loop (d := d + 3) (y1 := nI (2 ^ l.length - 1)) ho hal 24 0 (2 ^ xgH (xgOf l.length v) - 1) 0 0 _ (.float 0) rfl (Nat.sub_lt hpos (by decide)) (show 0 < 2 ^ xgH (xgOf l.length v) - 1 by omega) hH1 (xcb_fl _) hov (Nat.le_refl _) X2 D2 T2 (xI_same _ _ _ _)
    have ewy : xwy (xbk (xzg (v, tv, l, l2, σ)) 0) = nI 1 := by
      unfold xbk
      rw [decide_eq_false (by decide), Bool.and_false]
      rfl
    rw [ewy, Nat.zero_mod] at lp2
    have K : Wp false (d + 6) 11 cX12_play (some .int) false 58 [.ref 187, .int (nI n), .float 0, .float 0, .float 0, .float 0, .float 0, .float 0] [] S1 (fun r S' => r = some (.int (nI (xwk (v, tv, l, l2, σ) t n 24 (2 ^ xgH (xgOf l.length v) - 1) 0 0 0).2)) ∧ xFl (fun i q => (i = 187 ∧ ((61 ≤ q ∧ q ≤ 70) ∨ q = 72)) ∨ i = 216 ∨ (i = 219 ∧ 0 ≤ q)) (xSI S1 187 72 (nI 0)) S' ∧ S'.2.1 187 72 = nI (0 + (xwk (v, tv, l, l2, σ) t n 24 (2 ^ xgH (xgOf l.length v) - 1) 0 0 0).1.length) ∧ ∀ q, q < (xwk (v, tv, l, l2, σ) t n 24 (2 ^ xgH (xgOf l.length v) - 1) 0 0 0).1.length → S'.2.1 219 (0 + q) = nI ((xwk (v, tv, l, l2, σ) t n 24 (2 ^ xgH (xgOf l.length v) - 1) 0 0 0).1.getD q 0)) := by
      refine wp_aload_n dX12_play_58 rfl rfl (wp_iconst (v := nI 0) dX12_play_59 rfl (p11_455 dX12_play_60 (xsh X1 sh_187) (wp_iconst (v := nI 1) dX12_play_63 rfl (wp_aload_n dX12_play_64 rfl rfl (gv11_183 dX12_play_65 (xsh X1 sh_187) (xi k30 (Or.inr (by decide))) (wv_ishl dX12_play_68 (xshl1 (by omega)) (wp_iconst (v := nI 1) dX12_play_69 rfl (wv_isub dX12_play_70 (pk_sub (by omega)) (wp_istore_n dX12_play_71 ⟨Nat.le_of_ble_eq_true rfl, Or.inr rfl⟩ rfl (wp_aload_n dX12_play_72 rfl rfl (wp_iv1 dX12_play_73 k11_458 q_X12_isOverAtFirst (by decide) (xsh X1 sh_187) (by decide) (Nat.le_of_ble_eq_true rfl) go ?_)))))))))))
      refine wb_if_eq dX12_play_76 rfl (fun c76 => ?_) (fun c76 => absurd c76 (by decide))
      exact wp_iconst (v := nI 1) dX12_play_81 rfl (wp_aload_n dX12_play_82 rfl rfl (gv11_391 dX12_play_83 (xsh X2 sh_187) (xi k60 (Or.inr (by decide))) (wv_ishl dX12_play_86 (xshl1 (by omega)) (wp_iconst (v := nI 1) dX12_play_87 rfl (wv_isub dX12_play_88 (pk_sub (by omega)) (wp_istore_n dX12_play_89 ⟨Nat.le_of_ble_eq_true rfl, Or.inr rfl⟩ rfl (wp_iconst (v := nI 0) dX12_play_90 rfl (wp_istore_n dX12_play_91 ⟨Nat.le_of_ble_eq_true rfl, Or.inr rfl⟩ rfl (wp_iconst (v := nI 1) dX12_play_92 rfl (wp_istore dX12_play_93 ⟨Nat.le_of_ble_eq_true rfl, Or.inr rfl⟩ rfl (wp_iconst (v := nI 0) dX12_play_95 rfl (wp_istore dX12_play_96 ⟨Nat.le_of_ble_eq_true rfl, Or.inr rfl⟩ rfl (wp_iconst (v := nI 0) dX12_play_98 rfl (wp_istore dX12_play_99 ⟨Nat.le_of_ble_eq_true rfl, Or.inr rfl⟩ rfl lp2))))))))))))))
    have lp := mt_ok (d := d + 3) (by omega) X1 T1 (f1.i (F0.i ka (by omega)) (by omega)) K n 0 (Nat.zero_add _)
    obtain ⟨r, S3, g3, rfl, y1, y2, y3⟩ := xcall_some (al := false) (d := d + 6) (ls := [.ref 187, .float 0, .float 0, .float 0, .float 0, .float 0, .float 0, .float 0]) (S := S) (as := [.ref 187]) q_X12_play (by decide) rfl (Nat.le_of_ble_eq_true rfl) rfl (P := (fun r S' => r = some (.int (nI (xwk (v, tv, l, l2, σ) t n 24 (2 ^ xgH (xgOf l.length v) - 1) 0 0 0).2)) ∧ xFl (fun i q => (i = 187 ∧ ((61 ≤ q ∧ q ≤ 70) ∨ q = 72)) ∨ i = 216 ∨ (i = 219 ∧ 0 ≤ q)) (xSI S1 187 72 (nI 0)) S' ∧ S'.2.1 187 72 = nI (0 + (xwk (v, tv, l, l2, σ) t n 24 (2 ^ xgH (xgOf l.length v) - 1) 0 0 0).1.length) ∧ ∀ q, q < (xwk (v, tv, l, l2, σ) t n 24 (2 ^ xgH (xgOf l.length v) - 1) 0 0 0).1.length → S'.2.1 219 (0 + q) = nI ((xwk (v, tv, l, l2, σ) t n 24 (2 ^ xgH (xgOf l.length v) - 1) 0 0 0).1.getD q 0))) (by
        refine wp_aload_n dX12_play_0 rfl rfl (wp_iconst (v := nI 0) dX12_play_1 rfl (p11_1 dX12_play_2 (xsh hX sh_187) (wp_aload_n dX12_play_5 rfl rfl (wp_iv1 dX12_play_6 k11_69 q_X12_taken (by decide) (xsh hX sh_187) (by decide) (Nat.le_of_ble_eq_true rfl) gt (wp_aload_n dX12_play_9 rfl rfl (wp_iv1 dX12_play_10 k11_452 q_X12_prepareYard (by decide) (xsh X0 sh_187) (by decide) (Nat.le_of_ble_eq_true rfl) g1 ?_))))))
        refine wb_if_ne dX12_play_13 rfl (fun c13 => ?_) (fun c13 => absurd c13 (by decide))
        exact wp_iconst (v := nI 0) dX12_play_18 rfl (wp_istore_n dX12_play_19 ⟨Nat.le_of_ble_eq_true rfl, Or.inr rfl⟩ rfl lp))
    refine ⟨S3, g3, FA.tt (y1.mono (fun i k h => by omega)), y1.i k2' (by omega), by rw [y2, Nat.zero_add], fun q hq => by have := y3 q hq; rw [Nat.zero_add] at this; exact this⟩
