/-! a GAME of the reference: isMet, answerIn, solve -/
theorem m_isMet {c : xPx} {p L : Nat} (d : Nat) (ho : xzo c) {S : xS} (hX : XC S) (l6 : S.2.1 208 6 = nI (1 - c.1.1 7)) (hp : p < 32) (hL : L < 2 ^ 31) : xcall false d j_X12_isMet [.ref 187, .int (nI p), .int (nI L)] S (some (.int (xB (xmt9 c p L)))) S := by
  have b7 : c.1.1 7 ≤ 1 := ho.1.1 7 (by decide)
  have eb := xbitt (m := L) (h := p) hL
  unfold xmt9 xaim
  cases ht : L.testBit p with
  | true =>
    rw [ht, if_pos rfl] at eb
    rcases Decidable.em (c.1.1 7 = 0) with w | w
    · rw [decide_eq_true w, decide_eq_true rfl]
      rw [w] at l6
      refine xcall_intro (ls := [.ref 187, .int (nI p), .int (nI L)]) q_X12_isMet (by decide) rfl (Nat.le_of_ble_eq_true rfl) rfl ?_
      refine wp_iload_n dX12_isMet_0 rfl (wp_iload_n dX12_isMet_1 rfl (wv_ishr dX12_isMet_2 (xshR hL hp) (wp_iconst (v := nI 1) dX12_isMet_3 rfl (wv_iand dX12_isMet_4 eb (wp_iconst (v := nI 1) dX12_isMet_5 rfl ?_)))))
      refine wn_icmp_ne dX12_isMet_6 rfl (by omega) (by omega) (fun c6 => absurd c6 (by omega)) (fun c6 => ?_)
      refine wp_iconst (v := nI 1) dX12_isMet_9 rfl (wp_goto dX12_isMet_10 rfl (wp_aload_n dX12_isMet_14 rfl rfl (g11_272 dX12_isMet_15 (xsh hX sh_187) (xrr hX r187_45) (wp_bipush (v := nI 6) dX12_isMet_18 rfl (wn_iaload dX12_isMet_20 (xsh hX sh_208) rfl (by omega) (by decide) l6 (wp_iconst (v := nI 1) dX12_isMet_21 rfl ?_))))))
      refine wn_icmp_ne dX12_isMet_22 rfl (by omega) (by omega) (fun c22 => absurd c22 (by omega)) (fun c22 => ?_)
      refine wp_iconst (v := nI 1) dX12_isMet_25 rfl (wp_goto dX12_isMet_26 rfl ?_)
      refine wn_icmp_ne dX12_isMet_30 rfl (by omega) (by omega) (fun c30 => absurd c30 (by omega)) (fun c30 => ?_)
      exact wp_iconst (v := nI 1) dX12_isMet_33 rfl (wp_goto dX12_isMet_34 rfl (wb_ret dX12_isMet_38 rfl rfl ⟨rfl, rfl⟩))
    · rw [decide_eq_false w, decide_eq_false (by decide)]
      rw [show 1 - c.1.1 7 = 0 by omega] at l6
      refine xcall_intro (ls := [.ref 187, .int (nI p), .int (nI L)]) q_X12_isMet (by decide) rfl (Nat.le_of_ble_eq_true rfl) rfl ?_
      refine wp_iload_n dX12_isMet_0 rfl (wp_iload_n dX12_isMet_1 rfl (wv_ishr dX12_isMet_2 (xshR hL hp) (wp_iconst (v := nI 1) dX12_isMet_3 rfl (wv_iand dX12_isMet_4 eb (wp_iconst (v := nI 1) dX12_isMet_5 rfl ?_)))))
      refine wn_icmp_ne dX12_isMet_6 rfl (by omega) (by omega) (fun c6 => absurd c6 (by omega)) (fun c6 => ?_)
      refine wp_iconst (v := nI 1) dX12_isMet_9 rfl (wp_goto dX12_isMet_10 rfl (wp_aload_n dX12_isMet_14 rfl rfl (g11_272 dX12_isMet_15 (xsh hX sh_187) (xrr hX r187_45) (wp_bipush (v := nI 6) dX12_isMet_18 rfl (wn_iaload dX12_isMet_20 (xsh hX sh_208) rfl (by omega) (by decide) l6 (wp_iconst (v := nI 1) dX12_isMet_21 rfl ?_))))))
      refine wn_icmp_ne dX12_isMet_22 rfl (by omega) (by omega) (fun c22 => ?_) (fun c22 => absurd c22 (by omega))
      refine wp_iconst (v := nI 0) dX12_isMet_29 rfl ?_
      refine wn_icmp_ne dX12_isMet_30 rfl (by omega) (by omega) (fun c30 => ?_) (fun c30 => absurd c30 (by omega))
      exact wp_iconst (v := nI 0) dX12_isMet_37 rfl (wb_ret dX12_isMet_38 rfl rfl ⟨rfl, rfl⟩)
  | false =>
    rw [ht, if_neg (by decide)] at eb
    rcases Decidable.em (c.1.1 7 = 0) with w | w
    · rw [decide_eq_true w, decide_eq_false (by decide)]
      rw [w] at l6
      refine xcall_intro (ls := [.ref 187, .int (nI p), .int (nI L)]) q_X12_isMet (by decide) rfl (Nat.le_of_ble_eq_true rfl) rfl ?_
      refine wp_iload_n dX12_isMet_0 rfl (wp_iload_n dX12_isMet_1 rfl (wv_ishr dX12_isMet_2 (xshR hL hp) (wp_iconst (v := nI 1) dX12_isMet_3 rfl (wv_iand dX12_isMet_4 eb (wp_iconst (v := nI 1) dX12_isMet_5 rfl ?_)))))
      refine wn_icmp_ne dX12_isMet_6 rfl (by omega) (by omega) (fun c6 => ?_) (fun c6 => absurd c6 (by omega))
      refine wp_iconst (v := nI 0) dX12_isMet_13 rfl (wp_aload_n dX12_isMet_14 rfl rfl (g11_272 dX12_isMet_15 (xsh hX sh_187) (xrr hX r187_45) (wp_bipush (v := nI 6) dX12_isMet_18 rfl (wn_iaload dX12_isMet_20 (xsh hX sh_208) rfl (by omega) (by decide) l6 (wp_iconst (v := nI 1) dX12_isMet_21 rfl ?_)))))
      refine wn_icmp_ne dX12_isMet_22 rfl (by omega) (by omega) (fun c22 => absurd c22 (by omega)) (fun c22 => ?_)
      refine wp_iconst (v := nI 1) dX12_isMet_25 rfl (wp_goto dX12_isMet_26 rfl ?_)
      refine wn_icmp_ne dX12_isMet_30 rfl (by omega) (by omega) (fun c30 => ?_) (fun c30 => absurd c30 (by omega))
      exact wp_iconst (v := nI 0) dX12_isMet_37 rfl (wb_ret dX12_isMet_38 rfl rfl ⟨rfl, rfl⟩)
    · rw [decide_eq_false w, decide_eq_true rfl]
      rw [show 1 - c.1.1 7 = 0 by omega] at l6
      refine xcall_intro (ls := [.ref 187, .int (nI p), .int (nI L)]) q_X12_isMet (by decide) rfl (Nat.le_of_ble_eq_true rfl) rfl ?_
      refine wp_iload_n dX12_isMet_0 rfl (wp_iload_n dX12_isMet_1 rfl (wv_ishr dX12_isMet_2 (xshR hL hp) (wp_iconst (v := nI 1) dX12_isMet_3 rfl (wv_iand dX12_isMet_4 eb (wp_iconst (v := nI 1) dX12_isMet_5 rfl ?_)))))
      refine wn_icmp_ne dX12_isMet_6 rfl (by omega) (by omega) (fun c6 => ?_) (fun c6 => absurd c6 (by omega))
      refine wp_iconst (v := nI 0) dX12_isMet_13 rfl (wp_aload_n dX12_isMet_14 rfl rfl (g11_272 dX12_isMet_15 (xsh hX sh_187) (xrr hX r187_45) (wp_bipush (v := nI 6) dX12_isMet_18 rfl (wn_iaload dX12_isMet_20 (xsh hX sh_208) rfl (by omega) (by decide) l6 (wp_iconst (v := nI 1) dX12_isMet_21 rfl ?_)))))
      refine wn_icmp_ne dX12_isMet_22 rfl (by omega) (by omega) (fun c22 => ?_) (fun c22 => absurd c22 (by omega))
      refine wp_iconst (v := nI 0) dX12_isMet_29 rfl ?_
      refine wn_icmp_ne dX12_isMet_30 rfl (by omega) (by omega) (fun c30 => absurd c30 (by omega)) (fun c30 => ?_)
      exact wp_iconst (v := nI 1) dX12_isMet_33 rfl (wp_goto dX12_isMet_34 rfl (wb_ret dX12_isMet_38 rfl rfl ⟨rfl, rfl⟩))
theorem xzq_lt {c : xPx} {ex m s k : Nat} (hg : xgd c m s k) : xzq c ex m s k < xgP (xzg c) := by
  exact xow_lt (xha_lt hg.2.2.1)
theorem an_loop {c : xPx} {ex m s k see d : Nat} {x2 : Value} (ho : xzo c) (ha : xzal c = true) (h8 : xgH (xzg c) ≤ 8) (hex : ex ≤ 1000) (hg : xgd c m s k) (hask : xzA c k = true) : ∀ (j a : Nat) (S : xS), a + j = c.2.2.2.1.length → xWk S c ex m s k → (∀ a, a < xzw c k → xen c ex m s k a = none → S.2.1 221 (xqt c (xn1 c ex m s k a) (xn2 c ex m s k a) (k + 1)) = nI (xVg c ex see (xn1 c ex m s k a) (xn2 c ex m s k a) (k + 1))) → Wp false (d + 4) 11 cX12_answerIn (some .int) false 18 [.ref 187, .int (nI (xqt c m s k)), x2, .int (nI (xzq c ex m s k)), .int (nI a)] [] S (fun r S' => r = some (.int (nI (xff (fun a => xmt9 c (xzq c ex m s k) (xvl c ex (fun _ L => L) (xVg c ex see) m s k a)) j a))) ∧ xFl (fun i q => i = 187 ∧ 64 ≤ q ∧ q ≤ 69) S S') := by
  have hP : xgP (xzg c) ≤ 12 := ho.g.2.1
  have p12 : 2 ^ xgP (xzg c) ≤ 2 ^ 12 := Nat.pow_le_pow_right (by decide) hP
  have hac := ho.2.2.1
  have hw : xzw c k = c.2.2.2.1.length := by unfold xzw; rw [if_pos hask]
  have hq := xzq_lt (ex := ex) hg
  intro j
  induction j with
  | zero =>
    intro a S haj hW hs
    have haa : a = c.2.2.2.1.length := by omega
    have hX := hW.1
    have k31 := hW.2.1.2.2.2.2.2.2.2.2.2.1
    refine wp_iload dX12_answerIn_18 rfl (wp_aload_n dX12_answerIn_20 rfl rfl (gv11_189 dX12_answerIn_21 (xsh hX sh_187) k31 ?_))
    refine wn_icmp_ge dX12_answerIn_24 rfl (by omega) (by omega) (fun c24 => ?_) (fun c24 => absurd c24 (by omega))
    exact wp_iconst (v := nI 0) dX12_answerIn_55 rfl (wp_ireturn dX12_answerIn_56 rfl rfl ⟨rfl, xFl.rf S⟩)
  | succ j ih =>
    intro a S haj hW hs
    have hX := hW.1
    have k31 := hW.2.1.2.2.2.2.2.2.2.2.2.1
    obtain ⟨S1, gf, f1, k64, out⟩ := m_finishState (a := a) (d + 0) ho ha h8 hex hg hW (Or.inl ⟨hask, rfl, by omega⟩)
    have X1 := f1.XC hX
    have W1 := hW.fr ho f1 (fun i q h => by omega)
    have gl := m_leftBy (V := xVg c ex see) (d + 2) ho h8 X1 (fun e => f1.i (hs a (by omega) e) (by omega)) out
    have hv := xvl_lt (ex := ex) (see := see) (a := a) ho hg
    have gm := m_isMet (p := xzq c ex m s k) (L := (xvl c ex (fun _ L => L) (xVg c ex see) m s k a)) (d + 3) ho X1 W1.2.1.2.2.2.2.2.2.2.1.2 (by omega) (by omega)
    rw [xff]
    cases hm : xmt9 c (xzq c ex m s k) (xvl c ex (fun _ L => L) (xVg c ex see) m s k a) with
    | true =>
      rw [hm] at gm
      rw [if_pos rfl]
      refine wp_iload dX12_answerIn_18 rfl (wp_aload_n dX12_answerIn_20 rfl rfl (gv11_189 dX12_answerIn_21 (xsh hX sh_187) k31 ?_))
      refine wn_icmp_ge dX12_answerIn_24 rfl (by omega) (by omega) (fun c24 => absurd c24 (by omega)) (fun c24 => ?_)
      refine wp_aload_n dX12_answerIn_27 rfl rfl (wp_iload_n dX12_answerIn_28 rfl (wp_iload dX12_answerIn_29 rfl (wp_iv3 dX12_answerIn_31 k11_494 q_X12_finishState (by decide) (xsh hX sh_187) (by decide) (Nat.le_of_ble_eq_true rfl) gf (wp_aload_n dX12_answerIn_34 rfl rfl (wp_iload_n dX12_answerIn_35 rfl (wp_aload_n dX12_answerIn_36 rfl rfl (wp_iv1 dX12_answerIn_37 k11_497 q_X12_leftBy (by decide) (xsh X1 sh_187) (by decide) (Nat.le_of_ble_eq_true rfl) gl (wp_iv3 dX12_answerIn_40 k11_500 q_X12_isMet (by decide) (xsh X1 sh_187) (by decide) (Nat.le_of_ble_eq_true rfl) gm ?_))))))))
      refine wb_if_eq dX12_answerIn_43 rfl (fun c43 => absurd c43 (by decide)) (fun c43 => ?_)
      exact wp_iload dX12_answerIn_46 rfl (wp_ireturn dX12_answerIn_48 rfl rfl ⟨rfl, f1⟩)
    | false =>
      rw [hm] at gm
      rw [if_neg (by decide)]
      have nx := (ih (a + 1) S1 (by omega) W1 (fun b hb e => f1.i (hs b hb e) (by omega))).mono (Q' := (fun r S' => r = some (.int (nI (xff (fun a => xmt9 c (xzq c ex m s k) (xvl c ex (fun _ L => L) (xVg c ex see) m s k a)) j (a + 1)))) ∧ xFl (fun i q => i = 187 ∧ 64 ≤ q ∧ q ≤ 69) S S')) (fun r S' z => ⟨z.1, f1.tt z.2⟩)
      refine wp_iload dX12_answerIn_18 rfl (wp_aload_n dX12_answerIn_20 rfl rfl (gv11_189 dX12_answerIn_21 (xsh hX sh_187) k31 ?_))
      refine wn_icmp_ge dX12_answerIn_24 rfl (by omega) (by omega) (fun c24 => absurd c24 (by omega)) (fun c24 => ?_)
      refine wp_aload_n dX12_answerIn_27 rfl rfl (wp_iload_n dX12_answerIn_28 rfl (wp_iload dX12_answerIn_29 rfl (wp_iv3 dX12_answerIn_31 k11_494 q_X12_finishState (by decide) (xsh hX sh_187) (by decide) (Nat.le_of_ble_eq_true rfl) gf (wp_aload_n dX12_answerIn_34 rfl rfl (wp_iload_n dX12_answerIn_35 rfl (wp_aload_n dX12_answerIn_36 rfl rfl (wp_iv1 dX12_answerIn_37 k11_497 q_X12_leftBy (by decide) (xsh X1 sh_187) (by decide) (Nat.le_of_ble_eq_true rfl) gl (wp_iv3 dX12_answerIn_40 k11_500 q_X12_isMet (by decide) (xsh X1 sh_187) (by decide) (Nat.le_of_ble_eq_true rfl) gm ?_))))))))
      refine wb_if_eq dX12_answerIn_43 rfl (fun c43 => ?_) (fun c43 => absurd c43 (by decide))
      exact wp_iinc dX12_answerIn_49 rfl (nI_1 _) ⟨Nat.le_of_ble_eq_true rfl, Or.inr rfl⟩ rfl (wp_goto dX12_answerIn_52 rfl nx)
theorem m_answerIn {c : xPx} {ex m s k see : Nat} (d : Nat) (ho : xzo c) (ha : xzal c = true) (h8 : xgH (xzg c) ≤ 8) (hex : ex ≤ 1000) (hsee : see < 2 ^ 12) (hg : xgd c m s k) (hask : xzA c k = true) {S : xS} (hW : xWk S c ex m s k) (k63 : S.2.1 187 63 = nI (xzq c ex m s k)) (hs : (∀ a, a < xzw c k → xen c ex m s k a = none → S.2.1 221 (xqt c (xn1 c ex m s k a) (xn2 c ex m s k a) (k + 1)) = nI (xVg c ex see (xn1 c ex m s k a) (xn2 c ex m s k a) (k + 1)))) : ∃ S', xcall false (d + 4) j_X12_answerIn [.ref 187, .int (nI (xqt c m s k)), .int (nI see)] S (some (.int (nI (if see.testBit (xzq c ex m s k) = true then xff (fun a => xmt9 c (xzq c ex m s k) (xvl c ex (fun _ L => L) (xVg c ex see) m s k a)) c.2.2.2.1.length 0 else 0)))) S' ∧ xFl (fun i q => i = 187 ∧ 64 ≤ q ∧ q ≤ 69) S S' := by
  have hX := hW.1
  have hP : xgP (xzg c) ≤ 12 := ho.g.2.1
  have hq := xzq_lt (ex := ex) hg
  have eb := xbitt (m := see) (h := xzq c ex m s k) (by omega)
  cases ht : see.testBit (xzq c ex m s k) with
  | false =>
    rw [ht, if_neg (by decide)] at eb
    rw [if_neg (by decide)]
    refine ⟨S, ?_, xFl.rf S⟩
    refine xcall_intro (ls := [.ref 187, .int (nI (xqt c m s k)), .int (nI see), .float 0, .float 0]) q_X12_answerIn (by decide) rfl (Nat.le_of_ble_eq_true rfl) rfl ?_
    refine wp_aload_n dX12_answerIn_0 rfl rfl (gv11_421 dX12_answerIn_1 (xsh hX sh_187) k63 (wp_istore_n dX12_answerIn_4 ⟨Nat.le_of_ble_eq_true rfl, Or.inr rfl⟩ rfl (wp_iload_n dX12_answerIn_5 rfl (wp_iload_n dX12_answerIn_6 rfl (wv_ishr dX12_answerIn_7 (xshR (by omega) (by omega)) (wp_iconst (v := nI 1) dX12_answerIn_8 rfl (wv_iand dX12_answerIn_9 eb ?_)))))))
    refine wn_if_ne dX12_answerIn_10 rfl (by omega) (fun c10 => absurd c10 (by omega)) (fun c10 => ?_)
    exact wp_iconst (v := nI 0) dX12_answerIn_13 rfl (wp_ireturn dX12_answerIn_14 rfl rfl ⟨rfl, rfl⟩)
  | true =>
    rw [ht, if_pos rfl] at eb
    rw [if_pos rfl]
    have lp := an_loop (d := d) (x2 := .int (nI see)) ho ha h8 hex hg hask c.2.2.2.1.length 0 S (Nat.zero_add _) hW hs
    obtain ⟨r, S', g1, rfl, z⟩ := xcall_some (al := false) (d := d + 4) (ls := [.ref 187, .int (nI (xqt c m s k)), .int (nI see), .float 0, .float 0]) (S := S) (as := [.ref 187, .int (nI (xqt c m s k)), .int (nI see)]) q_X12_answerIn (by decide) rfl (Nat.le_of_ble_eq_true rfl) rfl (P := (fun r S' => r = some (.int (nI (xff (fun a => xmt9 c (xzq c ex m s k) (xvl c ex (fun _ L => L) (xVg c ex see) m s k a)) c.2.2.2.1.length 0))) ∧ xFl (fun i q => i = 187 ∧ 64 ≤ q ∧ q ≤ 69) S S')) (by
      refine wp_aload_n dX12_answerIn_0 rfl rfl (gv11_421 dX12_answerIn_1 (xsh hX sh_187) k63 (wp_istore_n dX12_answerIn_4 ⟨Nat.le_of_ble_eq_true rfl, Or.inr rfl⟩ rfl (wp_iload_n dX12_answerIn_5 rfl (wp_iload_n dX12_answerIn_6 rfl (wv_ishr dX12_answerIn_7 (xshR (by omega) (by omega)) (wp_iconst (v := nI 1) dX12_answerIn_8 rfl (wv_iand dX12_answerIn_9 eb ?_)))))))
      refine wn_if_ne dX12_answerIn_10 rfl (by omega) (fun c10 => ?_) (fun c10 => absurd c10 (by omega))
      exact wp_iconst (v := nI 0) dX12_answerIn_15 rfl (wp_istore dX12_answerIn_16 ⟨Nat.le_of_ble_eq_true rfl, Or.inr rfl⟩ rfl lp))
    exact ⟨S', g1, z⟩
theorem so_tail {c : xPx} {ex m s k see q9 d : Nat} {av : Int32} {B : Nat → Bool} {y3 : Value} (ho : xzo c) (ha : xzal c = true) (h8 : xgH (xzg c) ≤ 8) (hex : ex ≤ 1000) (hg : xgd c m s k) (hav : (xzA c k = true ∧ av = nI q9 ∧ q9 < c.2.2.2.1.length) ∨ (xzA c k = false ∧ av = -1)) {S0 S : xS} (hW : xWk S c ex m s k) (hs : xen c ex m s k q9 = none → S.2.1 221 (xqt c (xn1 c ex m s k q9) (xn2 c ex m s k q9) (k + 1)) = nI (xVg c ex see (xn1 c ex m s k q9) (xn2 c ex m s k q9) (k + 1))) (hF : xFl (fun i q => (i = 187 ∧ 61 ≤ q ∧ q ≤ 70) ∨ i = 216 ∨ i = 220 ∨ i = 221) S0 S) {Q : Option Value → xS → Prop} (K : ∀ S' y3, xFl (fun i q => (i = 187 ∧ 61 ≤ q ∧ q ≤ 70) ∨ i = 216 ∨ i = 220 ∨ i = 221) S0 S' → xFl (fun i q => (i = 187 ∧ 64 ≤ q ∧ q ≤ 69) ∨ (i = 221 ∧ q = xqt c m s k)) S S' → S'.2.1 221 (xqt c m s k) = nI (xvl c ex (fun _ L => L) (xVg c ex see) m s k q9) → Wp false (d + 5) 11 cX12_solve none false 61 [.ref 187, .int (nI see), .int (nI (xqt c m s k)), y3] [] S' Q) : Wp false (d + 5) 11 cX12_solve none false 44 [.ref 187, .int (nI see), .int (nI (xqt c m s k)), y3] [.int av] S Q := by
  have hX := hW.1
  obtain ⟨_, _, _, q4, _⟩ := hg.b ho h8
  obtain ⟨S1, gf, f1, k64, out⟩ := m_finishState (a := q9) (d + 1) ho ha h8 hex hg hW hav
  have X1 := f1.XC hX
  have gl := m_leftBy (V := xVg c ex see) (d + 3) ho h8 X1 (fun e => f1.i (hs e) (by omega)) out
  have F2 : xFl (fun i q => (i = 187 ∧ 64 ≤ q ∧ q ≤ 69) ∨ (i = 221 ∧ q = xqt c m s k)) S (xSI S1 221 (xqt c m s k) (nI (xvl c ex (fun _ L => L) (xVg c ex see) m s k q9))) := (f1.mono (fun i q h => Or.inl h)).tt ((xFl.rf S1).SI (Or.inr ⟨rfl, rfl⟩))
  have nx := K _ (.int av) (hF.tt (F2.mono (fun i q h => by omega))) F2 (xI_same _ _ _ _)
  exact wp_istore_n dX12_solve_44 ⟨Nat.le_of_ble_eq_true rfl, Or.inr rfl⟩ rfl (wp_aload_n dX12_solve_45 rfl rfl (wp_iload_n dX12_solve_46 rfl (wp_iload_n dX12_solve_47 rfl (wp_iv3 dX12_solve_48 k11_494 q_X12_finishState (by decide) (xsh hX sh_187) (by decide) (Nat.le_of_ble_eq_true rfl) gf (wp_aload_n dX12_solve_51 rfl rfl (g11_358 dX12_solve_52 (xsh X1 sh_187) (xrr X1 r187_74) (wp_iload_n dX12_solve_55 rfl (wp_aload_n dX12_solve_56 rfl rfl (wp_iv1 dX12_solve_57 k11_497 q_X12_leftBy (by decide) (xsh X1 sh_187) (by decide) (Nat.le_of_ble_eq_true rfl) gl (wn_iastore dX12_solve_60 (xsh X1 sh_221) rfl (by omega) (by decide) nx))))))))))
theorem so_loop {c : xPx} {ex see d : Nat} {B : Nat → Bool} (ho : xzo c) (ha : xzal c = true) (h8 : xgH (xzg c) ≤ 8) (hex : ex ≤ 1000) (hsee : see < 2 ^ 12) : ∀ (j i : Nat) (S : xS) (y3 : Value), i + j = 16384 → XC S → xMpd S c ex → xMK S c ex B → xVs S c (xVg c ex see) B i → Wp false (d + 5) 11 cX12_solve none false 7 [.ref 187, .int (nI see), .int (nI i), y3] [] S (fun r S' => r = none ∧ xFl (fun i q => (i = 187 ∧ 61 ≤ q ∧ q ≤ 70) ∨ i = 216 ∨ i = 220 ∨ i = 221) S S' ∧ xMK S' c ex B ∧ xVs S' c (xVg c ex see) B 16384) := by
  intro j
  induction j with
  | zero =>
    intro i S y3 hi hX hD hB hV
    have hii : i = 16384 := by omega
    subst hii
    have fin : xFl (fun i q => (i = 187 ∧ 61 ≤ q ∧ q ≤ 70) ∨ i = 216 ∨ i = 220 ∨ i = 221) S S ∧ xMK S c ex B ∧ xVs S c (xVg c ex see) B 16384 := ⟨xFl.rf S, hB, hV⟩
    refine wp_iload_n dX12_solve_7 rfl (wp_sipush (v := nI 16384) dX12_solve_8 rfl ?_)
    refine wn_icmp_ge dX12_solve_11 rfl (by omega) (by omega) (fun c11 => ?_) (fun c11 => absurd c11 (by omega))
    exact wp_return dX12_solve_67 rfl ⟨rfl, fin⟩
  | succ j ih =>
    intro i S y3 hi hX hD hB hV
    have hbx := hB.1 i (by omega)
    cases eb : B i with
    | false =>
      rw [eb] at hbx
      have nx := ih (i + 1) S y3 (by omega) hX hD hB (fun m s k hg hm hx => by
        rcases Nat.lt_or_ge (xqt c m s k) i with w | w
        · exact hV m s k hg hm w
        · rw [show xqt c m s k = i by omega, eb] at hm; cases hm)
      refine wp_iload_n dX12_solve_7 rfl (wp_sipush (v := nI 16384) dX12_solve_8 rfl ?_)
      refine wn_icmp_ge dX12_solve_11 rfl (by omega) (by omega) (fun c11 => absurd c11 (by omega)) (fun c11 => ?_)
      refine wp_aload_n dX12_solve_14 rfl rfl (g11_355 dX12_solve_15 (xsh hX sh_187) (xrr hX r187_73) (wp_iload_n dX12_solve_18 rfl (wn_baload dX12_solve_19 (xsh hX sh_220) (Or.inr rfl) (by omega) (by decide) hbx ?_)))
      refine wb_if_ne dX12_solve_20 rfl (fun c20 => absurd c20 (by decide)) (fun c20 => ?_)
      exact wp_goto dX12_solve_23 rfl (wp_iinc dX12_solve_61 rfl (nI_1 _) ⟨Nat.le_of_ble_eq_true rfl, Or.inr rfl⟩ rfl (wp_goto dX12_solve_64 rfl nx))
    | true =>
      rw [eb] at hbx
      obtain ⟨m, s, k, rfl, hg⟩ := hB.2.1 i eb
      obtain ⟨S1, gw, f1, W1, k70, k63⟩ := m_walkState (d + 1) ho ha h8 hex hg hX hD
      have X1 := f1.XC hX
      have hcl := hB.2.2.2 m s k hg eb
      have suc : ∀ a, a < xzw c k → xen c ex m s k a = none → S.2.1 221 (xqt c (xn1 c ex m s k a) (xn2 c ex m s k a) (k + 1)) = nI (xVg c ex see (xn1 c ex m s k a) (xn2 c ex m s k a) (k + 1)) := fun a ha e => hV _ _ _ (hg.nx ho e) (hcl a ha e) (xqt_lt ho h8 hg e)
      have go : ∀ (q9 : Nat) (S2 : xS), xWk S2 c ex m s k → xFl (fun i q => (i = 187 ∧ 61 ≤ q ∧ q ≤ 70) ∨ i = 216 ∨ i = 220 ∨ i = 221) S S2 → (∀ x, S2.2.1 220 x = S.2.1 220 x) → (∀ x, S2.2.1 221 x = S.2.1 221 x) → xVg c ex see m s k = (xvl c ex (fun _ L => L) (xVg c ex see) m s k q9) → ∀ S' y3, xFl (fun i q => (i = 187 ∧ 61 ≤ q ∧ q ≤ 70) ∨ i = 216 ∨ i = 220 ∨ i = 221) S S' → xFl (fun i q => (i = 187 ∧ 64 ≤ q ∧ q ≤ 69) ∨ (i = 221 ∧ q = xqt c m s k)) S2 S' → S'.2.1 221 (xqt c m s k) = nI (xvl c ex (fun _ L => L) (xVg c ex see) m s k q9) → Wp false (d + 5) 11 cX12_solve none false 61 [.ref 187, .int (nI see), .int (nI (xqt c m s k)), y3] [] S' (fun r S' => r = none ∧ xFl (fun i q => (i = 187 ∧ 61 ≤ q ∧ q ≤ 70) ∨ i = 216 ∨ i = 220 ∨ i = 221) S S' ∧ xMK S' c ex B ∧ xVs S' c (xVg c ex see) B 16384) := by
        intro q9 S2 W2 F2 h220 h221 eV S' y3 F3 F4 hv
        have X3 := F4.XC W2.1
        have D3 := W2.2.1.fr ho F4 (fun i q h => by omega)
        have B3 : xMK S' c ex B := ⟨fun x hx => F4.i ((h220 x).trans (hB.1 x hx)) (by omega), hB.2⟩
        have nx := (ih (xqt c m s k + 1) S' y3 (by omega) X3 D3 B3 (fun m' s' k' hg' hm hx => by
          rcases Decidable.em (xqt c m' s' k' = xqt c m s k) with w | w
          · obtain ⟨rfl, rfl, rfl⟩ := xqt_inj ho h8 hg' hg w
            rw [hv, eV]
          · exact F4.i ((h221 _).trans (hV m' s' k' hg' hm (by omega))) (by omega))).mono (Q' := (fun r S' => r = none ∧ xFl (fun i q => (i = 187 ∧ 61 ≤ q ∧ q ≤ 70) ∨ i = 216 ∨ i = 220 ∨ i = 221) S S' ∧ xMK S' c ex B ∧ xVs S' c (xVg c ex see) B 16384)) (fun r S' z => ⟨z.1, F3.tt z.2.1, z.2.2⟩)
        exact wp_iinc dX12_solve_61 rfl (nI_1 _) ⟨Nat.le_of_ble_eq_true rfl, Or.inr rfl⟩ rfl (wp_goto dX12_solve_64 rfl nx)
      have h220 : ∀ x, S1.2.1 220 x = S.2.1 220 x := fun x => f1.2.2 220 x (by omega)
      have h221 : ∀ x, S1.2.1 221 x = S.2.1 221 x := fun x => f1.2.2 221 x (by omega)
      have F1 : xFl (fun i q => (i = 187 ∧ 61 ≤ q ∧ q ≤ 70) ∨ i = 216 ∨ i = 220 ∨ i = 221) S S1 := f1.mono (fun i q h => by omega)
      cases hask : xzA c k with
      | false =>
        rw [hask] at gw
        have eV : xVg c ex see m s k = (xvl c ex (fun _ L => L) (xVg c ex see) m s k 0) := by
          unfold xVg
          rw [xV_eq _ _ hg]
          unfold xJg
          rw [hask, if_neg (by decide)]
        have tl := so_tail (d := d) (q9 := 0) (av := -1) (B := B) (y3 := y3) ho ha h8 hex hg (Or.inr ⟨hask, rfl⟩) W1 (fun e => (h221 _).trans (suc 0 (by unfold xzw; rw [hask, if_neg (by decide)]; decide) e)) F1 (go 0 S1 W1 F1 h220 h221 eV)
        refine wp_iload_n dX12_solve_7 rfl (wp_sipush (v := nI 16384) dX12_solve_8 rfl ?_)
        refine wn_icmp_ge dX12_solve_11 rfl (by omega) (by omega) (fun c11 => absurd c11 (by omega)) (fun c11 => ?_)
        refine wp_aload_n dX12_solve_14 rfl rfl (g11_355 dX12_solve_15 (xsh hX sh_187) (xrr hX r187_73) (wp_iload_n dX12_solve_18 rfl (wn_baload dX12_solve_19 (xsh hX sh_220) (Or.inr rfl) (by omega) (by decide) hbx ?_)))
        refine wb_if_ne dX12_solve_20 rfl (fun c20 => ?_) (fun c20 => absurd c20 (by decide))
        refine wp_aload_n dX12_solve_26 rfl rfl (wp_iload_n dX12_solve_27 rfl (wp_iv2 dX12_solve_28 k11_491 q_X12_walkState (by decide) (xsh hX sh_187) (by decide) (Nat.le_of_ble_eq_true rfl) gw ?_))
        refine wb_if_eq dX12_solve_31 rfl (fun c31 => ?_) (fun c31 => absurd c31 (by decide))
        exact wp_iconst (v := -1) dX12_solve_43 rfl tl
      | true =>
        rw [hask] at gw
        have eV : xVg c ex see m s k = xvl c ex (fun _ L => L) (xVg c ex see) m s k (if see.testBit (xzq c ex m s k) = true then xff (fun a => xmt9 c (xzq c ex m s k) (xvl c ex (fun _ L => L) (xVg c ex see) m s k a)) c.2.2.2.1.length 0 else 0) := by
          unfold xVg
          rw [xV_eq _ _ hg]
          unfold xJg
          rw [hask, if_pos rfl]
        have hlt : (if see.testBit (xzq c ex m s k) = true then xff (fun a => xmt9 c (xzq c ex m s k) (xvl c ex (fun _ L => L) (xVg c ex see) m s k a)) c.2.2.2.1.length 0 else 0) < c.2.2.2.1.length := by
          split
          · exact xff_lt _ ho.2.2.1.1 _ _ (Nat.zero_add _)
          · exact ho.2.2.1.1
        have hw : xzw c k = c.2.2.2.1.length := by unfold xzw; rw [if_pos hask]
        obtain ⟨S2, ga, f2⟩ := m_answerIn (see := see) (d + 0) ho ha h8 hex hsee hg hask W1 k63 (fun a ha e => (h221 _).trans (suc a ha e))
        have W2 := W1.fr ho f2 (fun i q h => by omega)
        have F2 := F1.tt (f2.mono (fun i q h => by omega))
        have g220 : ∀ x, S2.2.1 220 x = S.2.1 220 x := fun x => (f2.2.2 220 x (by omega)).trans (h220 x)
        have g221 : ∀ x, S2.2.1 221 x = S.2.1 221 x := fun x => (f2.2.2 221 x (by omega)).trans (h221 x)
        generalize (if see.testBit (xzq c ex m s k) = true then xff (fun a => xmt9 c (xzq c ex m s k) (xvl c ex (fun _ L => L) (xVg c ex see) m s k a)) c.2.2.2.1.length 0 else 0) = q9 at eV hlt ga
        have tl := so_tail (d := d) (q9 := q9) (B := B) (y3 := y3) ho ha h8 hex hg (Or.inl ⟨hask, rfl, hlt⟩) W2 (fun e => (g221 _).trans (suc q9 (by rw [hw]; exact hlt) e)) F2 (go q9 S2 W2 F2 g220 g221 eV)
        refine wp_iload_n dX12_solve_7 rfl (wp_sipush (v := nI 16384) dX12_solve_8 rfl ?_)
        refine wn_icmp_ge dX12_solve_11 rfl (by omega) (by omega) (fun c11 => absurd c11 (by omega)) (fun c11 => ?_)
        refine wp_aload_n dX12_solve_14 rfl rfl (g11_355 dX12_solve_15 (xsh hX sh_187) (xrr hX r187_73) (wp_iload_n dX12_solve_18 rfl (wn_baload dX12_solve_19 (xsh hX sh_220) (Or.inr rfl) (by omega) (by decide) hbx ?_)))
        refine wb_if_ne dX12_solve_20 rfl (fun c20 => ?_) (fun c20 => absurd c20 (by decide))
        refine wp_aload_n dX12_solve_26 rfl rfl (wp_iload_n dX12_solve_27 rfl (wp_iv2 dX12_solve_28 k11_491 q_X12_walkState (by decide) (xsh hX sh_187) (by decide) (Nat.le_of_ble_eq_true rfl) gw ?_))
        refine wb_if_eq dX12_solve_31 rfl (fun c31 => absurd c31 (by decide)) (fun c31 => ?_)
        exact wp_aload_n dX12_solve_34 rfl rfl (wp_iload_n dX12_solve_35 rfl (wp_iload_n dX12_solve_36 rfl (wp_iv3 dX12_solve_37 k11_506 q_X12_answerIn (by decide) (xsh X1 sh_187) (by decide) (Nat.le_of_ble_eq_true rfl) ga (wp_goto dX12_solve_40 rfl tl))))
theorem m_solve {c : xPx} {ex see : Nat} (d : Nat) (ho : xzo c) (ha : xzal c = true) (h8 : xgH (xzg c) ≤ 8) (hex : ex ≤ 1000) (hsee : see < 2 ^ 12) {S : xS} (hX : XC S) (hD : xMpd S c ex) : ∃ S', xcall false (d + 6) j_X12_solve [.ref 187, .int (nI see)] S none S' ∧ xFl (fun i q => (i = 187 ∧ 61 ≤ q ∧ q ≤ 70) ∨ i = 216 ∨ i = 220 ∨ i = 221) S S' ∧ ∃ B, xMK S' c ex B ∧ xVs S' c (xVg c ex see) B 16384 := by
  obtain ⟨S1, g1, f1, B, hB⟩ := m_mark (d + 0) ho ha h8 hex hX hD
  have X1 := f1.XC hX
  have lp := so_loop (d := d + 1) (B := B) ho ha h8 hex hsee 16320 64 S1 (.float 0) rfl X1 (hD.fr ho f1 (fun i q h => by omega)) hB (fun m s k hg _ hx => by have := (hg.b ho h8).2.2.2.2; omega)
  obtain ⟨r, S', g2, rfl, z1, z2⟩ := xcall_some (al := false) (d := d + 6) (ls := [.ref 187, .int (nI see), .float 0, .float 0]) (S := S) (as := [.ref 187, .int (nI see)]) q_X12_solve (by decide) rfl (Nat.le_of_ble_eq_true rfl) rfl (P := (fun r S' => r = none ∧ xFl (fun i q => (i = 187 ∧ 61 ≤ q ∧ q ≤ 70) ∨ i = 216 ∨ i = 220 ∨ i = 221) S1 S' ∧ xMK S' c ex B ∧ xVs S' c (xVg c ex see) B 16384)) (by
      exact wp_aload_n dX12_solve_0 rfl rfl (wp_iv1 dX12_solve_1 k11_503 q_X12_mark (by decide) (xsh hX sh_187) (by decide) (Nat.le_of_ble_eq_true rfl) g1 (wp_bipush (v := nI 64) dX12_solve_4 rfl (wp_istore_n dX12_solve_6 ⟨Nat.le_of_ble_eq_true rfl, Or.inr rfl⟩ rfl lp))))
  exact ⟨S', g2, (f1.mono (fun i q h => by omega)).tt z1, B, z2⟩
