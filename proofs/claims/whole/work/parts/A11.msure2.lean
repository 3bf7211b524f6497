/-! SURE of the reference, the loop and the call -/
theorem su_loop {c : xPx} {who d : Nat} {B : Nat → Bool} (ho : xzo c) (ha : xzal c = true) (h8 : xgH (xzg c) ≤ 8) (hwho : who < 12) : ∀ (j i : Nat) (S : xS) (y3 y4 y5 y6 y7 y8 : Value), i + j = 16384 → XC S → xMpd S c 0 → xMK S c 0 B → xVs S c (xVu c 0 who) B i → Wp false (d + 6) 11 cX12_sure (some .int) false 49 [.ref 187, .int (nI who), .int (nI i), y3, y4, y5, y6, y7, y8] [] S (fun r S' => r = some (.int (nI (xVu c 0 who (2 ^ xgH (xzg c) - 1) 0 0))) ∧ xFl (fun i q => (i = 187 ∧ 61 ≤ q ∧ q ≤ 70) ∨ i = 216 ∨ i = 220 ∨ i = 221) S S') := by
  have hg0 := xgd_0 ho
  intro j
  induction j with
  | zero =>
    intro i S y3 y4 y5 y6 y7 y8 hi hX hD hB hV
    have hii : i = 16384 := by omega
    subst hii
    have gb := m_begin (d + 4) ho hX hD.1
    have hq := (hg0.b ho h8).2.2.2.1
    have v := hV _ _ _ hg0 hB.2.2.1 hq
    refine wp_iload_n dX12_sure_49 rfl (wp_sipush (v := nI 16384) dX12_sure_50 rfl ?_)
    refine wn_icmp_ge dX12_sure_53 rfl (by omega) (by omega) (fun c53 => ?_) (fun c53 => absurd c53 (by omega))
    exact wp_aload_n dX12_sure_263 rfl rfl (g11_358 dX12_sure_264 (xsh hX sh_187) (xrr hX r187_74) (wp_aload_n dX12_sure_267 rfl rfl (wp_iv1 dX12_sure_268 k11_485 q_X12_begin (by decide) (xsh hX sh_187) (by decide) (Nat.le_of_ble_eq_true rfl) gb (wn_iaload dX12_sure_271 (xsh hX sh_221) rfl (by omega) (by decide) v (wp_ireturn dX12_sure_272 rfl rfl ⟨rfl, xFl.rf S⟩)))))
  | succ j ih =>
    intro i S y3 y4 y5 y6 y7 y8 hi hX hD hB hV
    have hbx := hB.1 i (by omega)
    cases eb : B i with
    | false =>
      rw [eb] at hbx
      have nx := ih (i + 1) S y3 y4 y5 y6 y7 y8 (by omega) hX hD hB (fun m s k hg hm hx => by
        rcases Nat.lt_or_ge (xqt c m s k) i with w | w
        · exact hV m s k hg hm w
        · rw [show xqt c m s k = i by omega, eb] at hm; cases hm)
      refine wp_iload_n dX12_sure_49 rfl (wp_sipush (v := nI 16384) dX12_sure_50 rfl ?_)
      refine wn_icmp_ge dX12_sure_53 rfl (by omega) (by omega) (fun c53 => absurd c53 (by omega)) (fun c53 => ?_)
      refine wp_aload_n dX12_sure_56 rfl rfl (g11_355 dX12_sure_57 (xsh hX sh_187) (xrr hX r187_73) (wp_iload_n dX12_sure_60 rfl (wn_baload dX12_sure_61 (xsh hX sh_220) (Or.inr rfl) (by omega) (by decide) hbx ?_)))
      refine wb_if_ne dX12_sure_62 rfl (fun c62 => absurd c62 (by decide)) (fun c62 => ?_)
      exact wp_goto dX12_sure_65 rfl (wp_iinc dX12_sure_257 rfl (nI_1 _) ⟨Nat.le_of_ble_eq_true rfl, Or.inr rfl⟩ rfl (wp_goto dX12_sure_260 rfl nx))
    | true =>
      rw [eb] at hbx
      obtain ⟨m, s, k, rfl, hg⟩ := hB.2.1 i eb
      obtain ⟨_, _, _, q4, _⟩ := hg.b ho h8
      obtain ⟨S1, gw, f1, W1, k70, k63⟩ := m_walkState (d + 2) ho ha h8 (by decide) hg hX hD
      have X1 := f1.XC hX
      have hcl := hB.2.2.2 m s k hg eb
      have hq := xzq_lt (ex := 0) hg
      have hP : xgP (xzg c) ≤ 12 := ho.g.2.1
      have F1 : xFl (fun i q => (i = 187 ∧ 61 ≤ q ∧ q ≤ 70) ∨ i = 216 ∨ i = 220 ∨ i = 221) S S1 := f1.mono (fun i q h => by omega)
      have suc : ∀ b, b < xzw c k → xen c 0 m s k b = none → S1.2.1 221 (xqt c (xn1 c 0 m s k b) (xn2 c 0 m s k b) (k + 1)) = nI (xVu c 0 who (xn1 c 0 m s k b) (xn2 c 0 m s k b) (k + 1)) := fun b hb e => f1.i (hV _ _ _ (hg.nx ho e) (hcl b hb e) (xqt_lt ho h8 hg e)) (by omega)
      have go : ∀ (S2 : xS) (vv : Nat) (y3 y4 y5 y6 y7 y8 : Value), xFl (fun i q => i = 187 ∧ 64 ≤ q ∧ q ≤ 69) S1 S2 → xWk S2 c 0 m s k → vv = xVu c 0 who m s k → Wp false (d + 6) 11 cX12_sure (some .int) false 257 [.ref 187, .int (nI who), .int (nI (xqt c m s k)), y3, y4, y5, y6, y7, y8] [] (xSI S2 221 (xqt c m s k) (nI vv)) (fun r S' => r = some (.int (nI (xVu c 0 who (2 ^ xgH (xzg c) - 1) 0 0))) ∧ xFl (fun i q => (i = 187 ∧ 61 ≤ q ∧ q ≤ 70) ∨ i = 216 ∨ i = 220 ∨ i = 221) S S') := by
        intro S2 vv y3 y4 y5 y6 y7 y8 f2 W2 ev
        subst ev
        have F3 : xFl (fun i q => (i = 187 ∧ 61 ≤ q ∧ q ≤ 70) ∨ i = 216 ∨ (i = 221 ∧ q = xqt c m s k)) S (xSI S2 221 (xqt c m s k) (nI (xVu c 0 who m s k))) := ((f1.mono (fun i q h => by omega)).tt (f2.mono (fun i q h => by omega))).SI (Or.inr (Or.inr ⟨rfl, rfl⟩))
        have X3 := F3.XC hX
        have D3 := (W2.fr ho ((xFl.rf S2).SI (a := 221) (k := xqt c m s k) (v := nI (xVu c 0 who m s k)) (P := fun i _ => i = 221) rfl) (fun i q h => by omega)).2.1
        have nx := (ih (xqt c m s k + 1) _ y3 y4 y5 y6 y7 y8 (by omega) X3 D3 (hB.fr F3 (fun x h => by omega)) (fun m' s' k' hg' hm hx => by
          rcases Decidable.em (xqt c m' s' k' = xqt c m s k) with w | w
          · obtain ⟨rfl, rfl, rfl⟩ := xqt_inj ho h8 hg' hg w
            exact xI_same _ _ _ _
          · exact F3.i (hV m' s' k' hg' hm (by omega)) (by omega))).mono (Q' := (fun r S' => r = some (.int (nI (xVu c 0 who (2 ^ xgH (xzg c) - 1) 0 0))) ∧ xFl (fun i q => (i = 187 ∧ 61 ≤ q ∧ q ≤ 70) ∨ i = 216 ∨ i = 220 ∨ i = 221) S S')) (fun r S' z => ⟨z.1, (F3.mono (fun i q h => by omega)).tt z.2⟩)
        exact wp_iinc dX12_sure_257 rfl (nI_1 _) ⟨Nat.le_of_ble_eq_true rfl, Or.inr rfl⟩ rfl (wp_goto dX12_sure_260 rfl nx)
      cases hask : xzA c k with
      | true =>
        rw [hask] at gw
        have hw : xzw c k = c.2.2.2.1.length := by unfold xzw; rw [if_pos hask]
        rw [hw] at suc
        have eV : ∀ ow, ow = decide (xzq c 0 m s k = who) → (if ow = true then (if (xan (fun a => decide ((xvl c 0 (xEu c who) (xVu c 0 who) m s k a) = 1)) c.2.2.2.1.length) = true then 1 else 0) else (if (!(xan (fun a => decide ((xvl c 0 (xEu c who) (xVu c 0 who) m s k a) = 0)) c.2.2.2.1.length)) = true then 1 else 0)) = xVu c 0 who m s k := by
          intro ow how
          rw [show xVu c 0 who m s k = xJu c 0 who m s k (xvl c 0 (xEu c who) (xVu c 0 who) m s k) from xV_eq _ _ hg]
          unfold xJu
          rw [hask, if_pos rfl]
          rcases Decidable.em (xzq c 0 m s k = who) with w | w
          · rw [how, decide_eq_true w, if_pos rfl, if_pos w]
          · rw [how, decide_eq_false w, if_neg (by decide), if_neg w]
            show _ = if (xan (fun a => decide ((xvl c 0 (xEu c who) (xVu c 0 who) m s k a) = 0)) c.2.2.2.1.length) = true then 0 else 1 - 0
            cases (xan (fun a => decide ((xvl c 0 (xEu c who) (xVu c 0 who) m s k a) = 0)) c.2.2.2.1.length) <;> rfl
        have lp := fun ow (how : ow = decide (xzq c 0 m s k = who)) => su_in (d := d) (ow := ow) ho ha h8 hwho hg hask (Q := (fun r S' => r = some (.int (nI (xVu c 0 who (2 ^ xgH (xzg c) - 1) 0 0))) ∧ xFl (fun i q => (i = 187 ∧ 61 ≤ q ∧ q ≤ 70) ∨ i = 216 ∨ i = 220 ∨ i = 221) S S')) c.2.2.2.1.length 0 S1 y8 (Nat.zero_add _) W1 suc (fun S2 y7 y8 f2 W2 => su_wr q4 W2.1 (go S2 _ _ _ _ _ _ _ f2 W2 (eV ow how)))
        rcases Decidable.em (xzq c 0 m s k = who) with w | w
        · have lp1 := lp true (decide_eq_true w).symm
          refine wp_iload_n dX12_sure_49 rfl (wp_sipush (v := nI 16384) dX12_sure_50 rfl ?_)
          refine wn_icmp_ge dX12_sure_53 rfl (by omega) (by omega) (fun c53 => absurd c53 (by omega)) (fun c53 => ?_)
          refine wp_aload_n dX12_sure_56 rfl rfl (g11_355 dX12_sure_57 (xsh hX sh_187) (xrr hX r187_73) (wp_iload_n dX12_sure_60 rfl (wn_baload dX12_sure_61 (xsh hX sh_220) (Or.inr rfl) (by omega) (by decide) hbx ?_)))
          refine wb_if_ne dX12_sure_62 rfl (fun c62 => ?_) (fun c62 => absurd c62 (by decide))
          refine wp_aload_n dX12_sure_68 rfl rfl (wp_iload_n dX12_sure_69 rfl (wp_iv2 dX12_sure_70 k11_491 q_X12_walkState (by decide) (xsh hX sh_187) (by decide) (Nat.le_of_ble_eq_true rfl) gw (wp_istore_n dX12_sure_73 ⟨Nat.le_of_ble_eq_true rfl, Or.inr rfl⟩ rfl (wp_iconst (v := nI 0) dX12_sure_74 rfl (wp_istore dX12_sure_75 ⟨Nat.le_of_ble_eq_true rfl, Or.inr rfl⟩ rfl (wp_iconst (v := nI 1) dX12_sure_77 rfl (wp_istore dX12_sure_78 ⟨Nat.le_of_ble_eq_true rfl, Or.inr rfl⟩ rfl (wp_iload_n dX12_sure_80 rfl ?_))))))))
          refine wb_if_eq dX12_sure_81 rfl (fun c81 => absurd c81 (by decide)) (fun c81 => ?_)
          refine wp_aload_n dX12_sure_84 rfl rfl (gv11_421 dX12_sure_85 (xsh X1 sh_187) k63 (wp_iload_n dX12_sure_88 rfl ?_))
          refine wn_icmp_ne dX12_sure_89 rfl (by omega) (by omega) (fun c89 => absurd c89 (by omega)) (fun c89 => ?_)
          refine wp_iconst (v := nI 1) dX12_sure_92 rfl (wp_goto dX12_sure_93 rfl (wp_istore dX12_sure_97 ⟨Nat.le_of_ble_eq_true rfl, Or.inr rfl⟩ rfl (wp_iload_n dX12_sure_99 rfl ?_)))
          refine wb_if_eq dX12_sure_100 rfl (fun c100 => absurd c100 (by decide)) (fun c100 => ?_)
          exact wp_iconst (v := nI 0) dX12_sure_103 rfl (wp_goto dX12_sure_104 rfl (wp_istore dX12_sure_108 ⟨Nat.le_of_ble_eq_true rfl, Or.inr rfl⟩ rfl lp1))
        · have lp1 := lp false (decide_eq_false w).symm
          refine wp_iload_n dX12_sure_49 rfl (wp_sipush (v := nI 16384) dX12_sure_50 rfl ?_)
          refine wn_icmp_ge dX12_sure_53 rfl (by omega) (by omega) (fun c53 => absurd c53 (by omega)) (fun c53 => ?_)
          refine wp_aload_n dX12_sure_56 rfl rfl (g11_355 dX12_sure_57 (xsh hX sh_187) (xrr hX r187_73) (wp_iload_n dX12_sure_60 rfl (wn_baload dX12_sure_61 (xsh hX sh_220) (Or.inr rfl) (by omega) (by decide) hbx ?_)))
          refine wb_if_ne dX12_sure_62 rfl (fun c62 => ?_) (fun c62 => absurd c62 (by decide))
          refine wp_aload_n dX12_sure_68 rfl rfl (wp_iload_n dX12_sure_69 rfl (wp_iv2 dX12_sure_70 k11_491 q_X12_walkState (by decide) (xsh hX sh_187) (by decide) (Nat.le_of_ble_eq_true rfl) gw (wp_istore_n dX12_sure_73 ⟨Nat.le_of_ble_eq_true rfl, Or.inr rfl⟩ rfl (wp_iconst (v := nI 0) dX12_sure_74 rfl (wp_istore dX12_sure_75 ⟨Nat.le_of_ble_eq_true rfl, Or.inr rfl⟩ rfl (wp_iconst (v := nI 1) dX12_sure_77 rfl (wp_istore dX12_sure_78 ⟨Nat.le_of_ble_eq_true rfl, Or.inr rfl⟩ rfl (wp_iload_n dX12_sure_80 rfl ?_))))))))
          refine wb_if_eq dX12_sure_81 rfl (fun c81 => absurd c81 (by decide)) (fun c81 => ?_)
          refine wp_aload_n dX12_sure_84 rfl rfl (gv11_421 dX12_sure_85 (xsh X1 sh_187) k63 (wp_iload_n dX12_sure_88 rfl ?_))
          refine wn_icmp_ne dX12_sure_89 rfl (by omega) (by omega) (fun c89 => ?_) (fun c89 => absurd c89 (by omega))
          refine wp_iconst (v := nI 0) dX12_sure_96 rfl (wp_istore dX12_sure_97 ⟨Nat.le_of_ble_eq_true rfl, Or.inr rfl⟩ rfl (wp_iload_n dX12_sure_99 rfl ?_))
          refine wb_if_eq dX12_sure_100 rfl (fun c100 => absurd c100 (by decide)) (fun c100 => ?_)
          exact wp_iconst (v := nI 0) dX12_sure_103 rfl (wp_goto dX12_sure_104 rfl (wp_istore dX12_sure_108 ⟨Nat.le_of_ble_eq_true rfl, Or.inr rfl⟩ rfl lp1))
      | false =>
        rw [hask] at gw
        have hw : xzw c k = 1 := by unfold xzw; rw [hask, if_neg (by decide)]
        have le : (xvl c 0 (xEu c who) (xVu c 0 who) m s k 0) ≤ 1 := xvu_le
        have eV : (if false = true then (if (false || decide ((xvl c 0 (xEu c who) (xVu c 0 who) m s k 0) = 1)) = true then 1 else 0) else (if (true && decide ((xvl c 0 (xEu c who) (xVu c 0 who) m s k 0) = 1)) = true then 1 else 0)) = xVu c 0 who m s k := by
          rw [show xVu c 0 who m s k = xJu c 0 who m s k (xvl c 0 (xEu c who) (xVu c 0 who) m s k) from xV_eq _ _ hg]
          unfold xJu
          rw [hask, if_neg Bool.false_ne_true, if_neg Bool.false_ne_true, Bool.true_and]
          show (if decide ((xvl c 0 (xEu c who) (xVu c 0 who) m s k 0) = 1) = true then 1 else 0) = (xvl c 0 (xEu c who) (xVu c 0 who) m s k 0)
          rcases Decidable.em ((xvl c 0 (xEu c who) (xVu c 0 who) m s k 0) = 1) with w | w
          · rw [decide_eq_true w, if_pos rfl, w]
          · rw [decide_eq_false w, if_neg (by decide)]; omega
        have fm1 : (-1 : Int32) + Int32.ofInt 1 = nI 0 := by decide
        have nx := su_body (d := d) (a := 0) (av := -1) (is := false) (x4 := .int (xB false)) (x5 := .int (xB true)) (x6 := .int (xB false)) (y8 := y8) ho ha h8 hwho hg (Or.inr ⟨hask, rfl⟩) W1 (suc 0 (by omega)) (Q := (fun r S' => r = some (.int (nI (xVu c 0 who (2 ^ xgH (xzg c) - 1) 0 0))) ∧ xFl (fun i q => (i = 187 ∧ 61 ≤ q ∧ q ≤ 70) ∨ i = 216 ∨ i = 220 ∨ i = 221) S S')) (fun S2 f2 W2 => by
          refine su_upd (av2 := nI 0) fm1 ?_
          have X2 := W2.1
          have fin := su_wr (d := d) (is := false) (ow := false) (b1 := (false || decide ((xvl c 0 (xEu c who) (xVu c 0 who) m s k 0) = 1))) (b2 := (true && decide ((xvl c 0 (xEu c who) (xVu c 0 who) m s k 0) = 1))) (y7 := .int (nI 0)) (y8 := .int (xB (decide ((xvl c 0 (xEu c who) (xVu c 0 who) m s k 0) = 1)))) q4 X2 (go S2 _ _ _ _ _ _ _ f2 W2 eV)
          refine wp_iload dX12_sure_110 rfl (wp_iload_n dX12_sure_112 rfl ?_)
          refine wb_if_eq dX12_sure_113 rfl (fun c113 => ?_) (fun c113 => absurd c113 (by decide))
          refine wp_iconst (v := nI 0) dX12_sure_123 rfl ?_
          refine wn_icmp_ge dX12_sure_124 rfl (by omega) (by omega) (fun c124 => ?_) (fun c124 => absurd c124 (by omega))
          exact fin)
        refine wp_iload_n dX12_sure_49 rfl (wp_sipush (v := nI 16384) dX12_sure_50 rfl ?_)
        refine wn_icmp_ge dX12_sure_53 rfl (by omega) (by omega) (fun c53 => absurd c53 (by omega)) (fun c53 => ?_)
        refine wp_aload_n dX12_sure_56 rfl rfl (g11_355 dX12_sure_57 (xsh hX sh_187) (xrr hX r187_73) (wp_iload_n dX12_sure_60 rfl (wn_baload dX12_sure_61 (xsh hX sh_220) (Or.inr rfl) (by omega) (by decide) hbx ?_)))
        refine wb_if_ne dX12_sure_62 rfl (fun c62 => ?_) (fun c62 => absurd c62 (by decide))
        refine wp_aload_n dX12_sure_68 rfl rfl (wp_iload_n dX12_sure_69 rfl (wp_iv2 dX12_sure_70 k11_491 q_X12_walkState (by decide) (xsh hX sh_187) (by decide) (Nat.le_of_ble_eq_true rfl) gw (wp_istore_n dX12_sure_73 ⟨Nat.le_of_ble_eq_true rfl, Or.inr rfl⟩ rfl (wp_iconst (v := nI 0) dX12_sure_74 rfl (wp_istore dX12_sure_75 ⟨Nat.le_of_ble_eq_true rfl, Or.inr rfl⟩ rfl (wp_iconst (v := nI 1) dX12_sure_77 rfl (wp_istore dX12_sure_78 ⟨Nat.le_of_ble_eq_true rfl, Or.inr rfl⟩ rfl (wp_iload_n dX12_sure_80 rfl ?_))))))))
        refine wb_if_eq dX12_sure_81 rfl (fun c81 => ?_) (fun c81 => absurd c81 (by decide))
        refine wp_iconst (v := nI 0) dX12_sure_96 rfl (wp_istore dX12_sure_97 ⟨Nat.le_of_ble_eq_true rfl, Or.inr rfl⟩ rfl (wp_iload_n dX12_sure_99 rfl ?_))
        refine wb_if_eq dX12_sure_100 rfl (fun c100 => ?_) (fun c100 => absurd c100 (by decide))
        refine wp_iconst (v := -1) dX12_sure_107 rfl (wp_istore dX12_sure_108 ⟨Nat.le_of_ble_eq_true rfl, Or.inr rfl⟩ rfl ?_)
        refine wp_iload dX12_sure_110 rfl (wp_iload_n dX12_sure_112 rfl ?_)
        refine wb_if_eq dX12_sure_113 rfl (fun c113 => ?_) (fun c113 => absurd c113 (by decide))
        refine wp_iconst (v := nI 0) dX12_sure_123 rfl ?_
        refine wp_icmp_ge dX12_sure_124 rfl (fun c124 => absurd c124 (by decide)) (fun c124 => ?_)
        exact nx
theorem m_sure_no {c : xPx} {who : Int32} (d : Nat) (ho : xzo c) {S : xS} (h : xMS S c) (hno : ¬ (xzal c = true ∧ xgH (xzg c) ≤ 8 ∧ ∃ n, n < xgP (xzg c) ∧ who = nI n)) : ∃ S', xcall false (d + 7) j_X12_sure [.ref 187, .int who] S (some (.int (-1))) S' ∧ xFl (fun i k => (i = 187 ∧ (k = 0 ∨ (58 ≤ k ∧ k ≤ 70))) ∨ (212 ≤ i ∧ i ≤ 218) ∨ i = 220 ∨ i = 221) S S' := by
  have hX := h.1
  have F0 : xFl (fun i k => i = 187 ∧ k = 0) S (xSI S 187 0 (nI 0)) := (xFl.rf S).SI ⟨rfl, rfl⟩
  have h0 := h.fr F0 (fun i q w => by omega)
  obtain ⟨b, S1, g1, f1, hb, hD⟩ := m_mayPlay (see := nI 0) (d + 0) ho h0
  have X1 := f1.XC h0.1
  have hP : c.2.2.1.length ≤ 12 := ho.g.2.1
  have ppos := Nat.two_pow_pos (xgP (xzg c))
  have k30 := h.2.2.2.2.1.2.1
  have FA := (F0.mono (Q := (fun i k => (i = 187 ∧ (k = 0 ∨ (58 ≤ k ∧ k ≤ 70))) ∨ (212 ≤ i ∧ i ≤ 218) ∨ i = 220 ∨ i = 221)) (fun i k w => by omega)).tt (f1.mono (fun i k w => by omega))
  have FB := F0.mono (Q := (fun i k => (i = 187 ∧ (k = 0 ∨ (58 ≤ k ∧ k ≤ 70))) ∨ (212 ≤ i ∧ i ≤ 218) ∨ i = 220 ∨ i = 221)) (fun i k w => by omega)
  rcases Decidable.em (who < 0) with w | w
  · refine ⟨_, ?_, FB⟩
    refine xcall_intro (ls := [.ref 187, .int who, .float 0, .float 0, .float 0, .float 0, .float 0, .float 0, .float 0]) q_X12_sure (by decide) rfl (Nat.le_of_ble_eq_true rfl) rfl ?_
    refine wp_aload_n dX12_sure_0 rfl rfl (wp_iconst (v := nI 0) dX12_sure_1 rfl (p11_1 dX12_sure_2 (xsh hX sh_187) (wp_iload_n dX12_sure_5 rfl ?_)))
    refine wp_if_lt dX12_sure_6 rfl (fun c6 => ?_) (fun c6 => absurd c6 (not_not_intro w))
    exact wp_iconst (v := -1) dX12_sure_25 rfl (wp_ireturn dX12_sure_26 rfl rfl ⟨rfl, rfl⟩)
  · obtain ⟨p, hp, rfl⟩ := nI_of w
    rcases Nat.lt_or_ge p c.2.2.1.length with w2 | w2
    · have hb0 : b = false := by
        cases b with
        | false => rfl
        | true => exact absurd ⟨(hb.mp rfl).1, (hb.mp rfl).2.1, p, w2, rfl⟩ hno
      subst hb0
      refine ⟨_, ?_, FA⟩
      refine xcall_intro (ls := [.ref 187, .int (nI p), .float 0, .float 0, .float 0, .float 0, .float 0, .float 0, .float 0]) q_X12_sure (by decide) rfl (Nat.le_of_ble_eq_true rfl) rfl ?_
      refine wp_aload_n dX12_sure_0 rfl rfl (wp_iconst (v := nI 0) dX12_sure_1 rfl (p11_1 dX12_sure_2 (xsh hX sh_187) (wp_iload_n dX12_sure_5 rfl ?_)))
      refine wn_if_lt dX12_sure_6 rfl (by omega) ?_
      refine wp_iload_n dX12_sure_9 rfl (wp_aload_n dX12_sure_10 rfl rfl (gv11_183 dX12_sure_11 (xsh hX sh_187) (xi k30 (Or.inr (by decide))) ?_))
      refine wn_icmp_ge dX12_sure_14 rfl (by omega) (by omega) (fun c14 => absurd c14 (by omega)) (fun c14 => ?_)
      refine wp_aload_n dX12_sure_17 rfl rfl (wp_iconst (v := nI 0) dX12_sure_18 rfl (wp_iv2 dX12_sure_19 k11_509 q_X12_mayPlay (by decide) (xsh hX sh_187) (by decide) (Nat.le_of_ble_eq_true rfl) g1 ?_))
      refine wb_if_ne dX12_sure_22 rfl (fun c22 => absurd c22 (by decide)) (fun c22 => ?_)
      exact wp_iconst (v := -1) dX12_sure_25 rfl (wp_ireturn dX12_sure_26 rfl rfl ⟨rfl, rfl⟩)
    · refine ⟨_, ?_, FB⟩
      refine xcall_intro (ls := [.ref 187, .int (nI p), .float 0, .float 0, .float 0, .float 0, .float 0, .float 0, .float 0]) q_X12_sure (by decide) rfl (Nat.le_of_ble_eq_true rfl) rfl ?_
      refine wp_aload_n dX12_sure_0 rfl rfl (wp_iconst (v := nI 0) dX12_sure_1 rfl (p11_1 dX12_sure_2 (xsh hX sh_187) (wp_iload_n dX12_sure_5 rfl ?_)))
      refine wn_if_lt dX12_sure_6 rfl (by omega) ?_
      refine wp_iload_n dX12_sure_9 rfl (wp_aload_n dX12_sure_10 rfl rfl (gv11_183 dX12_sure_11 (xsh hX sh_187) (xi k30 (Or.inr (by decide))) ?_))
      refine wn_icmp_ge dX12_sure_14 rfl (by omega) (by omega) (fun c14 => ?_) (fun c14 => absurd c14 (by omega))
      exact wp_iconst (v := -1) dX12_sure_25 rfl (wp_ireturn dX12_sure_26 rfl rfl ⟨rfl, rfl⟩)
theorem m_sure {c : xPx} {n : Nat} (d : Nat) (ho : xzo c) {S : xS} (h : xMS S c) (ha : xzal c = true) (h8 : xgH (xzg c) ≤ 8) (hn : n < xgP (xzg c)) : ∃ S', xcall false (d + 7) j_X12_sure [.ref 187, .int (nI n)] S (some (.int (nI (if xovr (xzg c) (2 ^ xgH (xzg c) - 1) = true then 1 - c.1.1 7 else xVu c 0 n (2 ^ xgH (xzg c) - 1) 0 0)))) S' ∧ xFl (fun i k => (i = 187 ∧ (k = 0 ∨ (58 ≤ k ∧ k ≤ 70))) ∨ (212 ≤ i ∧ i ≤ 218) ∨ i = 220 ∨ i = 221) S S' := by
  have hX := h.1
  have F0 : xFl (fun i k => i = 187 ∧ k = 0) S (xSI S 187 0 (nI 0)) := (xFl.rf S).SI ⟨rfl, rfl⟩
  have h0 := h.fr F0 (fun i q w => by omega)
  obtain ⟨b, S1, g1, f1, hb, hD⟩ := m_mayPlay (see := nI 0) (d + 0) ho h0
  have X1 := f1.XC h0.1
  have hP : c.2.2.1.length ≤ 12 := ho.g.2.1
  have ppos := Nat.two_pow_pos (xgP (xzg c))
  have k30 := h.2.2.2.2.1.2.1
  have hb0 : b = true := hb.mpr ⟨ha, h8, 0, ppos, rfl⟩
  subst hb0
  have D1 := hD rfl
  have hn' : n < c.2.2.1.length := hn
  have go := m_isOverAtFirst (d + 6) ho X1 (D1.2.2.2.2.2.2.2.1.1 2 (by decide)) (D1.2.2.2.2.2.2.2.1.1 5 (by decide)) D1.2.2.2.2.2.2.2.2.1
  have l6 := D1.2.2.2.2.2.2.2.1.2
  have FA := (F0.mono (Q := (fun i k => (i = 187 ∧ (k = 0 ∨ (58 ≤ k ∧ k ≤ 70))) ∨ (212 ≤ i ∧ i ≤ 218) ∨ i = 220 ∨ i = 221)) (fun i k w => by omega)).tt (f1.mono (fun i k w => by omega))
  cases hov : xovr (xzg c) (2 ^ xgH (xzg c) - 1) with
  | true =>
    rw [hov] at go
    rw [if_pos rfl]
    refine ⟨S1, ?_, FA⟩
    refine xcall_intro (ls := [.ref 187, .int (nI n), .float 0, .float 0, .float 0, .float 0, .float 0, .float 0, .float 0]) q_X12_sure (by decide) rfl (Nat.le_of_ble_eq_true rfl) rfl ?_
    refine wp_aload_n dX12_sure_0 rfl rfl (wp_iconst (v := nI 0) dX12_sure_1 rfl (p11_1 dX12_sure_2 (xsh hX sh_187) (wp_iload_n dX12_sure_5 rfl ?_)))
    refine wn_if_lt dX12_sure_6 rfl (by omega) ?_
    refine wp_iload_n dX12_sure_9 rfl (wp_aload_n dX12_sure_10 rfl rfl (gv11_183 dX12_sure_11 (xsh hX sh_187) (xi k30 (Or.inr (by decide))) ?_))
    refine wn_icmp_ge dX12_sure_14 rfl (by omega) (by omega) (fun c14 => absurd c14 (by omega)) (fun c14 => ?_)
    refine wp_aload_n dX12_sure_17 rfl rfl (wp_iconst (v := nI 0) dX12_sure_18 rfl (wp_iv2 dX12_sure_19 k11_509 q_X12_mayPlay (by decide) (xsh hX sh_187) (by decide) (Nat.le_of_ble_eq_true rfl) g1 ?_))
    refine wb_if_ne dX12_sure_22 rfl (fun c22 => ?_) (fun c22 => absurd c22 (by decide))
    refine wp_aload_n dX12_sure_27 rfl rfl (wp_iv1 dX12_sure_28 k11_458 q_X12_isOverAtFirst (by decide) (xsh X1 sh_187) (by decide) (Nat.le_of_ble_eq_true rfl) go ?_)
    refine wb_if_eq dX12_sure_31 rfl (fun c31 => absurd c31 (by decide)) (fun c31 => ?_)
    exact wp_aload_n dX12_sure_34 rfl rfl (g11_272 dX12_sure_35 (xsh X1 sh_187) (xrr X1 r187_45) (wp_bipush (v := nI 6) dX12_sure_38 rfl (wn_iaload dX12_sure_40 (xsh X1 sh_208) rfl (by omega) (by decide) l6 (wp_ireturn dX12_sure_41 rfl rfl ⟨rfl, rfl⟩))))
  | false =>
    rw [hov] at go
    rw [if_neg (by decide)]
    obtain ⟨S2, g2, f2, B, hB⟩ := m_mark (d + 1) ho ha h8 (show 0 ≤ 1000 by decide) X1 D1
    have X2 := f2.XC X1
    have D2 := D1.fr ho f2 (fun i q h => by omega)
    have lp := su_loop (who := n) (d := d + 1) ho ha h8 (by omega) 16320 64 S2 (.float 0) (.float 0) (.float 0) (.float 0) (.float 0) (.float 0) rfl X2 D2 hB (fun m s k hg _ hx => by have := (hg.b ho h8).2.2.2.2; omega)
    obtain ⟨r, S', g3, rfl, z⟩ := xcall_some (al := false) (d := d + 7) (ls := [.ref 187, .int (nI n), .float 0, .float 0, .float 0, .float 0, .float 0, .float 0, .float 0]) (S := S) (as := [.ref 187, .int (nI n)]) q_X12_sure (by decide) rfl (Nat.le_of_ble_eq_true rfl) rfl (P := (fun r S' => r = some (.int (nI (xVu c 0 n (2 ^ xgH (xzg c) - 1) 0 0))) ∧ xFl (fun i q => (i = 187 ∧ 61 ≤ q ∧ q ≤ 70) ∨ i = 216 ∨ i = 220 ∨ i = 221) S2 S')) (by
        refine wp_aload_n dX12_sure_0 rfl rfl (wp_iconst (v := nI 0) dX12_sure_1 rfl (p11_1 dX12_sure_2 (xsh hX sh_187) (wp_iload_n dX12_sure_5 rfl ?_)))
        refine wn_if_lt dX12_sure_6 rfl (by omega) ?_
        refine wp_iload_n dX12_sure_9 rfl (wp_aload_n dX12_sure_10 rfl rfl (gv11_183 dX12_sure_11 (xsh hX sh_187) (xi k30 (Or.inr (by decide))) ?_))
        refine wn_icmp_ge dX12_sure_14 rfl (by omega) (by omega) (fun c14 => absurd c14 (by omega)) (fun c14 => ?_)
        refine wp_aload_n dX12_sure_17 rfl rfl (wp_iconst (v := nI 0) dX12_sure_18 rfl (wp_iv2 dX12_sure_19 k11_509 q_X12_mayPlay (by decide) (xsh hX sh_187) (by decide) (Nat.le_of_ble_eq_true rfl) g1 ?_))
        refine wb_if_ne dX12_sure_22 rfl (fun c22 => ?_) (fun c22 => absurd c22 (by decide))
        refine wp_aload_n dX12_sure_27 rfl rfl (wp_iv1 dX12_sure_28 k11_458 q_X12_isOverAtFirst (by decide) (xsh X1 sh_187) (by decide) (Nat.le_of_ble_eq_true rfl) go ?_)
        refine wb_if_eq dX12_sure_31 rfl (fun c31 => ?_) (fun c31 => absurd c31 (by decide))
        exact wp_aload_n dX12_sure_42 rfl rfl (wp_iv1 dX12_sure_43 k11_503 q_X12_mark (by decide) (xsh X1 sh_187) (by decide) (Nat.le_of_ble_eq_true rfl) g2 (wp_bipush (v := nI 64) dX12_sure_46 rfl (wp_istore_n dX12_sure_48 ⟨Nat.le_of_ble_eq_true rfl, Or.inr rfl⟩ rfl lp))))
    exact ⟨S', g3, (FA.tt (f2.mono (fun i k w => by omega))).tt (z.mono (fun i k w => by omega))⟩
