/-! A TEXT OF RULES: the class reads it -/
def xwh (t : Nat → Nat) (n p : Nat) : List (List Nat) → Nat → Option Nat
  | [], _ => none
  | w :: r, i => if xiw w n t p = true then some i else xwh t n p r (i + 1)
def xopt : Option Nat → Int32
  | none => -1
  | some r => nI r
theorem xwh_lt {t : Nat → Nat} {n p r : Nat} : ∀ (ws : List (List Nat)) (i : Nat), xwh t n p ws i = some r → i ≤ r ∧ r < i + ws.length
  | [], i, h => by cases h
  | w :: ws, i, h => by
    unfold xwh at h
    split at h
    · cases h; simp
    · have := xwh_lt ws (i + 1) h
      simp only [List.length_cons]
      omega
def xtxt {V : Type} (t : Nat → Nat) (n : Nat) (ws : List (List Nat)) (rule : Nat → Nat → V → Except (Nat × Nat) (Nat × V)) : Nat → Nat → Nat → Nat → V → Except (Nat × Nat) (Nat × V)
  | 0, _, _, _, _ => .error (0, 0)
  | f + 1, p, seen, c, v => if xtk t n p = 0 then .ok (c, v) else
    match xwh t n p ws 0 with
    | none => .error (xfh t n p)
    | some r => if seen.testBit r = true then .error (4, xts t n p) else
      match rule r (xta t n p) v with
      | .error e => .error e
      | .ok q => if xtk t n q.1 = 3 then xtxt t n ws rule f (xta t n q.1) (seen ||| 2 ^ r) (c + 1) q.2 else .error (xfh t n q.1)
/-- how many of the lowest m bits stand -/
def xcb (s : Nat) : Nat → Nat
  | 0 => 0
  | m + 1 => xcb s m + if s.testBit m = true then 1 else 0
theorem xcb_le (s : Nat) : ∀ m, xcb s m ≤ m
  | 0 => Nat.le_refl _
  | m + 1 => by
    have := xcb_le s m
    unfold xcb
    split <;> omega
theorem xcb_or {s r : Nat} (h : s.testBit r = false) : ∀ m, xcb (s ||| 2 ^ r) m = xcb s m + if r < m then 1 else 0
  | 0 => by simp [xcb]
  | m + 1 => by
    have ih := xcb_or h m
    unfold xcb
    rw [ih, Nat.testBit_or, Nat.testBit_two_pow]
    rcases Nat.lt_trichotomy r m with q | q | q
    · rw [if_pos q, if_pos (show r < m + 1 by omega), decide_eq_false (show ¬ r = m by omega), Bool.or_false]
      omega
    · subst q
      rw [h, if_neg (Nat.lt_irrefl _), if_pos (show r < r + 1 by omega), decide_eq_true rfl]
      rfl
    · rw [if_neg (show ¬ r < m by omega), if_neg (show ¬ r < m + 1 by omega), decide_eq_false (show ¬ r = m by omega), Bool.or_false, Nat.add_zero, Nat.add_zero]
theorem xcb_zero : ∀ m, xcb 0 m = 0
  | 0 => rfl
  | m + 1 => by unfold xcb; rw [xcb_zero m, Nat.zero_testBit]; rfl
/-- what a rule's reading by the class does -/
def xRO {V : Type} (VP : xS → V → Prop) (n : Nat) (t : Nat → Nat) (S' : xS) (b : Bool) (X : Except (Nat × Nat) (Nat × V)) : Prop :=
  (∀ e, X = .error e → b = false ∧ S'.2.1 3 5 = nI e.1 ∧ S'.2.1 3 2 = nI e.2) ∧
  (∀ p' v', X = .ok (p', v') → b = true ∧ S'.2.1 3 5 = nI 0 ∧ xTC S' n t p' ∧ VP S' v')
def xRT2 {V : Type} (VP : xS → V → Prop) (S' : xS) (k : Int32) (X : Except (Nat × Nat) (Nat × V)) : Prop :=
  (∀ e, X = .error e → k = -1 ∧ S'.2.1 3 5 = nI e.1 ∧ S'.2.1 3 2 = nI e.2) ∧
  (∀ c v', X = .ok (c, v') → k = nI c ∧ S'.2.1 3 5 = nI 0 ∧ VP S' v')
theorem read_loop {V : Type} {VP : xS → V → Prop} {PV : Nat → Nat → Prop} {rule : Nat → Nat → V → Except (Nat × Nat) (Nat × V)} {ws : List (List Nat)} {a oo nn q n jr most : Nat} {t : Nat → Nat} (d : Nat)
    (hPV : ∀ k, ¬ PV 3 k ∧ ¬ PV 2 k) (hVP : ∀ S S' P v, VP S v → xFl P S S' → (∀ i k, PV i k → ¬ P i k) → VP S' v)
    (hoo : oo = 7 ∨ oo = 9) (hjr : (if oo = 7 then 111 else 129) = jr) (hq : q < 9) (hws : ws.length = most) (hm8 : most ≤ 8)
    (hpk : ∀ p, xpick q n t p = xopt (xwh t n p ws 0))
    (hrule : ∀ r p v S, r < most → XC S → S.1[a]? = some (oo, nn) → xTx S n t → xTC S n t p → VP S v → S.2.1 3 5 = nI 0 → ∃ b S', xcall false (d + 3) jr [.ref a, .int (nI r), .ref 3] S (some (.int (xB b))) S' ∧ xFl (fun i k => PV i k ∨ (i = 3 ∧ 2 ≤ k)) S S' ∧ xRO VP n t S' b (rule r p v)) : ∀ (f p seen c : Nat) (v : V) (S : xS) (x : Value), f + c = most + 1 → c = xcb seen most → seen < 2 ^ most → XC S → S.1[a]? = some (oo, nn) → xTx S n t → xTC S n t p → VP S v → S.2.1 3 5 = nI 0 → Wp false (d + 3 + 1) 12 cX5_read (some .int) false 10 [.ref a, .ref 3, .retAddr q, .int (nI most), .int (nI seen), .int (nI c), x] [] S (fun r S' => ∃ k, r = some (.int k) ∧ xFl (fun i k => PV i k ∨ (i = 3 ∧ 2 ≤ k)) S S' ∧ xRT2 VP S' k (xtxt t n ws rule f p seen c v)) := by
  intro f
  induction f with
  | zero =>
    intro p seen c v S x hf hc
    have := xcb_le seen most
    omega
  | succ f ih =>
    intro p seen c v S x hf hc hseen hX hsa hT hC hV hF
    have hC0 := hC
    have hcm : c ≤ most := by have := xcb_le seen most; omega
    obtain ⟨hp, h2, h3, h4⟩ := hC
    have b4 := xtk_b t n p
    have hab := xta_b t hp
    have hs31 : seen < 2 ^ 31 := Nat.lt_of_lt_of_le hseen (Nat.pow_le_pow_right (by decide) (by omega))
    by_cases h0 : xtk t n p = 0
    · rw [show xtxt t n ws rule (f + 1) p seen c v = .ok (c, v) by rw [xtxt, if_pos h0]]
      refine wp_iload dX5_read_10 rfl (wp_iload_n dX5_read_12 rfl ?_)
      refine wn_icmp_gt dX5_read_13 rfl (by omega) (by omega) (fun c13 => absurd c13 (by omega)) (fun c13 => ?_)
      refine wp_aload_n dX5_read_16 rfl rfl (gv12_14 dX5_read_17 (xsh hX sh_3) h4 ?_)
      refine wn_if_ne dX5_read_20 rfl (by omega) (fun c20 => absurd c20 (by omega)) (fun c20 => ?_)
      exact wp_iload dX5_read_23 rfl (wp_ireturn dX5_read_25 rfl rfl ⟨_, rfl, xFl.rf S, fun e he => (by cases he), fun c' v' he => (by cases he; exact ⟨rfl, hF, hV⟩)⟩)
    · have EX : xtxt t n ws rule (f + 1) p seen c v = match xwh t n p ws 0 with
        | none => .error (xfh t n p)
        | some r => if seen.testBit r = true then .error (4, xts t n p) else
          match rule r (xta t n p) v with
          | .error e => .error e
          | .ok q => if xtk t n q.1 = 3 then xtxt t n ws rule f (xta t n q.1) (seen ||| 2 ^ r) (c + 1) q.2 else .error (xfh t n q.1) := by rw [xtxt, if_neg h0]
      rw [EX]
      have hk := hpk p
      cases hw : xwh t n p ws 0 with
      | none =>
        rw [hw] at hk
        have g := c_passRule_no d hX hT hC0 hq hs31 hk
        simp only []
        refine wp_iload dX5_read_10 rfl (wp_iload_n dX5_read_12 rfl ?_)
        refine wn_icmp_gt dX5_read_13 rfl (by omega) (by omega) (fun c13 => absurd c13 (by omega)) (fun c13 => ?_)
        refine wp_aload_n dX5_read_16 rfl rfl (gv12_14 dX5_read_17 (xsh hX sh_3) h4 ?_)
        refine wn_if_ne dX5_read_20 rfl (by omega) (fun c20 => ?_) (fun c20 => absurd c20 (by omega))
        refine wp_aload_n dX5_read_26 rfl rfl (wp_aload_n dX5_read_27 rfl rfl (wp_iload dX5_read_28 rfl (wp_iv3 dX5_read_30 k12_20 q_X7_passRule (by decide) (xsh hX sh_3) (by decide) (Nat.le_of_ble_eq_true rfl) g (wp_istore dX5_read_33 ⟨Nat.le_of_ble_eq_true rfl, Or.inr rfl⟩ rfl (wp_iload dX5_read_35 rfl (wp_iconst (v := -1) dX5_read_37 rfl ?_))))))
        refine wp_icmp_eq dX5_read_38 rfl (fun c38 => ?_) (fun c38 => absurd c38 (not_not_intro rfl))
        exact wp_iconst (v := -1) dX5_read_58 rfl (wp_ireturn dX5_read_59 rfl rfl ⟨_, rfl, (xFl.rf S).SI (a := 3) (k := 5) (Or.inr ⟨rfl, by decide⟩), fun e he => (by cases he; exact ⟨rfl, xI_same _ _ _ _, xi h2 (Or.inr (by decide))⟩), fun c' v' he => (by cases he)⟩)
      | some r =>
        rw [hw] at hk
        have hrl := xwh_lt ws 0 hw
        simp only []
        cases hb : seen.testBit r with
        | true =>
          have g := c_passRule_two d hX hT hC0 hq hs31 (r := r) (by omega) hk hb
          rw [if_pos rfl]
          refine wp_iload dX5_read_10 rfl (wp_iload_n dX5_read_12 rfl ?_)
          refine wn_icmp_gt dX5_read_13 rfl (by omega) (by omega) (fun c13 => absurd c13 (by omega)) (fun c13 => ?_)
          refine wp_aload_n dX5_read_16 rfl rfl (gv12_14 dX5_read_17 (xsh hX sh_3) h4 ?_)
          refine wn_if_ne dX5_read_20 rfl (by omega) (fun c20 => ?_) (fun c20 => absurd c20 (by omega))
          refine wp_aload_n dX5_read_26 rfl rfl (wp_aload_n dX5_read_27 rfl rfl (wp_iload dX5_read_28 rfl (wp_iv3 dX5_read_30 k12_20 q_X7_passRule (by decide) (xsh hX sh_3) (by decide) (Nat.le_of_ble_eq_true rfl) g (wp_istore dX5_read_33 ⟨Nat.le_of_ble_eq_true rfl, Or.inr rfl⟩ rfl (wp_iload dX5_read_35 rfl (wp_iconst (v := -1) dX5_read_37 rfl ?_))))))
          refine wp_icmp_eq dX5_read_38 rfl (fun c38 => ?_) (fun c38 => absurd c38 (not_not_intro rfl))
          exact wp_iconst (v := -1) dX5_read_58 rfl (wp_ireturn dX5_read_59 rfl rfl ⟨_, rfl, (xFl.rf S).SI (a := 3) (k := 5) (Or.inr ⟨rfl, by decide⟩), fun e he => (by cases he; exact ⟨rfl, xI_same _ _ _ _, xi h2 (Or.inr (by decide))⟩), fun c' v' he => (by cases he)⟩)
        | false =>
          obtain ⟨S1, g1, f1, t1⟩ := c_passRule_ok d hX hT hC0 hq hs31 (r := r) (by omega) hk hb
          have X1 := f1.XC hX
          have T1 := hT.fr f1 (by omega) (fun k => by omega)
          have F1 : xFl (fun i k => PV i k ∨ (i = 3 ∧ 2 ≤ k)) S S1 := f1.mono (fun i k h => Or.inr (by omega))
          obtain ⟨b2, S2, g2, f2, r2⟩ := hrule r (xta t n p) v S1 (by omega) X1 (f1.sh hsa) T1 t1 (hVP _ _ _ _ hV f1 (fun i k hi h => by have := (hPV k).1; rw [h.1] at hi; exact this hi)) (f1.i hF (by omega))
          have X2 := f2.XC X1
          have F2 := F1.tt f2
          rw [if_neg (by decide)]
          have K2 : xcb (seen ||| 2 ^ r) most = c + 1 := by rw [xcb_or hb, if_pos (by omega), ← hc]
          cases hR : rule r (xta t n p) v with
          | error e =>
            obtain ⟨rfl, e1, e2⟩ := r2.1 e hR
            simp only []
            refine wp_iload dX5_read_10 rfl (wp_iload_n dX5_read_12 rfl ?_)
            refine wn_icmp_gt dX5_read_13 rfl (by omega) (by omega) (fun c13 => absurd c13 (by omega)) (fun c13 => ?_)
            refine wp_aload_n dX5_read_16 rfl rfl (gv12_14 dX5_read_17 (xsh hX sh_3) h4 ?_)
            refine wn_if_ne dX5_read_20 rfl (by omega) (fun c20 => ?_) (fun c20 => absurd c20 (by omega))
            refine wp_aload_n dX5_read_26 rfl rfl (wp_aload_n dX5_read_27 rfl rfl (wp_iload dX5_read_28 rfl (wp_iv3 dX5_read_30 k12_20 q_X7_passRule (by decide) (xsh hX sh_3) (by decide) (Nat.le_of_ble_eq_true rfl) g1 (wp_istore dX5_read_33 ⟨Nat.le_of_ble_eq_true rfl, Or.inr rfl⟩ rfl (wp_iload dX5_read_35 rfl (wp_iconst (v := -1) dX5_read_37 rfl ?_))))))
            refine wp_icmp_eq dX5_read_38 rfl (fun c38 => absurd c38 (nI_m1 (by omega))) (fun c38 => ?_)
            refine wp_aload_n dX5_read_41 rfl rfl (wp_iload dX5_read_42 rfl (wp_aload_n dX5_read_44 rfl rfl (wp_iu3 dX5_read_45 k12_24 rfl q_X8_readRule hoo hjr (f1.sh hsa) (Nat.le_of_ble_eq_true rfl) g2 ?_)))
            refine wb_if_eq dX5_read_48 rfl (fun c48 => ?_) (fun c48 => absurd c48 (by decide))
            exact wp_iconst (v := -1) dX5_read_58 rfl (wp_ireturn dX5_read_59 rfl rfl ⟨_, rfl, F2, fun e he => (by cases he; exact ⟨rfl, e1, e2⟩), fun c' v' he => (by cases he)⟩)
          | ok q =>
            obtain ⟨p', v'⟩ := q
            obtain ⟨rfl, e1, e2, e3⟩ := r2.2 p' v' hR
            have T2 := hT.fr F2 (fun h => h.elim (hPV 1).1 (by omega)) (fun k h => h.elim (hPV k).2 (by omega))
            simp only []
            by_cases h3 : xtk t n p' = 3
            · rw [if_pos h3]
              obtain ⟨S3, g3, f3, t3⟩ := c_passStop (d + 1) X2 T2 e2 h3
              have X3 := f3.XC X2
              have F3 : xFl (fun i k => PV i k ∨ (i = 3 ∧ 2 ≤ k)) S S3 := F2.tt (f3.mono (fun i k h => Or.inr (by omega)))
              have hr30 : 2 ^ r ≤ 2 ^ 8 := Nat.pow_le_pow_right (by decide) (by omega)
              refine wp_iload dX5_read_10 rfl (wp_iload_n dX5_read_12 rfl ?_)
              refine wn_icmp_gt dX5_read_13 rfl (by omega) (by omega) (fun c13 => absurd c13 (by omega)) (fun c13 => ?_)
              refine wp_aload_n dX5_read_16 rfl rfl (gv12_14 dX5_read_17 (xsh hX sh_3) h4 ?_)
              refine wn_if_ne dX5_read_20 rfl (by omega) (fun c20 => ?_) (fun c20 => absurd c20 (by omega))
              refine wp_aload_n dX5_read_26 rfl rfl (wp_aload_n dX5_read_27 rfl rfl (wp_iload dX5_read_28 rfl (wp_iv3 dX5_read_30 k12_20 q_X7_passRule (by decide) (xsh hX sh_3) (by decide) (Nat.le_of_ble_eq_true rfl) g1 (wp_istore dX5_read_33 ⟨Nat.le_of_ble_eq_true rfl, Or.inr rfl⟩ rfl (wp_iload dX5_read_35 rfl (wp_iconst (v := -1) dX5_read_37 rfl ?_))))))
              refine wp_icmp_eq dX5_read_38 rfl (fun c38 => absurd c38 (nI_m1 (by omega))) (fun c38 => ?_)
              refine wp_aload_n dX5_read_41 rfl rfl (wp_iload dX5_read_42 rfl (wp_aload_n dX5_read_44 rfl rfl (wp_iu3 dX5_read_45 k12_24 rfl q_X8_readRule hoo hjr (f1.sh hsa) (Nat.le_of_ble_eq_true rfl) g2 ?_)))
              refine wb_if_eq dX5_read_48 rfl (fun c48 => absurd c48 (by decide)) (fun c48 => ?_)
              refine wp_aload_n dX5_read_51 rfl rfl (wp_iv1 dX5_read_52 k12_28 q_X7_passStop (by decide) (xsh X2 sh_3) (by decide) (Nat.le_of_ble_eq_true rfl) g3 ?_)
              refine wb_if_ne dX5_read_55 rfl (fun c55 => ?_) (fun c55 => absurd c55 (by decide))
              refine wp_iload dX5_read_60 rfl (wp_iconst (v := nI 1) dX5_read_62 rfl (wp_iload dX5_read_63 rfl (wv_ishl dX5_read_65 (xsh1 (by omega)) (wv_ior dX5_read_66 (fa_or _ _) (wp_istore dX5_read_67 ⟨Nat.le_of_ble_eq_true rfl, Or.inr rfl⟩ rfl (wp_iinc dX5_read_69 rfl (nI_1 _) ⟨Nat.le_of_ble_eq_true rfl, Or.inr rfl⟩ rfl (wp_goto dX5_read_72 rfl ?_)))))))
              refine (ih (xta t n p') (seen ||| 2 ^ r) (c + 1) v' S3 _ (by omega) K2.symm (Nat.or_lt_two_pow hseen (Nat.pow_lt_pow_right (by decide) (by omega))) X3 (F3.sh hsa) (T2.fr f3 (by omega) (fun k => by omega)) t3 (hVP _ _ _ _ e3 f3 (fun i k hi h => by have := (hPV k).1; rw [h.1] at hi; exact this hi)) (f3.i e1 (by omega))).mono ?_
              rintro r' S' ⟨k, q1, q2, q3⟩
              exact ⟨k, q1, F3.tt q2, q3⟩
            · rw [if_neg h3]
              have g3 := c_passStop_no (d + 1) X2 e2 h3
              refine wp_iload dX5_read_10 rfl (wp_iload_n dX5_read_12 rfl ?_)
              refine wn_icmp_gt dX5_read_13 rfl (by omega) (by omega) (fun c13 => absurd c13 (by omega)) (fun c13 => ?_)
              refine wp_aload_n dX5_read_16 rfl rfl (gv12_14 dX5_read_17 (xsh hX sh_3) h4 ?_)
              refine wn_if_ne dX5_read_20 rfl (by omega) (fun c20 => ?_) (fun c20 => absurd c20 (by omega))
              refine wp_aload_n dX5_read_26 rfl rfl (wp_aload_n dX5_read_27 rfl rfl (wp_iload dX5_read_28 rfl (wp_iv3 dX5_read_30 k12_20 q_X7_passRule (by decide) (xsh hX sh_3) (by decide) (Nat.le_of_ble_eq_true rfl) g1 (wp_istore dX5_read_33 ⟨Nat.le_of_ble_eq_true rfl, Or.inr rfl⟩ rfl (wp_iload dX5_read_35 rfl (wp_iconst (v := -1) dX5_read_37 rfl ?_))))))
              refine wp_icmp_eq dX5_read_38 rfl (fun c38 => absurd c38 (nI_m1 (by omega))) (fun c38 => ?_)
              refine wp_aload_n dX5_read_41 rfl rfl (wp_iload dX5_read_42 rfl (wp_aload_n dX5_read_44 rfl rfl (wp_iu3 dX5_read_45 k12_24 rfl q_X8_readRule hoo hjr (f1.sh hsa) (Nat.le_of_ble_eq_true rfl) g2 ?_)))
              refine wb_if_eq dX5_read_48 rfl (fun c48 => absurd c48 (by decide)) (fun c48 => ?_)
              refine wp_aload_n dX5_read_51 rfl rfl (wp_iv1 dX5_read_52 k12_28 q_X7_passStop (by decide) (xsh X2 sh_3) (by decide) (Nat.le_of_ble_eq_true rfl) g3 ?_)
              refine wb_if_ne dX5_read_55 rfl (fun c55 => absurd c55 (by decide)) (fun c55 => ?_)
              exact wp_iconst (v := -1) dX5_read_58 rfl (wp_ireturn dX5_read_59 rfl rfl ⟨_, rfl, F2.SI (a := 3) (k := 5) (Or.inr ⟨rfl, by decide⟩), fun e he => (by cases he; exact ⟨rfl, xI_same _ _ _ _, xi e2.2.1 (Or.inr (by decide))⟩), fun c' v' he => (by cases he)⟩)
theorem c_read {V : Type} {VP : xS → V → Prop} {PV : Nat → Nat → Prop} {rule : Nat → Nat → V → Except (Nat × Nat) (Nat × V)} {ws : List (List Nat)} {a oo nn q n jr js most : Nat} {t : Nat → Nat} (d : Nat)
    (hPV : ∀ k, ¬ PV 3 k ∧ ¬ PV 2 k) (hVP : ∀ S S' P v, VP S v → xFl P S S' → (∀ i k, PV i k → ¬ P i k) → VP S' v)
    (hoo : oo = 7 ∨ oo = 9) (hjr : (if oo = 7 then 111 else 129) = jr) (hq : q < 9) (hws : ws.length = most) (hm8 : most ≤ 8)
    (hpk : ∀ p, xpick q n t p = xopt (xwh t n p ws 0))
    (hjs : (if oo = 7 then 110 else 128) = js) (hnq : nn = nn)
    (hrule : ∀ r p v S, r < most → XC S → S.1[a]? = some (oo, nn) → xTx S n t → xTC S n t p → VP S v → S.2.1 3 5 = nI 0 → ∃ b S', xcall false (d + 3) jr [.ref a, .int (nI r), .ref 3] S (some (.int (xB b))) S' ∧ xFl (fun i k => PV i k ∨ (i = 3 ∧ 2 ≤ k)) S S' ∧ xRO VP n t S' b (rule r p v)) {S S0 : xS} {v0 : V} (hX : XC S) (hsa : S.1[a]? = some (oo, nn)) (hT : xTx S n t) (hC : xTC S n t 0) (hF : S.2.1 3 5 = nI 0) (hreset : xcall false (d + 3) js [.ref a] S none S0) (hf0 : xFl PV S S0) (hV0 : VP S0 v0) : ∃ k S', xcall false (d + 3 + 1) j_X5_read [.ref a, .ref 3, .retAddr q, .int (nI most)] S (some (.int k)) S' ∧ xFl (fun i k => PV i k ∨ (i = 3 ∧ 2 ≤ k)) S S' ∧ xRT2 VP S' k (xtxt t n ws rule (most + 1) 0 0 0 v0) := by
  have X0 := hf0.XC hX
  have F0 : xFl (fun i k => PV i k ∨ (i = 3 ∧ 2 ≤ k)) S S0 := hf0.mono (fun i k h => Or.inl h)
  obtain ⟨r, S', h1, k, h2, h3, h4⟩ := xcall_some (al := false) (d := d + 3 + 1) (ls := [.ref a, .ref 3, .retAddr q, .int (nI most), .float 0, .float 0, .float 0]) (S := S) (as := [.ref a, .ref 3, .retAddr q, .int (nI most)]) q_X5_read (by decide) rfl (Nat.le_of_ble_eq_true rfl) rfl
    (P := fun r S' => ∃ k, r = some (.int k) ∧ xFl (fun i k => PV i k ∨ (i = 3 ∧ 2 ≤ k)) S S' ∧ xRT2 VP S' k (xtxt t n ws rule (most + 1) 0 0 0 v0)) (by
      refine wp_aload_n dX5_read_0 rfl rfl (wp_iu1 dX5_read_1 k12_9 rfl q_X8_reset hoo hjs hsa (Nat.le_of_ble_eq_true rfl) hreset (wp_iconst (v := nI 0) dX5_read_4 rfl (wp_istore dX5_read_5 ⟨Nat.le_of_ble_eq_true rfl, Or.inr rfl⟩ rfl (wp_iconst (v := nI 0) dX5_read_7 rfl (wp_istore dX5_read_8 ⟨Nat.le_of_ble_eq_true rfl, Or.inr rfl⟩ rfl ?_)))))
      refine (read_loop d hPV hVP hoo hjr hq hws hm8 hpk hrule (most + 1) 0 0 0 v0 S0 _ rfl (xcb_zero most).symm (Nat.two_pow_pos most) X0 (hf0.sh hsa) (hT.fr hf0 (hPV 1).1 (fun k => (hPV k).2)) (hC.fr hf0 (hPV 2).1 (hPV 3).1 (hPV 4).1) hV0 (hf0.i hF (hPV 5).1)).mono ?_
      rintro r' S' ⟨k, q1, q2, q3⟩
      exact ⟨k, q1, F0.tt q2, q3⟩)
  subst h2
  exact ⟨k, S', h1, h3, h4⟩
