/-! records of the class: isRecord, holds, explain, the calls -/
def xRG (S : xS) (c : xPx) : Prop := xRC S (xzg c) ∧ S.2.1 74 15 = xB (xzb c) ∧ xNb S (xznb c) c.2.2.1.length ∧ xAl S (xza c) c.2.2.2.1.length
theorem xRG.fr {S S' : xS} {c : xPx} {P : Nat → Nat → Prop} (h : xRG S c) (hf : xFl P S S') (hn : ∀ i k, ((i = 74 ∧ (k = 5 ∨ 10 ≤ k)) ∨ i = 77 ∨ i = 78) → ¬ P i k) : xRG S' c := ⟨h.1.fr hf (fun k w => hn _ _ (by omega)), hf.i h.2.1 (hn _ _ (by omega)), h.2.2.1.fr hf (fun k => hn _ _ (by omega)), h.2.2.2.fr hf (fun i k w => hn _ _ (by omega))⟩
theorem c_isRecord {c : xPx} {n : Nat} {t : Nat → Nat} (d : Nat) (ho : xzo c) {S : xS} (h : xCS S c) (hT : xTb S n t) : xcall false (d + 1) j_X11_isRecord [.ref 0, .int (nI n)] S (some (.int (xB (decide (n ≤ 24 ∧ ∀ k, k < n → t k < xgP (xzg c)))))) S := by
  obtain ⟨y, yb, yc, a, b, c', e, a2, b2, c2, e2, ρ, h1, h2, h3, h4, hX, h6, h7, h8, h9, h10, h11, h12, h13, h14⟩ := h
  have hP : c.2.2.1.length ≤ 12 := ho.2.1.2.1
  have ha := (h2.sh hX).1
  have ka := h12.1
  have h260 := hT.1
  have gb := c_isBelow (b := c.2.2.1.length) hX hT (by omega) d
  rcases Nat.lt_or_ge 24 n with w | w
  · rw [decide_eq_false (fun q => by omega)]
    refine xcall_intro (ls := [.ref 0, .int (nI n)]) q_X11_isRecord (by decide) rfl (Nat.le_of_ble_eq_true rfl) rfl ?_
    refine wp_iload_n dX11_isRecord_0 rfl (wp_bipush (v := nI 24) dX11_isRecord_1 rfl ?_)
    refine wn_icmp_gt dX11_isRecord_3 rfl (by omega) (by omega) (fun c3 => ?_) (fun c3 => absurd c3 (by omega))
    exact wp_iconst (v := nI 0) dX11_isRecord_28 rfl (wb_ret dX11_isRecord_29 rfl rfl ⟨rfl, rfl⟩)
  · rcases Decidable.em (∀ k, k < n → t k < c.2.2.1.length) with w2 | w2
    · rw [show decide (n ≤ 24 ∧ ∀ k, k < n → t k < xgP (xzg c)) = true from decide_eq_true ⟨w, w2⟩]
      rw [decide_eq_true w2] at gb
      refine xcall_intro (ls := [.ref 0, .int (nI n)]) q_X11_isRecord (by decide) rfl (Nat.le_of_ble_eq_true rfl) rfl ?_
      refine wp_iload_n dX11_isRecord_0 rfl (wp_bipush (v := nI 24) dX11_isRecord_1 rfl ?_)
      refine wn_icmp_gt dX11_isRecord_3 rfl (by omega) (by omega) (fun c3 => absurd c3 (by omega)) (fun c3 => ?_)
      refine wp_aload_n dX11_isRecord_6 rfl rfl (g10_10 dX11_isRecord_7 (xsh hX sh_0) (xrr hX r0_0) (wp_iload_n dX11_isRecord_10 rfl (wp_aload_n dX11_isRecord_11 rfl rfl (g10_57 dX11_isRecord_12 (xsh hX sh_0) h7 (gv10_152 dX11_isRecord_15 ha ka (wp_iv3 dX11_isRecord_18 k10_198 q_X6_isBelow (by decide) (xsh hX sh_1) (by decide) (Nat.le_of_ble_eq_true rfl) gb ?_))))))
      refine wb_if_eq dX11_isRecord_21 rfl (fun c21 => absurd c21 (by decide)) (fun c21 => ?_)
      exact wp_iconst (v := nI 1) dX11_isRecord_24 rfl (wp_goto dX11_isRecord_25 rfl (wb_ret dX11_isRecord_29 rfl rfl ⟨rfl, rfl⟩))
    · rw [show decide (n ≤ 24 ∧ ∀ k, k < n → t k < xgP (xzg c)) = false from decide_eq_false (fun q => w2 q.2)]
      rw [decide_eq_false w2] at gb
      refine xcall_intro (ls := [.ref 0, .int (nI n)]) q_X11_isRecord (by decide) rfl (Nat.le_of_ble_eq_true rfl) rfl ?_
      refine wp_iload_n dX11_isRecord_0 rfl (wp_bipush (v := nI 24) dX11_isRecord_1 rfl ?_)
      refine wn_icmp_gt dX11_isRecord_3 rfl (by omega) (by omega) (fun c3 => absurd c3 (by omega)) (fun c3 => ?_)
      refine wp_aload_n dX11_isRecord_6 rfl rfl (g10_10 dX11_isRecord_7 (xsh hX sh_0) (xrr hX r0_0) (wp_iload_n dX11_isRecord_10 rfl (wp_aload_n dX11_isRecord_11 rfl rfl (g10_57 dX11_isRecord_12 (xsh hX sh_0) h7 (gv10_152 dX11_isRecord_15 ha ka (wp_iv3 dX11_isRecord_18 k10_198 q_X6_isBelow (by decide) (xsh hX sh_1) (by decide) (Nat.le_of_ble_eq_true rfl) gb ?_))))))
      refine wb_if_eq dX11_isRecord_21 rfl (fun c21 => ?_) (fun c21 => absurd c21 (by decide))
      exact wp_iconst (v := nI 0) dX11_isRecord_28 rfl (wb_ret dX11_isRecord_29 rfl rfl ⟨rfl, rfl⟩)
theorem c_holds_no {c : xPx} {n : Nat} {t : Nat → Nat} (d : Nat) (ho : xzo c) {S : xS} (h : xCS S c) (hn : S.2.1 1 1 = nI n) (hT : xTb S n t) (hno : ¬ (xzal c = true ∧ xgH (xzg c) ≤ 8 ∧ n ≤ 24 ∧ ∀ k, k < n → t k < xgP (xzg c))) : ∃ S', xcall false (d + 6) j_X11_holds [.ref 0] S (some (.int (-1))) S' ∧ xFl (fun i q => (i = 1 ∧ q = 1) ∨ i = 74 ∨ (76 ≤ i ∧ i ≤ 130)) S S' ∧ S'.2.1 1 1 = nI 0 := by
  have hX := h.X
  have F0 : xFl (fun i k => i = 1 ∧ k = 1) S (xSI S 1 1 (nI 0)) := (xFl.rf S).SI ⟨rfl, rfl⟩
  have X0 := F0.XC hX
  have gt := c_take hX hn (d + 5)
  have T0 := hT.fr F0 (fun k h => by omega)
  have h0 := h.fr F0 (fun i q w1 w2 => by omega)
  obtain ⟨b, S1, g1, f1, hb, hD⟩ := c_isGameReady (d + 0) ho h0
  have X1 := f1.XC X0
  have h1 := h0.fr f1 (fun i q w1 w2 => by omega)
  refine ⟨S1, ?_, (F0.mono (fun i k w => by omega)).tt (f1.mono (fun i k w => by omega)), f1.i (xI_same _ _ _ _) (by omega)⟩
  cases b with
  | false =>
    refine xcall_intro (ls := [.ref 0, .float 0]) q_X11_holds (by decide) rfl (Nat.le_of_ble_eq_true rfl) rfl ?_
    refine wp_aload_n dX11_holds_0 rfl rfl (g10_10 dX11_holds_1 (xsh hX sh_0) (xrr hX r0_0) (wp_iv1 dX11_holds_4 k10_107 q_X6_take (by decide) (xsh hX sh_1) (by decide) (Nat.le_of_ble_eq_true rfl) gt (wp_istore_n dX11_holds_7 ⟨Nat.le_of_ble_eq_true rfl, Or.inr rfl⟩ rfl (wp_aload_n dX11_holds_8 rfl rfl (wp_iv1 dX11_holds_9 k10_236 q_X11_isGameReady (by decide) (xsh X0 sh_0) (by decide) (Nat.le_of_ble_eq_true rfl) g1 ?_)))))
    refine wb_if_eq dX11_holds_12 rfl (fun c12 => ?_) (fun c12 => absurd c12 (by decide))
    exact wp_iconst (v := -1) dX11_holds_23 rfl (wp_ireturn dX11_holds_24 rfl rfl ⟨rfl, rfl⟩)
  | true =>
    have gr := c_isRecord (n := n) (d + 4) ho h1 (T0.fr f1 (fun k h => by omega))
    rw [decide_eq_false (fun q => hno ⟨(hb.mp rfl).1, (hb.mp rfl).2, q.1, q.2⟩)] at gr
    refine xcall_intro (ls := [.ref 0, .float 0]) q_X11_holds (by decide) rfl (Nat.le_of_ble_eq_true rfl) rfl ?_
    refine wp_aload_n dX11_holds_0 rfl rfl (g10_10 dX11_holds_1 (xsh hX sh_0) (xrr hX r0_0) (wp_iv1 dX11_holds_4 k10_107 q_X6_take (by decide) (xsh hX sh_1) (by decide) (Nat.le_of_ble_eq_true rfl) gt (wp_istore_n dX11_holds_7 ⟨Nat.le_of_ble_eq_true rfl, Or.inr rfl⟩ rfl (wp_aload_n dX11_holds_8 rfl rfl (wp_iv1 dX11_holds_9 k10_236 q_X11_isGameReady (by decide) (xsh X0 sh_0) (by decide) (Nat.le_of_ble_eq_true rfl) g1 ?_)))))
    refine wb_if_eq dX11_holds_12 rfl (fun c12 => absurd c12 (by decide)) (fun c12 => ?_)
    refine wp_aload_n dX11_holds_15 rfl rfl (wp_iload_n dX11_holds_16 rfl (wp_iv2 dX11_holds_17 k10_295 q_X11_isRecord (by decide) (xsh X1 sh_0) (by decide) (Nat.le_of_ble_eq_true rfl) gr ?_))
    refine wb_if_ne dX11_holds_20 rfl (fun c20 => absurd c20 (by decide)) (fun c20 => ?_)
    exact wp_iconst (v := -1) dX11_holds_23 rfl (wp_ireturn dX11_holds_24 rfl rfl ⟨rfl, rfl⟩)
theorem c_holds {c : xPx} {n : Nat} {t : Nat → Nat} (d : Nat) (ho : xzo c) {S : xS} (h : xCS S c) (hn : S.2.1 1 1 = nI n) (hT : xTb S n t) {N : Nat} (ha : xzal c = true) (h8 : xgH (xzg c) ≤ 8) (h24 : n ≤ 24) (hlt : ∀ k, k < n → t k < xgP (xzg c)) (hN : xNw S N) (hNb : N < 2 ^ 28) : ∃ v S', xcall false (d + 6) j_X11_holds [.ref 0] S (some (.int (nI v))) S' ∧ xFl (fun i q => (i = 1 ∧ q = 1) ∨ (i = 73 ∧ q = 3) ∨ i = 74 ∨ (76 ≤ i ∧ i ≤ 131)) S S' ∧ S'.2.1 1 1 = nI 0 ∧ xNw S' (N + 1) ∧ v ≤ n ∧ xHT c t n v := by
  have hX := h.X
  have F0 : xFl (fun i k => i = 1 ∧ k = 1) S (xSI S 1 1 (nI 0)) := (xFl.rf S).SI ⟨rfl, rfl⟩
  have X0 := F0.XC hX
  have gt := c_take hX hn (d + 5)
  have T0 := hT.fr F0 (fun k h => by omega)
  have h0 := h.fr F0 (fun i q w1 w2 => by omega)
  obtain ⟨b, S1, g1, f1, hb, hD⟩ := c_isGameReady (d + 0) ho h0
  have X1 := f1.XC X0
  have h1 := h0.fr f1 (fun i q w1 w2 => by omega)
  have hb0 : b = true := hb.mpr ⟨ha, h8⟩
  subst hb0
  have gr := c_isRecord (n := n) (d + 4) ho h1 (T0.fr f1 (fun k h => by omega))
  rw [decide_eq_true ⟨h24, hlt⟩] at gr
  obtain ⟨v, S2, g2, f2, n2, hv, hht⟩ := c_follow (d + 0) ho ha h8 (by omega) X1 (hD rfl) (T0.fr f1 (fun k h => by omega)) ((hN.fr F0 ⟨by omega, fun x => by omega⟩).fr f1 ⟨by omega, fun x => by omega⟩)
  refine ⟨v, S2, ?_, ((F0.mono (fun i k w => by omega)).tt (f1.mono (fun i k w => by omega))).tt (f2.mono (fun i k w => by omega)), f2.i (f1.i (xI_same _ _ _ _) (by omega)) (by omega), n2, hv, hht⟩
  refine xcall_intro (ls := [.ref 0, .float 0]) q_X11_holds (by decide) rfl (Nat.le_of_ble_eq_true rfl) rfl ?_
  refine wp_aload_n dX11_holds_0 rfl rfl (g10_10 dX11_holds_1 (xsh hX sh_0) (xrr hX r0_0) (wp_iv1 dX11_holds_4 k10_107 q_X6_take (by decide) (xsh hX sh_1) (by decide) (Nat.le_of_ble_eq_true rfl) gt (wp_istore_n dX11_holds_7 ⟨Nat.le_of_ble_eq_true rfl, Or.inr rfl⟩ rfl (wp_aload_n dX11_holds_8 rfl rfl (wp_iv1 dX11_holds_9 k10_236 q_X11_isGameReady (by decide) (xsh X0 sh_0) (by decide) (Nat.le_of_ble_eq_true rfl) g1 ?_)))))
  refine wb_if_eq dX11_holds_12 rfl (fun c12 => absurd c12 (by decide)) (fun c12 => ?_)
  refine wp_aload_n dX11_holds_15 rfl rfl (wp_iload_n dX11_holds_16 rfl (wp_iv2 dX11_holds_17 k10_295 q_X11_isRecord (by decide) (xsh X1 sh_0) (by decide) (Nat.le_of_ble_eq_true rfl) gr ?_))
  refine wb_if_ne dX11_holds_20 rfl (fun c20 => ?_) (fun c20 => absurd c20 (by decide))
  exact wp_aload_n dX11_holds_25 rfl rfl (g10_74 dX11_holds_26 (xsh X1 sh_0) (xrr X1 r0_15) (wp_aload_n dX11_holds_29 rfl rfl (g10_10 dX11_holds_30 (xsh X1 sh_0) (xrr X1 r0_0) (g10_104 dX11_holds_33 (xsh X1 sh_1) (xrr X1 r1_0) (wp_iload_n dX11_holds_36 rfl (wp_iv3 dX11_holds_37 k10_298 q_X2_follow (by decide) (xsh X1 sh_73) (by decide) (Nat.le_of_ble_eq_true rfl) g2 (wp_ireturn dX11_holds_40 rfl rfl ⟨rfl, rfl⟩)))))))
theorem xRD_one {S : xS} {c : xPx} {s n : Nat} {t : Nat → Nat} {L : List xLn} (hx : c.2.2.2.2 s = some (n, t, L)) (hG : xRG S c) (h2 : S.2.1 74 2 = nI 1) (h76 : S.2.1 76 0 = nI s) (hC : xCh (106 + 4 * s) S (xct c.2.1 t (xzb c)) (xzb c) L 0) : xRD S (xone c s) 0 := by
  refine ⟨hG.1, hG.2.2.1, hG.2.2.2, h2, fun i hi => ?_, fun i hi => ?_⟩
  · have hi' : i < 1 := hi
    rw [show i = 0 by omega]
    exact h76
  · have hi' : i < 1 := hi
    rw [show i = 0 by omega]
    show xCh (106 + 4 * s) S (xzx (xone c s) s) (xzb c) (xzr (xone c s) s).2 _
    have e2 : xzr (xone c s) s = (t, L) := by unfold xzr; rw [show (xone c s).2.2.2.2 s = some (n, t, L) from hx]
    unfold xzx
    rw [e2, ite_self]
    exact hC
theorem cex_loop {c : xPx} {t : Nat → Nat} {n d N9 : Nat} (ho : xzo c) (h8 : xgH (xzg c) ≤ 8) (hn260 : n ≤ 260) (hN9 : N9 < 2 ^ 28) : ∀ (j s N : Nat) (S : xS) (p : Nat → Bool) (y4 : Value), s + j = 6 → N + j ≤ N9 → xCS S c → xRG S c → xTb S n t → xNw S N → (∀ q9, q9 < s → (p q9 = true ↔ (c.2.2.2.2 q9).isSome = true ∧ xHT (xone c q9) t n n)) → Wp false (d + 6) 10 cX11_explain (some .int) false 51 [.ref 0, .int (nI n), .int (nI (xbi p s)), .int (nI s), y4] [] S (fun r S' => ∃ p, r = some (.int (nI (xbi p 6))) ∧ xFl (fun i q => (i = 73 ∧ q = 3) ∨ (i = 74 ∧ (q = 2 ∨ q = 7)) ∨ i = 76 ∨ i = 79 ∨ i = 80 ∨ (82 ≤ i ∧ i ≤ 131)) S S' ∧ (∀ q9, q9 < 6 → (p q9 = true ↔ (c.2.2.2.2 q9).isSome = true ∧ xHT (xone c q9) t n n)) ∧ ∃ N', N' ≤ N9 ∧ xNw S' N') := by
  intro j
  induction j with
  | zero =>
    intro s N S p y4 hs hN h hG hT hNw hp
    have hss : s = 6 := by omega
    subst hss
    have hX := h.X
    have fin : ∃ p', some (Value.int (nI (xbi p 6))) = some (.int (nI (xbi p' 6))) ∧ xFl (fun i q => (i = 73 ∧ q = 3) ∨ (i = 74 ∧ (q = 2 ∨ q = 7)) ∨ i = 76 ∨ i = 79 ∨ i = 80 ∨ (82 ≤ i ∧ i ≤ 131)) S S ∧ (∀ q9, q9 < 6 → (p' q9 = true ↔ (c.2.2.2.2 q9).isSome = true ∧ xHT (xone c q9) t n n)) ∧ ∃ N', N' ≤ N9 ∧ xNw S N' := ⟨p, rfl, xFl.rf S, hp, N, by omega, hNw⟩
    refine wp_iload_n dX11_explain_51 rfl (wp_bipush (v := nI 6) dX11_explain_52 rfl ?_)
    refine wn_icmp_ge dX11_explain_54 rfl (by omega) (by omega) (fun c54 => ?_) (fun c54 => absurd c54 (by omega))
    exact wp_iload_n dX11_explain_118 rfl (wp_ireturn dX11_explain_119 rfl rfl fin)
  | succ j ih =>
    intro s N S p y4 hs hN h hG hT hNw hp
    have hs6 : s < 6 := by omega
    have hX := h.X
    have step : ∀ (S2 : xS) (b : Bool) (N2 : Nat) (y4 : Value), xFl (fun i q => (i = 73 ∧ q = 3) ∨ (i = 74 ∧ (q = 2 ∨ q = 7)) ∨ i = 76 ∨ i = 79 ∨ i = 80 ∨ (82 ≤ i ∧ i ≤ 131)) S S2 → N2 ≤ N + 1 → xNw S2 N2 → (b = true ↔ (c.2.2.2.2 s).isSome = true ∧ xHT (xone c s) t n n) → Wp false (d + 6) 10 cX11_explain (some .int) false 51 [.ref 0, .int (nI n), .int (nI (if b = true then xbi p s ||| 2 ^ s else xbi p s)), .int (nI (s + 1)), y4] [] S2 (fun r S' => ∃ p, r = some (.int (nI (xbi p 6))) ∧ xFl (fun i q => (i = 73 ∧ q = 3) ∨ (i = 74 ∧ (q = 2 ∨ q = 7)) ∨ i = 76 ∨ i = 79 ∨ i = 80 ∨ (82 ≤ i ∧ i ≤ 131)) S S' ∧ (∀ q9, q9 < 6 → (p q9 = true ↔ (c.2.2.2.2 q9).isSome = true ∧ xHT (xone c q9) t n n)) ∧ ∃ N', N' ≤ N9 ∧ xNw S' N') := by
      intro S2 b N2 y4 f2 hN2 hw hb
      have e : (if b = true then xbi p s ||| 2 ^ s else xbi p s) = xbi (fun q => if q = s then b else p q) (s + 1) := by
        rw [xbi, if_pos rfl]
        rw [xbi_cg (p := p) (q := fun q => if q = s then b else p q) s (fun q hq => by rw [if_neg (by omega)])]
      rw [e]
      refine (ih (s + 1) N2 S2 (fun q => if q = s then b else p q) y4 (by omega) (by omega) (h.fr f2 (fun i q w1 w2 => by omega)) (hG.fr f2 (fun i k w => by omega)) (hT.fr f2 (fun k w => by omega)) hw (fun q hq => ?_)).mono ?_
      · rcases Decidable.em (q = s) with w | w
        · subst w
          show (if q = q then b else p q) = true ↔ _
          rw [if_pos rfl]; exact hb
        · show (if q = s then b else p q) = true ↔ _
          rw [if_neg w]; exact hp q (by omega)
      · rintro r S' ⟨p', z1, z2, z3⟩
        exact ⟨p', z1, f2.tt z2, z3⟩
    have h' := h
    obtain ⟨y, yb, yc, a, b, c', e, a2, b2, c2, e2, ρ, q1, q2, q3, q4, q5, q6, q7, q8, q9, q10, q11, q12, q13, q14⟩ := h
    obtain ⟨s17, snil, ssome⟩ := q9 s hs6
    cases hx : c.2.2.2.2 s with
    | none =>
      have gh := c_rhymeIn_nil (d + 4) (q4.1 s (by omega)) hs6 hX s17 (snil hx)
      have st := fun y4 => step S false N y4 (xFl.rf S) (by omega) hNw ⟨fun q => (by cases q), fun q => (by rw [hx] at q; cases q.1)⟩
      have st := st .null
      rw [if_neg (by decide)] at st
      refine wp_iload_n dX11_explain_51 rfl (wp_bipush (v := nI 6) dX11_explain_52 rfl ?_)
      refine wn_icmp_ge dX11_explain_54 rfl (by omega) (by omega) (fun c54 => absurd c54 (by omega)) (fun c54 => ?_)
      exact wp_aload_n dX11_explain_57 rfl rfl (wp_iload_n dX11_explain_58 rfl (wp_iv2 dX11_explain_59 k10_155 q_X11_rhymeIn (by decide) (xsh hX sh_0) (by decide) (Nat.le_of_ble_eq_true rfl) gh (wp_astore dX11_explain_62 rfl ⟨Nat.le_of_ble_eq_true rfl, Or.inr rfl⟩ rfl (wp_aload dX11_explain_64 rfl rfl (wp_ifnull_N dX11_explain_66 rfl (wp_iinc dX11_explain_112 rfl (nI_1 _) ⟨Nat.le_of_ble_eq_true rfl, Or.inr rfl⟩ rfl (wp_goto dX11_explain_115 rfl st)))))))
    | some x =>
      obtain ⟨n0, t0, L⟩ := x
      obtain ⟨s9, hV⟩ := ssome n0 t0 L hx
      have hro := q4.1 s (by omega)
      have gh := c_rhymeIn (d + 4) hro hs6 hX s17 s9
      obtain ⟨S1, g1, f1, hC1⟩ := c_ringLearn (d + 2) hs6 hro hX hG.2.1 hV (q10 s hs6 n0 t0 L hx)
      have X1 := f1.XC hX
      have gu := c_useOnly (s := s) (d + 5) X1
      have F2 : xFl (fun i k => (i = 76 ∧ k = 0) ∨ (i = 74 ∧ k = 2)) S1 (xSI (xSI S1 76 0 (nI s)) 74 2 (nI 1)) := ((xFl.rf S1).SI (Or.inl ⟨rfl, rfl⟩)).SI (Or.inr ⟨rfl, rfl⟩)
      have X2 := F2.XC X1
      have G2 := (hG.fr f1 (fun i k w => by omega)).fr F2 (fun i k w => by omega)
      have D2 : xRD (xSI (xSI S1 76 0 (nI s)) 74 2 (nI 1)) (xone c s) 0 := xRD_one hx G2 (xI_same _ _ _ _) (xi (xI_same _ _ _ _) (Or.inl (by decide))) (hC1.fr F2 (fun i k w => by omega))
      obtain ⟨v, S3, g3, f3, n3, hv, hht⟩ := c_follow (N := N) (d + 0) (xone_ok ho hs6) (xone_al hx) h8 (by omega) X2 D2 ((hT.fr f1 (fun k w => by omega)).fr F2 (fun k w => by omega)) ((hNw.fr f1 ⟨by omega, fun x => by omega⟩).fr F2 ⟨by omega, fun x => by omega⟩)
      have X3 := f3.XC X2
      have FF : xFl (fun i q => (i = 73 ∧ q = 3) ∨ (i = 74 ∧ (q = 2 ∨ q = 7)) ∨ i = 76 ∨ i = 79 ∨ i = 80 ∨ (82 ≤ i ∧ i ≤ 131)) S S3 := ((f1.mono (fun i q w => by omega)).tt (F2.mono (fun i q w => by omega))).tt (f3.mono (fun i q w => by omega))
      rcases Decidable.em (v = n) with w | w
      · subst w
        have st := step S3 true (N + 1) (.ref (ρ s)) FF (Nat.le_refl _) n3 ⟨fun _ => ⟨(by rw [hx]; rfl), hht⟩, fun _ => rfl⟩
        rw [if_pos rfl] at st
        refine wp_iload_n dX11_explain_51 rfl (wp_bipush (v := nI 6) dX11_explain_52 rfl ?_)
        refine wn_icmp_ge dX11_explain_54 rfl (by omega) (by omega) (fun c54 => absurd c54 (by omega)) (fun c54 => ?_)
        refine wp_aload_n dX11_explain_57 rfl rfl (wp_iload_n dX11_explain_58 rfl (wp_iv2 dX11_explain_59 k10_155 q_X11_rhymeIn (by decide) (xsh hX sh_0) (by decide) (Nat.le_of_ble_eq_true rfl) gh (wp_astore dX11_explain_62 rfl ⟨Nat.le_of_ble_eq_true rfl, Or.inr rfl⟩ rfl (wp_aload dX11_explain_64 rfl rfl (wp_ifnull_R dX11_explain_66 rfl (wp_aload_n dX11_explain_69 rfl rfl (g10_82 dX11_explain_70 (xsh hX sh_0) (xrr hX r0_14) (wp_iload_n dX11_explain_73 rfl (wp_aload dX11_explain_74 rfl rfl (wp_iv3 dX11_explain_76 k10_304 q_X4_learn (by decide) (xsh hX sh_74) (by decide) (Nat.le_of_ble_eq_true rfl) g1 (wp_aload_n dX11_explain_79 rfl rfl (g10_82 dX11_explain_80 (xsh X1 sh_0) (xrr X1 r0_14) (wp_iload_n dX11_explain_83 rfl (wp_iv2 dX11_explain_84 k10_308 q_X4_useOnly (by decide) (xsh X1 sh_74) (by decide) (Nat.le_of_ble_eq_true rfl) gu (wp_aload_n dX11_explain_87 rfl rfl (g10_74 dX11_explain_88 (xsh X2 sh_0) (xrr X2 r0_15) (wp_aload_n dX11_explain_91 rfl rfl (g10_10 dX11_explain_92 (xsh X2 sh_0) (xrr X2 r0_0) (g10_104 dX11_explain_95 (xsh X2 sh_1) (xrr X2 r1_0) (wp_iload_n dX11_explain_98 rfl (wp_iv3 dX11_explain_99 k10_298 q_X2_follow (by decide) (xsh X2 sh_73) (by decide) (Nat.le_of_ble_eq_true rfl) g3 (wp_iload_n dX11_explain_102 rfl ?_))))))))))))))))))))))
        refine wn_icmp_ne dX11_explain_103 rfl (by omega) (by omega) (fun c103 => absurd c103 (by omega)) (fun c103 => ?_)
        exact wp_iload_n dX11_explain_106 rfl (wp_iconst (v := nI 1) dX11_explain_107 rfl (wp_iload_n dX11_explain_108 rfl (wv_ishl dX11_explain_109 (xshl1 (by omega)) (wv_ior dX11_explain_110 (fa_or _ _) (wp_istore_n dX11_explain_111 ⟨Nat.le_of_ble_eq_true rfl, Or.inr rfl⟩ rfl (wp_iinc dX11_explain_112 rfl (nI_1 _) ⟨Nat.le_of_ble_eq_true rfl, Or.inr rfl⟩ rfl (wp_goto dX11_explain_115 rfl st)))))))
      · have st := step S3 false (N + 1) (.ref (ρ s)) FF (Nat.le_refl _) n3 ⟨fun q => (by cases q), fun q => absurd (xHT_u hht q.2) w⟩
        rw [if_neg (by decide)] at st
        refine wp_iload_n dX11_explain_51 rfl (wp_bipush (v := nI 6) dX11_explain_52 rfl ?_)
        refine wn_icmp_ge dX11_explain_54 rfl (by omega) (by omega) (fun c54 => absurd c54 (by omega)) (fun c54 => ?_)
        refine wp_aload_n dX11_explain_57 rfl rfl (wp_iload_n dX11_explain_58 rfl (wp_iv2 dX11_explain_59 k10_155 q_X11_rhymeIn (by decide) (xsh hX sh_0) (by decide) (Nat.le_of_ble_eq_true rfl) gh (wp_astore dX11_explain_62 rfl ⟨Nat.le_of_ble_eq_true rfl, Or.inr rfl⟩ rfl (wp_aload dX11_explain_64 rfl rfl (wp_ifnull_R dX11_explain_66 rfl (wp_aload_n dX11_explain_69 rfl rfl (g10_82 dX11_explain_70 (xsh hX sh_0) (xrr hX r0_14) (wp_iload_n dX11_explain_73 rfl (wp_aload dX11_explain_74 rfl rfl (wp_iv3 dX11_explain_76 k10_304 q_X4_learn (by decide) (xsh hX sh_74) (by decide) (Nat.le_of_ble_eq_true rfl) g1 (wp_aload_n dX11_explain_79 rfl rfl (g10_82 dX11_explain_80 (xsh X1 sh_0) (xrr X1 r0_14) (wp_iload_n dX11_explain_83 rfl (wp_iv2 dX11_explain_84 k10_308 q_X4_useOnly (by decide) (xsh X1 sh_74) (by decide) (Nat.le_of_ble_eq_true rfl) gu (wp_aload_n dX11_explain_87 rfl rfl (g10_74 dX11_explain_88 (xsh X2 sh_0) (xrr X2 r0_15) (wp_aload_n dX11_explain_91 rfl rfl (g10_10 dX11_explain_92 (xsh X2 sh_0) (xrr X2 r0_0) (g10_104 dX11_explain_95 (xsh X2 sh_1) (xrr X2 r1_0) (wp_iload_n dX11_explain_98 rfl (wp_iv3 dX11_explain_99 k10_298 q_X2_follow (by decide) (xsh X2 sh_73) (by decide) (Nat.le_of_ble_eq_true rfl) g3 (wp_iload_n dX11_explain_102 rfl ?_))))))))))))))))))))))
        refine wn_icmp_ne dX11_explain_103 rfl (by omega) (by omega) (fun c103 => ?_) (fun c103 => absurd c103 (by omega))
        exact wp_iinc dX11_explain_112 rfl (nI_1 _) ⟨Nat.le_of_ble_eq_true rfl, Or.inr rfl⟩ rfl (wp_goto dX11_explain_115 rfl st)
theorem c_explain_no {c : xPx} {n : Nat} {t : Nat → Nat} (d : Nat) (ho : xzo c) {S : xS} (h : xCS S c) (hn : S.2.1 1 1 = nI n) (hT : xTb S n t) (hno : ¬ (xgH (xzg c) ≤ 8 ∧ n ≤ 24 ∧ ∀ k, k < n → t k < xgP (xzg c))) : ∃ S', xcall false (d + 6) j_X11_explain [.ref 0] S (some (.int (-1))) S' ∧ xFl (fun i q => (i = 1 ∧ q = 1) ∨ i = 74 ∨ (76 ≤ i ∧ i ≤ 130)) S S' ∧ S'.2.1 1 1 = nI 0 := by
  have hX := h.X
  have F0 : xFl (fun i k => i = 1 ∧ k = 1) S (xSI S 1 1 (nI 0)) := (xFl.rf S).SI ⟨rfl, rfl⟩
  have X0 := F0.XC hX
  have gt := c_take hX hn (d + 5)
  have T0 := hT.fr F0 (fun k h => by omega)
  have h0 := h.fr F0 (fun i q w1 w2 => by omega)
  have h0' := h0
  obtain ⟨y, yb, yc, a, b, c', e, a2, b2, c2, e2, ρ, q1, q2, q3, q4, q5, q6, q7, q8, q9, q10, q11, q12, q13, q14⟩ := h0
  obtain ⟨S1, g1, f1, c1, c2', c3, c4, c5, c6⟩ := c_gather (d + 4) q1 q2 q3 ho.2.2.1.2.1 X0 q11 q12 q13 q14
  have X1 := f1.XC X0
  have h1 := h0'.fr f1 (fun i q w1 w2 => by omega)
  have gg := c_isTooGreat (d + 5) ho.g X1 c1
  have gr := c_isRecord (n := n) (d + 4) ho h1 (T0.fr f1 (fun k h => by omega))
  refine ⟨S1, ?_, (F0.mono (fun i k w => by omega)).tt (f1.mono (fun i k w => by omega)), f1.i (xI_same _ _ _ _) (by omega)⟩
  rcases Nat.lt_or_ge 8 (xgH (xzg c)) with w | w
  · rw [decide_eq_true w] at gg
    refine xcall_intro (ls := [.ref 0, .float 0, .float 0, .float 0, .float 0]) q_X11_explain (by decide) rfl (Nat.le_of_ble_eq_true rfl) rfl ?_
    refine wp_aload_n dX11_explain_0 rfl rfl (g10_10 dX11_explain_1 (xsh hX sh_0) (xrr hX r0_0) (wp_iv1 dX11_explain_4 k10_107 q_X6_take (by decide) (xsh hX sh_1) (by decide) (Nat.le_of_ble_eq_true rfl) gt (wp_istore_n dX11_explain_7 ⟨Nat.le_of_ble_eq_true rfl, Or.inr rfl⟩ rfl (wp_aload_n dX11_explain_8 rfl rfl (g10_82 dX11_explain_9 (xsh X0 sh_0) (xrr X0 r0_14) (wp_aload_n dX11_explain_12 rfl rfl (g10_36 dX11_explain_13 (xsh X0 sh_0) q6 (wp_aload_n dX11_explain_16 rfl rfl (g10_57 dX11_explain_17 (xsh X0 sh_0) q7 (wp_aload_n dX11_explain_20 rfl rfl (g10_61 dX11_explain_21 (xsh X0 sh_0) q8 (wp_iv4 dX11_explain_24 k10_206 q_X4_gather (by decide) (xsh X0 sh_74) (by decide) (Nat.le_of_ble_eq_true rfl) g1 (wp_aload_n dX11_explain_27 rfl rfl (g10_82 dX11_explain_28 (xsh X1 sh_0) (xrr X1 r0_14) (wp_iv1 dX11_explain_31 k10_301 q_X4_isTooGreat (by decide) (xsh X1 sh_74) (by decide) (Nat.le_of_ble_eq_true rfl) gg ?_)))))))))))))))
    refine wb_if_ne dX11_explain_34 rfl (fun c34 => ?_) (fun c34 => absurd c34 (by decide))
    exact wp_iconst (v := -1) dX11_explain_45 rfl (wp_ireturn dX11_explain_46 rfl rfl ⟨rfl, rfl⟩)
  · rw [decide_eq_false (Nat.not_lt.mpr w)] at gg
    rw [decide_eq_false (fun q => hno ⟨w, q.1, q.2⟩)] at gr
    refine xcall_intro (ls := [.ref 0, .float 0, .float 0, .float 0, .float 0]) q_X11_explain (by decide) rfl (Nat.le_of_ble_eq_true rfl) rfl ?_
    refine wp_aload_n dX11_explain_0 rfl rfl (g10_10 dX11_explain_1 (xsh hX sh_0) (xrr hX r0_0) (wp_iv1 dX11_explain_4 k10_107 q_X6_take (by decide) (xsh hX sh_1) (by decide) (Nat.le_of_ble_eq_true rfl) gt (wp_istore_n dX11_explain_7 ⟨Nat.le_of_ble_eq_true rfl, Or.inr rfl⟩ rfl (wp_aload_n dX11_explain_8 rfl rfl (g10_82 dX11_explain_9 (xsh X0 sh_0) (xrr X0 r0_14) (wp_aload_n dX11_explain_12 rfl rfl (g10_36 dX11_explain_13 (xsh X0 sh_0) q6 (wp_aload_n dX11_explain_16 rfl rfl (g10_57 dX11_explain_17 (xsh X0 sh_0) q7 (wp_aload_n dX11_explain_20 rfl rfl (g10_61 dX11_explain_21 (xsh X0 sh_0) q8 (wp_iv4 dX11_explain_24 k10_206 q_X4_gather (by decide) (xsh X0 sh_74) (by decide) (Nat.le_of_ble_eq_true rfl) g1 (wp_aload_n dX11_explain_27 rfl rfl (g10_82 dX11_explain_28 (xsh X1 sh_0) (xrr X1 r0_14) (wp_iv1 dX11_explain_31 k10_301 q_X4_isTooGreat (by decide) (xsh X1 sh_74) (by decide) (Nat.le_of_ble_eq_true rfl) gg ?_)))))))))))))))
    refine wb_if_ne dX11_explain_34 rfl (fun c34 => absurd c34 (by decide)) (fun c34 => ?_)
    refine wp_aload_n dX11_explain_37 rfl rfl (wp_iload_n dX11_explain_38 rfl (wp_iv2 dX11_explain_39 k10_295 q_X11_isRecord (by decide) (xsh X1 sh_0) (by decide) (Nat.le_of_ble_eq_true rfl) gr ?_))
    refine wb_if_ne dX11_explain_42 rfl (fun c42 => absurd c42 (by decide)) (fun c42 => ?_)
    exact wp_iconst (v := -1) dX11_explain_45 rfl (wp_ireturn dX11_explain_46 rfl rfl ⟨rfl, rfl⟩)
theorem c_explain {c : xPx} {n : Nat} {t : Nat → Nat} (d : Nat) (ho : xzo c) {S : xS} (h : xCS S c) (hn : S.2.1 1 1 = nI n) (hT : xTb S n t) {N : Nat} (h8 : xgH (xzg c) ≤ 8) (h24 : n ≤ 24) (hlt : ∀ k, k < n → t k < xgP (xzg c)) (hN : xNw S N) (hNb : N + 6 < 2 ^ 28) : ∃ p S', xcall false (d + 6) j_X11_explain [.ref 0] S (some (.int (nI (xbi p 6)))) S' ∧ xFl (fun i q => (i = 1 ∧ q = 1) ∨ (i = 73 ∧ q = 3) ∨ i = 74 ∨ (76 ≤ i ∧ i ≤ 131)) S S' ∧ S'.2.1 1 1 = nI 0 ∧ (∀ q9, q9 < 6 → (p q9 = true ↔ (c.2.2.2.2 q9).isSome = true ∧ xHT (xone c q9) t n n)) ∧ ∃ N', N' ≤ N + 6 ∧ xNw S' N' := by
  have hX := h.X
  have F0 : xFl (fun i k => i = 1 ∧ k = 1) S (xSI S 1 1 (nI 0)) := (xFl.rf S).SI ⟨rfl, rfl⟩
  have X0 := F0.XC hX
  have gt := c_take hX hn (d + 5)
  have T0 := hT.fr F0 (fun k h => by omega)
  have h0 := h.fr F0 (fun i q w1 w2 => by omega)
  have h0' := h0
  obtain ⟨y, yb, yc, a, b, c', e, a2, b2, c2, e2, ρ, q1, q2, q3, q4, q5, q6, q7, q8, q9, q10, q11, q12, q13, q14⟩ := h0
  obtain ⟨S1, g1, f1, c1, c2', c3, c4, c5, c6⟩ := c_gather (d + 4) q1 q2 q3 ho.2.2.1.2.1 X0 q11 q12 q13 q14
  have X1 := f1.XC X0
  have h1 := h0'.fr f1 (fun i q w1 w2 => by omega)
  have gg := c_isTooGreat (d + 5) ho.g X1 c1
  have gr := c_isRecord (n := n) (d + 4) ho h1 (T0.fr f1 (fun k h => by omega))
  rw [decide_eq_false (Nat.not_lt.mpr h8)] at gg
  rw [decide_eq_true ⟨h24, hlt⟩] at gr
  have lp := cex_loop (d := d) (N9 := N + 6) (t := t) ho h8 hT.1 hNb 6 0 N S1 (fun _ => false) (.float 0) (Nat.zero_add _) (Nat.le_refl _) h1 ⟨c1, c2', c3, c4⟩ (T0.fr f1 (fun k h => by omega)) ((hN.fr F0 ⟨by omega, fun x => by omega⟩).fr f1 ⟨by omega, fun x => by omega⟩) (fun s hs => absurd hs (Nat.not_lt_zero s))
  obtain ⟨r, S', g2, p, rfl, z1, z2, z3⟩ := xcall_some (al := false) (d := d + 6) (ls := [.ref 0, .float 0, .float 0, .float 0, .float 0]) (S := S) (as := [.ref 0]) q_X11_explain (by decide) rfl (Nat.le_of_ble_eq_true rfl) rfl (P := (fun r S' => ∃ p, r = some (.int (nI (xbi p 6))) ∧ xFl (fun i q => (i = 73 ∧ q = 3) ∨ (i = 74 ∧ (q = 2 ∨ q = 7)) ∨ i = 76 ∨ i = 79 ∨ i = 80 ∨ (82 ≤ i ∧ i ≤ 131)) S1 S' ∧ (∀ q9, q9 < 6 → (p q9 = true ↔ (c.2.2.2.2 q9).isSome = true ∧ xHT (xone c q9) t n n)) ∧ ∃ N', N' ≤ (N + 6) ∧ xNw S' N')) (by
      refine wp_aload_n dX11_explain_0 rfl rfl (g10_10 dX11_explain_1 (xsh hX sh_0) (xrr hX r0_0) (wp_iv1 dX11_explain_4 k10_107 q_X6_take (by decide) (xsh hX sh_1) (by decide) (Nat.le_of_ble_eq_true rfl) gt (wp_istore_n dX11_explain_7 ⟨Nat.le_of_ble_eq_true rfl, Or.inr rfl⟩ rfl (wp_aload_n dX11_explain_8 rfl rfl (g10_82 dX11_explain_9 (xsh X0 sh_0) (xrr X0 r0_14) (wp_aload_n dX11_explain_12 rfl rfl (g10_36 dX11_explain_13 (xsh X0 sh_0) q6 (wp_aload_n dX11_explain_16 rfl rfl (g10_57 dX11_explain_17 (xsh X0 sh_0) q7 (wp_aload_n dX11_explain_20 rfl rfl (g10_61 dX11_explain_21 (xsh X0 sh_0) q8 (wp_iv4 dX11_explain_24 k10_206 q_X4_gather (by decide) (xsh X0 sh_74) (by decide) (Nat.le_of_ble_eq_true rfl) g1 (wp_aload_n dX11_explain_27 rfl rfl (g10_82 dX11_explain_28 (xsh X1 sh_0) (xrr X1 r0_14) (wp_iv1 dX11_explain_31 k10_301 q_X4_isTooGreat (by decide) (xsh X1 sh_74) (by decide) (Nat.le_of_ble_eq_true rfl) gg ?_)))))))))))))))
      refine wb_if_ne dX11_explain_34 rfl (fun c34 => absurd c34 (by decide)) (fun c34 => ?_)
      refine wp_aload_n dX11_explain_37 rfl rfl (wp_iload_n dX11_explain_38 rfl (wp_iv2 dX11_explain_39 k10_295 q_X11_isRecord (by decide) (xsh X1 sh_0) (by decide) (Nat.le_of_ble_eq_true rfl) gr ?_))
      refine wb_if_ne dX11_explain_42 rfl (fun c42 => ?_) (fun c42 => absurd c42 (by decide))
      exact wp_iconst (v := nI 0) dX11_explain_47 rfl (wp_istore_n dX11_explain_48 ⟨Nat.le_of_ble_eq_true rfl, Or.inr rfl⟩ rfl (wp_iconst (v := nI 0) dX11_explain_49 rfl (wp_istore_n dX11_explain_50 ⟨Nat.le_of_ble_eq_true rfl, Or.inr rfl⟩ rfl lp))))
  exact ⟨p, S', g2, ((F0.mono (fun i k w => by omega)).tt (f1.mono (fun i k w => by omega))).tt (z1.mono (fun i k w => by omega)), z1.i (f1.i (xI_same _ _ _ _) (by omega)) (by omega), z2, z3⟩
