/-! THE YARD of the reference: a rule read -/
theorem xsp_uni {t : Nat → Nat} {s : Nat} : ∀ (z : Nat) (a b : List Nat), xsp t s z a = true → xsp t s z b = true → a = b
  | 0, [], [], _, _ => rfl
  | 0, [], c :: r, _, h => by unfold xsp at h; cases h
  | 0, c :: r, _, h, _ => by unfold xsp at h; cases h
  | k + 1, [], _, h, _ => by unfold xsp at h; cases h
  | k + 1, c :: r, [], _, h => by unfold xsp at h; cases h
  | k + 1, c :: r, c' :: r', h, h' => by
    unfold xsp at h h'
    have h1 := Bool.and_eq_true_iff.mp h
    have h2 := Bool.and_eq_true_iff.mp h'
    rw [← of_decide_eq_true h1.1, ← of_decide_eq_true h2.1, xsp_uni k r r' h1.2 h2.2]
theorem xiw_uni {t : Nat → Nat} {n p : Nat} {a b : List Nat} (h : xiw a n t p = true) (hab : a ≠ b) : xiw b n t p = false := by
  cases hb : xiw b n t p with
  | false => rfl
  | true =>
    unfold xiw at h hb
    exact absurd (xsp_uni _ a b (Bool.and_eq_true_iff.mp h).2 (Bool.and_eq_true_iff.mp hb).2) hab
/-- what a rule of the reference's yard writes -/
def xFY (i k : Nat) : Prop := (i = 187 ∧ ((4 ≤ k ∧ k ≤ 10) ∨ k = 20 ∨ k = 50)) ∨ i = 209 ∨ i = 211
def xYdN (S : xS) (v : xYd) : Prop := (∀ i, i < 6 → S.2.1 209 i = nI (v.1 i)) ∧ S.2.1 209 6 = nI (1 - v.1 7) ∧ S.2.1 187 50 = nI v.2.length ∧ (∀ i, i < v.2.length → S.2.1 211 i = nI (v.2.getD i 0)) ∧ xYok v
def xYdM (S : xS) (v : xYd) : Prop := (∀ i, i < 6 → S.2.1 208 i = nI (v.1 i)) ∧ S.2.1 208 6 = nI (1 - v.1 7) ∧ S.2.1 187 49 = nI v.2.length ∧ (∀ i, i < v.2.length → S.2.1 210 i = nI (v.2.getD i 0)) ∧ xYok v
theorem xYdN.fr {S S' : xS} {P : Nat → Nat → Prop} {v : xYd} (h : xYdN S v) (hf : xFl P S S') (hn : ∀ i k, ((i = 187 ∧ k = 50) ∨ i = 209 ∨ i = 211) → ¬ P i k) : xYdN S' v :=
  ⟨fun i hi => hf.i (h.1 i hi) (hn _ _ (by omega)), hf.i h.2.1 (hn _ _ (by omega)), hf.i h.2.2.1 (hn _ _ (by omega)), fun i hi => hf.i (h.2.2.2.1 i hi) (hn _ _ (by omega)), h.2.2.2.2⟩
theorem xYdM.fr {S S' : xS} {P : Nat → Nat → Prop} {v : xYd} (h : xYdM S v) (hf : xFl P S S') (hn : ∀ i k, ((i = 187 ∧ k = 49) ∨ i = 208 ∨ i = 210) → ¬ P i k) : xYdM S' v :=
  ⟨fun i hi => hf.i (h.1 i hi) (hn _ _ (by omega)), hf.i h.2.1 (hn _ _ (by omega)), hf.i h.2.2.1 (hn _ _ (by omega)), fun i hi => hf.i (h.2.2.2.1 i hi) (hn _ _ (by omega)), h.2.2.2.2⟩
/-- what choice does -/
def xCH (t : Nat → Nat) (n p1 rm sm : Nat) (ws : List (List Nat)) (S : xS) (b : Bool) (S' : xS) : Prop := xFl xFY S S' ∧ S'.2.1 187 20 = nI (sm ||| 2 ^ rm) ∧ S'.2.1 187 50 = S.2.1 187 50 ∧ (∀ i, S'.2.1 211 i = S.2.1 211 i) ∧
  (xwh t n p1 ws 0 = none → b = false ∧ S'.2.1 187 9 = nI (xfh t n p1).1 ∧ S'.2.1 187 10 = nI (xfh t n p1).2) ∧
  (∀ k, xwh t n p1 ws 0 = some k → (∀ i, i ≠ rm → S'.2.1 209 i = S.2.1 209 i) ∧ S'.2.1 209 rm = nI k ∧ (xtk t n (xta t n p1) = 3 → b = true ∧ S'.2.1 187 9 = S.2.1 187 9 ∧ xTM S' n t (xta t n (xta t n p1))) ∧ (xtk t n (xta t n p1) ≠ 3 → b = false ∧ S'.2.1 187 9 = nI (xfh t n (xta t n p1)).1 ∧ S'.2.1 187 10 = nI (xfh t n (xta t n p1)).2))
theorem xCH_t {t : Nat → Nat} {n p1 rm sm k : Nat} {ws : List (List Nat)} {S S' : xS} (hx : xwh t n p1 ws 0 = some k) (h1 : xFl xFY S S') (h2 : S'.2.1 187 20 = nI (sm ||| 2 ^ rm)) (h3 : S'.2.1 187 50 = S.2.1 187 50) (h4 : ∀ i, S'.2.1 211 i = S.2.1 211 i) (h5 : ∀ i, i ≠ rm → S'.2.1 209 i = S.2.1 209 i) (h6 : S'.2.1 209 rm = nI k) (h7 : xtk t n (xta t n p1) = 3) (h8 : S'.2.1 187 9 = S.2.1 187 9) (h9 : xTM S' n t (xta t n (xta t n p1))) : xCH t n p1 rm sm ws S true S' := by
  refine ⟨h1, h2, h3, h4, fun e => ?_, fun k' e => ?_⟩
  · rw [hx] at e; cases e
  · have ek : k = k' := Option.some.inj (hx.symm.trans e)
    subst ek
    exact ⟨h5, h6, fun _ => ⟨rfl, h8, h9⟩, fun w => absurd h7 w⟩
theorem xCH_f {t : Nat → Nat} {n p1 rm sm k : Nat} {ws : List (List Nat)} {S S' : xS} (hx : xwh t n p1 ws 0 = some k) (h1 : xFl xFY S S') (h2 : S'.2.1 187 20 = nI (sm ||| 2 ^ rm)) (h3 : S'.2.1 187 50 = S.2.1 187 50) (h4 : ∀ i, S'.2.1 211 i = S.2.1 211 i) (h5 : ∀ i, i ≠ rm → S'.2.1 209 i = S.2.1 209 i) (h6 : S'.2.1 209 rm = nI k) (h7 : xtk t n (xta t n p1) ≠ 3) (h8 : S'.2.1 187 9 = nI (xfh t n (xta t n p1)).1) (h9 : S'.2.1 187 10 = nI (xfh t n (xta t n p1)).2) : xCH t n p1 rm sm ws S false S' := by
  refine ⟨h1, h2, h3, h4, fun e => ?_, fun k' e => ?_⟩
  · rw [hx] at e; cases e
  · have ek : k = k' := Option.some.inj (hx.symm.trans e)
    subst ek
    exact ⟨h5, h6, fun w => absurd w h7, fun _ => ⟨rfl, h8, h9⟩⟩
theorem xCH_n {t : Nat → Nat} {n p1 rm sm : Nat} {ws : List (List Nat)} {S S' : xS} (hx : xwh t n p1 ws 0 = none) (h1 : xFl xFY S S') (h2 : S'.2.1 187 20 = nI (sm ||| 2 ^ rm)) (h3 : S'.2.1 187 50 = S.2.1 187 50) (h4 : ∀ i, S'.2.1 211 i = S.2.1 211 i) (h8 : S'.2.1 187 9 = nI (xfh t n p1).1) (h9 : S'.2.1 187 10 = nI (xfh t n p1).2) : xCH t n p1 rm sm ws S false S' := by
  refine ⟨h1, h2, h3, h4, fun _ => ⟨rfl, h8, h9⟩, fun k' e => ?_⟩
  rw [hx] at e; cases e
/-- a fault written -/
theorem xW_f {S1 S : xS} {e1 e2 : Nat} (h1 : xFl xFY S S1) : xFl xFY S (xSI (xSI S1 187 9 (nI e1)) 187 10 (nI e2)) ∧ (xSI (xSI S1 187 9 (nI e1)) 187 10 (nI e2)).2.1 187 9 = nI e1 ∧ (xSI (xSI S1 187 9 (nI e1)) 187 10 (nI e2)).2.1 187 10 = nI e2 ∧ ∀ a k v, S1.2.1 a k = v → (a ≠ 187 ∨ (k ≠ 9 ∧ k ≠ 10)) → (xSI (xSI S1 187 9 (nI e1)) 187 10 (nI e2)).2.1 a k = v := by
  refine ⟨(h1.SI (Or.inl ⟨rfl, by omega⟩)).SI (Or.inl ⟨rfl, by omega⟩), xi (xI_same _ _ _ _) (Or.inr (by decide)), xI_same _ _ _ _, fun a k v h hn => ?_⟩
  exact xi (xi h (by omega)) (by omega)
theorem m_semi_no2 (d : Nat) {S : xS} {n p : Nat} {t : Nat → Nat} (hX : XC S) (hT : xTxM S n t) (hM : xTM S n t p) (hk : xtk t n p ≠ 3) : xcall false (d + 2) j_X12_semi [.ref 187] S (some (.int (xB false))) (xSI (xSI S 187 9 (nI (xfh t n p).1)) 187 10 (nI (xfh t n p).2)) := m_semi_no d hX hT hM hk
theorem m_cant2 (d : Nat) {S : xS} {n p : Nat} {t : Nat → Nat} (hX : XC S) (hT : xTxM S n t) (hM : xTM S n t p) : xcall false (d + 1) j_X12_cant [.ref 187] S (some (.int (xB false))) (xSI (xSI S 187 9 (nI (xfh t n p).1)) 187 10 (nI (xfh t n p).2)) := m_cant d hX hT hM
theorem xFN_Y (i k : Nat) (h : i = 187 ∧ (k = 4 ∨ k = 5 ∨ k = 6 ∨ k = 7 ∨ k = 8)) : xFY i k := by unfold xFY; omega
theorem xFO_Y (i k : Nat) (h : i = 187 ∧ (k = 4 ∨ k = 5 ∨ k = 6 ∨ k = 7 ∨ k = 8 ∨ k = 20)) : xFY i k := by unfold xFY; omega
theorem m_choice2 {n p sm rm W0 W1  : Nat} {w0 w1 : List Nat} {t : Nat → Nat} (d : Nat) {S : xS} (hw0 : xnr w0 = W0 ∧ w0.length ≤ 8 ∧ 0 < W0 ∧ W0 < 2 ^ 63) (hv0 : ∀ c ∈ w0, 0 < c ∧ c < 256) (hw1 : xnr w1 = W1 ∧ w1.length ≤ 8 ∧ 0 < W1 ∧ W1 < 2 ^ 63) (hv1 : ∀ c ∈ w1, 0 < c ∧ c < 256) (hX : XC S) (hT : xTxM S n t) (hM : xTM S n t p) (hs : S.2.1 187 20 = nI sm) (hs2 : sm < 2 ^ 31) (hrm : rm < 7) (hb : sm.testBit rm = false) : ∃ b S', xcall false (d + 2 + 1) j_X12_choice [.ref 187, .int (nI rm), .long (lN W0), .long (lN W1), .long (lN 0)] S (some (.int (xB b))) S' ∧ xCH t n (xta t n p) rm sm [w0, w1] S b S' := by
  obtain ⟨S1, g1, f1, t1, o1⟩ := m_once d hX hT hM hs hs2 (r := rm) (by omega) hb
  have X1 := f1.XC hX
  have T1 := hT.fr f1 (by omega) (fun k => by omega)
  have t1' := t1
  obtain ⟨p1, a6, a4, a5, ar⟩ := t1
  have hab1 := xta_b t p1
  have b41 := xtk_b t n (xta t n p)
  have e9 : S1.2.1 187 9 = S.2.1 187 9 := f1.2.2 187 9 (by omega)
  have e50 : S1.2.1 187 50 = S.2.1 187 50 := f1.2.2 187 50 (by omega)
  have e11 : ∀ i, S1.2.1 211 i = S.2.1 211 i := fun i => f1.2.2 211 i (by omega)
  have e09 : ∀ i, S1.2.1 209 i = S.2.1 209 i := fun i => f1.2.2 209 i (by omega)
  have F1 : xFl xFY S S1 := f1.mono xFO_Y
  have t61n (hx : xwh t n (xta t n p) [w0, w1] 0 = none) : Wp false (d + 2 + 1) 11 cX12_choice (some .boolean) false 61 [.ref 187, .int (nI rm), .long (lN W0), .float 0, .long (lN W1), .float 0, .long (lN 0), .float 0] [.int (-1), .int (nI rm), .ref 209] S1 (fun r S' => ∃ b, r = some (.int (xB b)) ∧ xCH t n (xta t n p) rm sm [w0, w1] S b S') := by
    have F2 : xFl xFY S (xSI S1 209 rm (-1)) := F1.SI (Or.inr (Or.inl rfl))
    have T2 := T1.fr (P := fun i k => i = 209) ((xFl.rf S1).SI (k := rm) (v := -1) rfl) (by decide) (fun k => by decide)
    have t2 := t1'.fr (P := fun i k => i = 209) ((xFl.rf S1).SI (k := rm) (v := -1) rfl) (fun k _ _ => by decide) rfl
    have gc := m_cant2 (d + 1) (S := xSI S1 209 rm (-1)) X1 T2 t2
    obtain ⟨w1, w2, w3, w4⟩ := xW_f (e1 := (xfh t n (xta t n p)).1) (e2 := (xfh t n (xta t n p)).2) F2
    have qf := xCH_n hx w1 (w4 187 20 _ (xi o1 (Or.inl (by decide))) (by decide)) (w4 187 50 _ (xi e50 (Or.inl (by decide))) (by decide)) (fun i => w4 211 i _ (xi (e11 i) (Or.inl (by decide))) (Or.inl (by decide))) w2 w3
    refine wn_iastore dX12_choice_61 (xsh X1 sh_209) rfl (by omega) (by decide) (wp_aload_n dX12_choice_62 rfl rfl (g11_260 dX12_choice_63 (xsh X1 sh_187) (xrr X1 r187_46) (wp_iload_n dX12_choice_66 rfl (wn_iaload dX12_choice_67 (xsh X1 sh_209) rfl (by omega) (by decide) (xI_same _ _ _ _) ?_))))
    refine wp_if_ge dX12_choice_68 rfl (fun c68 => absurd c68 (by decide)) (fun c68 => ?_)
    exact wp_aload_n dX12_choice_71 rfl rfl (wp_iv1 dX12_choice_72 k11_61 q_X12_cant (by decide) (xsh X1 sh_187) (by decide) (Nat.le_of_ble_eq_true rfl) gc (wb_ret dX12_choice_75 rfl rfl ⟨false, rfl, qf⟩))
  have t61 (k : Nat) (hk3 : k < 3) (hx : xwh t n (xta t n p) [w0, w1] 0 = some k) : Wp false (d + 2 + 1) 11 cX12_choice (some .boolean) false 61 [.ref 187, .int (nI rm), .long (lN W0), .float 0, .long (lN W1), .float 0, .long (lN 0), .float 0] [.int (nI k), .int (nI rm), .ref 209] S1 (fun r S' => ∃ b, r = some (.int (xB b)) ∧ xCH t n (xta t n p) rm sm [w0, w1] S b S') := by
    have F0 : xFl (fun i k => i = 209 ∧ k = rm) S1 (xSI S1 209 rm (nI k)) := (xFl.rf S1).SI ⟨rfl, rfl⟩
    have F2 : xFl xFY S (xSI S1 209 rm (nI k)) := F1.SI (Or.inr (Or.inl rfl))
    have T2 := T1.fr F0 (by omega) (fun k => by omega)
    have X2 := F0.XC X1
    obtain ⟨S3, g3, f3, t3⟩ := m_next (d + 1) X2 T2 (F0.i a4 (by omega)) hab1.2.1
    have X3 := f3.XC X2
    have T3 := T2.fr f3 (by omega) (fun k => by omega)
    have q9 : S3.2.1 187 9 = S.2.1 187 9 := f3.i (F0.i e9 (by omega)) (by omega)
    have q20 : S3.2.1 187 20 = nI (sm ||| 2 ^ rm) := f3.i (F0.i o1 (by omega)) (by omega)
    have q50 : S3.2.1 187 50 = S.2.1 187 50 := f3.i (F0.i e50 (by omega)) (by omega)
    have q11 : ∀ i, S3.2.1 211 i = S.2.1 211 i := fun i => f3.i (F0.i (e11 i) (by omega)) (by omega)
    have q09 : ∀ i, i ≠ rm → S3.2.1 209 i = S.2.1 209 i := fun i hi => f3.i (F0.i (e09 i) (by omega)) (by omega)
    have qr : S3.2.1 209 rm = nI k := f3.i (xI_same _ _ _ _) (by omega)
    have F3 : xFl xFY S S3 := F2.tt (f3.mono xFN_Y)
    by_cases h3 : xtk t n (xta t n (xta t n p)) = 3
    · obtain ⟨S4, g4, f4, t4⟩ := m_semi d X3 T3 t3 h3
      have qt := xCH_t hx (F3.tt (f4.mono xFN_Y)) (f4.i q20 (by omega)) (f4.i q50 (by omega)) (fun i => f4.i (q11 i) (by omega)) (fun i hi => f4.i (q09 i hi) (by omega)) (f4.i qr (by omega)) h3 (f4.i q9 (by omega)) t4
      refine wn_iastore dX12_choice_61 (xsh X1 sh_209) rfl (by omega) (by decide) (wp_aload_n dX12_choice_62 rfl rfl (g11_260 dX12_choice_63 (xsh X1 sh_187) (xrr X1 r187_46) (wp_iload_n dX12_choice_66 rfl (wn_iaload dX12_choice_67 (xsh X1 sh_209) rfl (by omega) (by decide) (xI_same _ _ _ _) ?_))))
      refine wn_if_ge dX12_choice_68 rfl (by omega) ?_
      exact wp_aload_n dX12_choice_76 rfl rfl (wp_iv1 dX12_choice_77 k11_65 q_X12_next (by decide) (xsh X1 sh_187) (by decide) (Nat.le_of_ble_eq_true rfl) g3 (wp_aload_n dX12_choice_80 rfl rfl (wp_iv1 dX12_choice_81 k11_131 q_X12_semi (by decide) (xsh X3 sh_187) (by decide) (Nat.le_of_ble_eq_true rfl) g4 (wb_ret dX12_choice_84 rfl rfl ⟨true, rfl, qt⟩))))
    · have g4 := m_semi_no2 d X3 T3 t3 h3
      obtain ⟨w1, w2, w3, w4⟩ := xW_f (e1 := (xfh t n (xta t n (xta t n p))).1) (e2 := (xfh t n (xta t n (xta t n p))).2) F3
      have qf := xCH_f hx w1 (w4 187 20 _ q20 (by decide)) (w4 187 50 _ q50 (by decide)) (fun i => w4 211 i _ (q11 i) (Or.inl (by decide))) (fun i hi => w4 209 i _ (q09 i hi) (Or.inl (by decide))) (w4 209 rm _ qr (Or.inl (by decide))) h3 w2 w3
      refine wn_iastore dX12_choice_61 (xsh X1 sh_209) rfl (by omega) (by decide) (wp_aload_n dX12_choice_62 rfl rfl (g11_260 dX12_choice_63 (xsh X1 sh_187) (xrr X1 r187_46) (wp_iload_n dX12_choice_66 rfl (wn_iaload dX12_choice_67 (xsh X1 sh_209) rfl (by omega) (by decide) (xI_same _ _ _ _) ?_))))
      refine wn_if_ge dX12_choice_68 rfl (by omega) ?_
      exact wp_aload_n dX12_choice_76 rfl rfl (wp_iv1 dX12_choice_77 k11_65 q_X12_next (by decide) (xsh X1 sh_187) (by decide) (Nat.le_of_ble_eq_true rfl) g3 (wp_aload_n dX12_choice_80 rfl rfl (wp_iv1 dX12_choice_81 k11_131 q_X12_semi (by decide) (xsh X3 sh_187) (by decide) (Nat.le_of_ble_eq_true rfl) g4 (wb_ret dX12_choice_84 rfl rfl ⟨false, rfl, qf⟩))))
  have key : ∃ r S', xcall false (d + 2 + 1) j_X12_choice [.ref 187, .int (nI rm), .long (lN W0), .long (lN W1), .long (lN 0)] S r S' ∧ (∃ b, r = some (.int (xB b)) ∧ xCH t n (xta t n p) rm sm [w0, w1] S b S') := by
    refine xcall_some (ls := [.ref 187, .int (nI rm), .long (lN W0), .float 0, .long (lN W1), .float 0, .long (lN 0), .float 0]) q_X12_choice (by decide) rfl (Nat.le_of_ble_eq_true rfl) rfl ?_
    cases h0 : xiw w0 n t (xta t n p) with
    | true =>
      have e : xwh t n (xta t n p) [w0, w1] 0 = some 0 := by simp only [xwh, h0, if_true, Bool.false_eq_true, if_false]
      refine wp_aload_n dX12_choice_0 rfl rfl (wp_iload_n dX12_choice_1 rfl (wp_iv2 dX12_choice_2 k11_128 q_X12_once (by decide) (xsh hX sh_187) (by decide) (Nat.le_of_ble_eq_true rfl) g1 ?_))
      refine wb_if_ne dX12_choice_5 rfl (fun c5 => ?_) (fun c5 => absurd c5 (by decide))
      refine wp_aload_n dX12_choice_10 rfl rfl (g11_260 dX12_choice_11 (xsh X1 sh_187) (xrr X1 r187_46) (wp_iload_n dX12_choice_14 rfl (wp_aload_n dX12_choice_15 rfl rfl (wp_lload_n dX12_choice_16 rfl (wp_iv2 dX12_choice_17 k11_124 q_X12_isWord (by decide) (xsh X1 sh_187) (by decide) (Nat.le_of_ble_eq_true rfl) (m_isWord (d + 2) X1 T1 t1' hw0 hv0) ?_)))))
      refine wb_if_eq dX12_choice_20 rfl (fun c20 => absurd c20 (by rw [h0]; decide)) (fun c20 => ?_)
      exact wp_iconst (v := nI 0) dX12_choice_23 rfl (wp_goto dX12_choice_24 rfl (t61 0 (by decide) e))
    | false =>
      cases h1 : xiw w1 n t (xta t n p) with
      | true =>
        have e : xwh t n (xta t n p) [w0, w1] 0 = some 1 := by simp only [xwh, h0, h1, if_true, Bool.false_eq_true, if_false]
        refine wp_aload_n dX12_choice_0 rfl rfl (wp_iload_n dX12_choice_1 rfl (wp_iv2 dX12_choice_2 k11_128 q_X12_once (by decide) (xsh hX sh_187) (by decide) (Nat.le_of_ble_eq_true rfl) g1 ?_))
        refine wb_if_ne dX12_choice_5 rfl (fun c5 => ?_) (fun c5 => absurd c5 (by decide))
        refine wp_aload_n dX12_choice_10 rfl rfl (g11_260 dX12_choice_11 (xsh X1 sh_187) (xrr X1 r187_46) (wp_iload_n dX12_choice_14 rfl (wp_aload_n dX12_choice_15 rfl rfl (wp_lload_n dX12_choice_16 rfl (wp_iv2 dX12_choice_17 k11_124 q_X12_isWord (by decide) (xsh X1 sh_187) (by decide) (Nat.le_of_ble_eq_true rfl) (m_isWord (d + 2) X1 T1 t1' hw0 hv0) ?_)))))
        refine wb_if_eq dX12_choice_20 rfl (fun c20 => ?_) (fun c20 => absurd c20 (by rw [h0]; decide))
        refine wp_aload_n dX12_choice_27 rfl rfl (wp_lload dX12_choice_28 rfl (wp_iv2 dX12_choice_30 k11_124 q_X12_isWord (by decide) (xsh X1 sh_187) (by decide) (Nat.le_of_ble_eq_true rfl) (m_isWord (d + 2) X1 T1 t1' hw1 hv1) ?_))
        refine wb_if_eq dX12_choice_33 rfl (fun c33 => absurd c33 (by rw [h1]; decide)) (fun c33 => ?_)
        exact wp_iconst (v := nI 1) dX12_choice_36 rfl (wp_goto dX12_choice_37 rfl (t61 1 (by decide) e))
      | false =>
        have e : xwh t n (xta t n p) [w0, w1] 0 = none := by simp only [xwh, h0, h1, Bool.false_eq_true, if_false]
        refine wp_aload_n dX12_choice_0 rfl rfl (wp_iload_n dX12_choice_1 rfl (wp_iv2 dX12_choice_2 k11_128 q_X12_once (by decide) (xsh hX sh_187) (by decide) (Nat.le_of_ble_eq_true rfl) g1 ?_))
        refine wb_if_ne dX12_choice_5 rfl (fun c5 => ?_) (fun c5 => absurd c5 (by decide))
        refine wp_aload_n dX12_choice_10 rfl rfl (g11_260 dX12_choice_11 (xsh X1 sh_187) (xrr X1 r187_46) (wp_iload_n dX12_choice_14 rfl (wp_aload_n dX12_choice_15 rfl rfl (wp_lload_n dX12_choice_16 rfl (wp_iv2 dX12_choice_17 k11_124 q_X12_isWord (by decide) (xsh X1 sh_187) (by decide) (Nat.le_of_ble_eq_true rfl) (m_isWord (d + 2) X1 T1 t1' hw0 hv0) ?_)))))
        refine wb_if_eq dX12_choice_20 rfl (fun c20 => ?_) (fun c20 => absurd c20 (by rw [h0]; decide))
        refine wp_aload_n dX12_choice_27 rfl rfl (wp_lload dX12_choice_28 rfl (wp_iv2 dX12_choice_30 k11_124 q_X12_isWord (by decide) (xsh X1 sh_187) (by decide) (Nat.le_of_ble_eq_true rfl) (m_isWord (d + 2) X1 T1 t1' hw1 hv1) ?_))
        refine wb_if_eq dX12_choice_33 rfl (fun c33 => ?_) (fun c33 => absurd c33 (by rw [h1]; decide))
        refine wp_lload dX12_choice_40 rfl (wp_lconst dX12_choice_42 rfl (wp_lcmp dX12_choice_43 ?_))
        refine wp_if_eq dX12_choice_44 rfl (fun c44 => ?_) (fun c44 => absurd c44 (not_not_intro ((lg_cmp_eq _ _).mpr rfl)))
        exact wp_iconst (v := -1) dX12_choice_60 rfl (t61n e)
  obtain ⟨r, S', h1, b, rfl, h2⟩ := key
  exact ⟨b, S', h1, h2⟩
theorem m_choice3 {n p sm rm W0 W1 W2 : Nat} {w0 w1 w2 : List Nat} {t : Nat → Nat} (d : Nat) {S : xS} (hw0 : xnr w0 = W0 ∧ w0.length ≤ 8 ∧ 0 < W0 ∧ W0 < 2 ^ 63) (hv0 : ∀ c ∈ w0, 0 < c ∧ c < 256) (hw1 : xnr w1 = W1 ∧ w1.length ≤ 8 ∧ 0 < W1 ∧ W1 < 2 ^ 63) (hv1 : ∀ c ∈ w1, 0 < c ∧ c < 256) (hw2 : xnr w2 = W2 ∧ w2.length ≤ 8 ∧ 0 < W2 ∧ W2 < 2 ^ 63) (hv2 : ∀ c ∈ w2, 0 < c ∧ c < 256) (hX : XC S) (hT : xTxM S n t) (hM : xTM S n t p) (hs : S.2.1 187 20 = nI sm) (hs2 : sm < 2 ^ 31) (hrm : rm < 7) (hb : sm.testBit rm = false) : ∃ b S', xcall false (d + 2 + 1) j_X12_choice [.ref 187, .int (nI rm), .long (lN W0), .long (lN W1), .long (lN W2)] S (some (.int (xB b))) S' ∧ xCH t n (xta t n p) rm sm [w0, w1, w2] S b S' := by
  obtain ⟨S1, g1, f1, t1, o1⟩ := m_once d hX hT hM hs hs2 (r := rm) (by omega) hb
  have X1 := f1.XC hX
  have T1 := hT.fr f1 (by omega) (fun k => by omega)
  have t1' := t1
  obtain ⟨p1, a6, a4, a5, ar⟩ := t1
  have hab1 := xta_b t p1
  have b41 := xtk_b t n (xta t n p)
  have e9 : S1.2.1 187 9 = S.2.1 187 9 := f1.2.2 187 9 (by omega)
  have e50 : S1.2.1 187 50 = S.2.1 187 50 := f1.2.2 187 50 (by omega)
  have e11 : ∀ i, S1.2.1 211 i = S.2.1 211 i := fun i => f1.2.2 211 i (by omega)
  have e09 : ∀ i, S1.2.1 209 i = S.2.1 209 i := fun i => f1.2.2 209 i (by omega)
  have F1 : xFl xFY S S1 := f1.mono xFO_Y
  have t61n (hx : xwh t n (xta t n p) [w0, w1, w2] 0 = none) : Wp false (d + 2 + 1) 11 cX12_choice (some .boolean) false 61 [.ref 187, .int (nI rm), .long (lN W0), .float 0, .long (lN W1), .float 0, .long (lN W2), .float 0] [.int (-1), .int (nI rm), .ref 209] S1 (fun r S' => ∃ b, r = some (.int (xB b)) ∧ xCH t n (xta t n p) rm sm [w0, w1, w2] S b S') := by
    have F2 : xFl xFY S (xSI S1 209 rm (-1)) := F1.SI (Or.inr (Or.inl rfl))
    have T2 := T1.fr (P := fun i k => i = 209) ((xFl.rf S1).SI (k := rm) (v := -1) rfl) (by decide) (fun k => by decide)
    have t2 := t1'.fr (P := fun i k => i = 209) ((xFl.rf S1).SI (k := rm) (v := -1) rfl) (fun k _ _ => by decide) rfl
    have gc := m_cant2 (d + 1) (S := xSI S1 209 rm (-1)) X1 T2 t2
    obtain ⟨w1, w2, w3, w4⟩ := xW_f (e1 := (xfh t n (xta t n p)).1) (e2 := (xfh t n (xta t n p)).2) F2
    have qf := xCH_n hx w1 (w4 187 20 _ (xi o1 (Or.inl (by decide))) (by decide)) (w4 187 50 _ (xi e50 (Or.inl (by decide))) (by decide)) (fun i => w4 211 i _ (xi (e11 i) (Or.inl (by decide))) (Or.inl (by decide))) w2 w3
    refine wn_iastore dX12_choice_61 (xsh X1 sh_209) rfl (by omega) (by decide) (wp_aload_n dX12_choice_62 rfl rfl (g11_260 dX12_choice_63 (xsh X1 sh_187) (xrr X1 r187_46) (wp_iload_n dX12_choice_66 rfl (wn_iaload dX12_choice_67 (xsh X1 sh_209) rfl (by omega) (by decide) (xI_same _ _ _ _) ?_))))
    refine wp_if_ge dX12_choice_68 rfl (fun c68 => absurd c68 (by decide)) (fun c68 => ?_)
    exact wp_aload_n dX12_choice_71 rfl rfl (wp_iv1 dX12_choice_72 k11_61 q_X12_cant (by decide) (xsh X1 sh_187) (by decide) (Nat.le_of_ble_eq_true rfl) gc (wb_ret dX12_choice_75 rfl rfl ⟨false, rfl, qf⟩))
  have t61 (k : Nat) (hk3 : k < 3) (hx : xwh t n (xta t n p) [w0, w1, w2] 0 = some k) : Wp false (d + 2 + 1) 11 cX12_choice (some .boolean) false 61 [.ref 187, .int (nI rm), .long (lN W0), .float 0, .long (lN W1), .float 0, .long (lN W2), .float 0] [.int (nI k), .int (nI rm), .ref 209] S1 (fun r S' => ∃ b, r = some (.int (xB b)) ∧ xCH t n (xta t n p) rm sm [w0, w1, w2] S b S') := by
    have F0 : xFl (fun i k => i = 209 ∧ k = rm) S1 (xSI S1 209 rm (nI k)) := (xFl.rf S1).SI ⟨rfl, rfl⟩
    have F2 : xFl xFY S (xSI S1 209 rm (nI k)) := F1.SI (Or.inr (Or.inl rfl))
    have T2 := T1.fr F0 (by omega) (fun k => by omega)
    have X2 := F0.XC X1
    obtain ⟨S3, g3, f3, t3⟩ := m_next (d + 1) X2 T2 (F0.i a4 (by omega)) hab1.2.1
    have X3 := f3.XC X2
    have T3 := T2.fr f3 (by omega) (fun k => by omega)
    have q9 : S3.2.1 187 9 = S.2.1 187 9 := f3.i (F0.i e9 (by omega)) (by omega)
    have q20 : S3.2.1 187 20 = nI (sm ||| 2 ^ rm) := f3.i (F0.i o1 (by omega)) (by omega)
    have q50 : S3.2.1 187 50 = S.2.1 187 50 := f3.i (F0.i e50 (by omega)) (by omega)
    have q11 : ∀ i, S3.2.1 211 i = S.2.1 211 i := fun i => f3.i (F0.i (e11 i) (by omega)) (by omega)
    have q09 : ∀ i, i ≠ rm → S3.2.1 209 i = S.2.1 209 i := fun i hi => f3.i (F0.i (e09 i) (by omega)) (by omega)
    have qr : S3.2.1 209 rm = nI k := f3.i (xI_same _ _ _ _) (by omega)
    have F3 : xFl xFY S S3 := F2.tt (f3.mono xFN_Y)
    by_cases h3 : xtk t n (xta t n (xta t n p)) = 3
    · obtain ⟨S4, g4, f4, t4⟩ := m_semi d X3 T3 t3 h3
      have qt := xCH_t hx (F3.tt (f4.mono xFN_Y)) (f4.i q20 (by omega)) (f4.i q50 (by omega)) (fun i => f4.i (q11 i) (by omega)) (fun i hi => f4.i (q09 i hi) (by omega)) (f4.i qr (by omega)) h3 (f4.i q9 (by omega)) t4
      refine wn_iastore dX12_choice_61 (xsh X1 sh_209) rfl (by omega) (by decide) (wp_aload_n dX12_choice_62 rfl rfl (g11_260 dX12_choice_63 (xsh X1 sh_187) (xrr X1 r187_46) (wp_iload_n dX12_choice_66 rfl (wn_iaload dX12_choice_67 (xsh X1 sh_209) rfl (by omega) (by decide) (xI_same _ _ _ _) ?_))))
      refine wn_if_ge dX12_choice_68 rfl (by omega) ?_
      exact wp_aload_n dX12_choice_76 rfl rfl (wp_iv1 dX12_choice_77 k11_65 q_X12_next (by decide) (xsh X1 sh_187) (by decide) (Nat.le_of_ble_eq_true rfl) g3 (wp_aload_n dX12_choice_80 rfl rfl (wp_iv1 dX12_choice_81 k11_131 q_X12_semi (by decide) (xsh X3 sh_187) (by decide) (Nat.le_of_ble_eq_true rfl) g4 (wb_ret dX12_choice_84 rfl rfl ⟨true, rfl, qt⟩))))
    · have g4 := m_semi_no2 d X3 T3 t3 h3
      obtain ⟨w1, w2, w3, w4⟩ := xW_f (e1 := (xfh t n (xta t n (xta t n p))).1) (e2 := (xfh t n (xta t n (xta t n p))).2) F3
      have qf := xCH_f hx w1 (w4 187 20 _ q20 (by decide)) (w4 187 50 _ q50 (by decide)) (fun i => w4 211 i _ (q11 i) (Or.inl (by decide))) (fun i hi => w4 209 i _ (q09 i hi) (Or.inl (by decide))) (w4 209 rm _ qr (Or.inl (by decide))) h3 w2 w3
      refine wn_iastore dX12_choice_61 (xsh X1 sh_209) rfl (by omega) (by decide) (wp_aload_n dX12_choice_62 rfl rfl (g11_260 dX12_choice_63 (xsh X1 sh_187) (xrr X1 r187_46) (wp_iload_n dX12_choice_66 rfl (wn_iaload dX12_choice_67 (xsh X1 sh_209) rfl (by omega) (by decide) (xI_same _ _ _ _) ?_))))
      refine wn_if_ge dX12_choice_68 rfl (by omega) ?_
      exact wp_aload_n dX12_choice_76 rfl rfl (wp_iv1 dX12_choice_77 k11_65 q_X12_next (by decide) (xsh X1 sh_187) (by decide) (Nat.le_of_ble_eq_true rfl) g3 (wp_aload_n dX12_choice_80 rfl rfl (wp_iv1 dX12_choice_81 k11_131 q_X12_semi (by decide) (xsh X3 sh_187) (by decide) (Nat.le_of_ble_eq_true rfl) g4 (wb_ret dX12_choice_84 rfl rfl ⟨false, rfl, qf⟩))))
  have key : ∃ r S', xcall false (d + 2 + 1) j_X12_choice [.ref 187, .int (nI rm), .long (lN W0), .long (lN W1), .long (lN W2)] S r S' ∧ (∃ b, r = some (.int (xB b)) ∧ xCH t n (xta t n p) rm sm [w0, w1, w2] S b S') := by
    refine xcall_some (ls := [.ref 187, .int (nI rm), .long (lN W0), .float 0, .long (lN W1), .float 0, .long (lN W2), .float 0]) q_X12_choice (by decide) rfl (Nat.le_of_ble_eq_true rfl) rfl ?_
    cases h0 : xiw w0 n t (xta t n p) with
    | true =>
      have e : xwh t n (xta t n p) [w0, w1, w2] 0 = some 0 := by simp only [xwh, h0, if_true, Bool.false_eq_true, if_false]
      refine wp_aload_n dX12_choice_0 rfl rfl (wp_iload_n dX12_choice_1 rfl (wp_iv2 dX12_choice_2 k11_128 q_X12_once (by decide) (xsh hX sh_187) (by decide) (Nat.le_of_ble_eq_true rfl) g1 ?_))
      refine wb_if_ne dX12_choice_5 rfl (fun c5 => ?_) (fun c5 => absurd c5 (by decide))
      refine wp_aload_n dX12_choice_10 rfl rfl (g11_260 dX12_choice_11 (xsh X1 sh_187) (xrr X1 r187_46) (wp_iload_n dX12_choice_14 rfl (wp_aload_n dX12_choice_15 rfl rfl (wp_lload_n dX12_choice_16 rfl (wp_iv2 dX12_choice_17 k11_124 q_X12_isWord (by decide) (xsh X1 sh_187) (by decide) (Nat.le_of_ble_eq_true rfl) (m_isWord (d + 2) X1 T1 t1' hw0 hv0) ?_)))))
      refine wb_if_eq dX12_choice_20 rfl (fun c20 => absurd c20 (by rw [h0]; decide)) (fun c20 => ?_)
      exact wp_iconst (v := nI 0) dX12_choice_23 rfl (wp_goto dX12_choice_24 rfl (t61 0 (by decide) e))
    | false =>
      cases h1 : xiw w1 n t (xta t n p) with
      | true =>
        have e : xwh t n (xta t n p) [w0, w1, w2] 0 = some 1 := by simp only [xwh, h0, h1, if_true, Bool.false_eq_true, if_false]
        refine wp_aload_n dX12_choice_0 rfl rfl (wp_iload_n dX12_choice_1 rfl (wp_iv2 dX12_choice_2 k11_128 q_X12_once (by decide) (xsh hX sh_187) (by decide) (Nat.le_of_ble_eq_true rfl) g1 ?_))
        refine wb_if_ne dX12_choice_5 rfl (fun c5 => ?_) (fun c5 => absurd c5 (by decide))
        refine wp_aload_n dX12_choice_10 rfl rfl (g11_260 dX12_choice_11 (xsh X1 sh_187) (xrr X1 r187_46) (wp_iload_n dX12_choice_14 rfl (wp_aload_n dX12_choice_15 rfl rfl (wp_lload_n dX12_choice_16 rfl (wp_iv2 dX12_choice_17 k11_124 q_X12_isWord (by decide) (xsh X1 sh_187) (by decide) (Nat.le_of_ble_eq_true rfl) (m_isWord (d + 2) X1 T1 t1' hw0 hv0) ?_)))))
        refine wb_if_eq dX12_choice_20 rfl (fun c20 => ?_) (fun c20 => absurd c20 (by rw [h0]; decide))
        refine wp_aload_n dX12_choice_27 rfl rfl (wp_lload dX12_choice_28 rfl (wp_iv2 dX12_choice_30 k11_124 q_X12_isWord (by decide) (xsh X1 sh_187) (by decide) (Nat.le_of_ble_eq_true rfl) (m_isWord (d + 2) X1 T1 t1' hw1 hv1) ?_))
        refine wb_if_eq dX12_choice_33 rfl (fun c33 => absurd c33 (by rw [h1]; decide)) (fun c33 => ?_)
        exact wp_iconst (v := nI 1) dX12_choice_36 rfl (wp_goto dX12_choice_37 rfl (t61 1 (by decide) e))
      | false =>
        cases h2 : xiw w2 n t (xta t n p) with
        | true =>
          have e : xwh t n (xta t n p) [w0, w1, w2] 0 = some 2 := by simp only [xwh, h0, h1, h2, if_true, Bool.false_eq_true, if_false]
          refine wp_aload_n dX12_choice_0 rfl rfl (wp_iload_n dX12_choice_1 rfl (wp_iv2 dX12_choice_2 k11_128 q_X12_once (by decide) (xsh hX sh_187) (by decide) (Nat.le_of_ble_eq_true rfl) g1 ?_))
          refine wb_if_ne dX12_choice_5 rfl (fun c5 => ?_) (fun c5 => absurd c5 (by decide))
          refine wp_aload_n dX12_choice_10 rfl rfl (g11_260 dX12_choice_11 (xsh X1 sh_187) (xrr X1 r187_46) (wp_iload_n dX12_choice_14 rfl (wp_aload_n dX12_choice_15 rfl rfl (wp_lload_n dX12_choice_16 rfl (wp_iv2 dX12_choice_17 k11_124 q_X12_isWord (by decide) (xsh X1 sh_187) (by decide) (Nat.le_of_ble_eq_true rfl) (m_isWord (d + 2) X1 T1 t1' hw0 hv0) ?_)))))
          refine wb_if_eq dX12_choice_20 rfl (fun c20 => ?_) (fun c20 => absurd c20 (by rw [h0]; decide))
          refine wp_aload_n dX12_choice_27 rfl rfl (wp_lload dX12_choice_28 rfl (wp_iv2 dX12_choice_30 k11_124 q_X12_isWord (by decide) (xsh X1 sh_187) (by decide) (Nat.le_of_ble_eq_true rfl) (m_isWord (d + 2) X1 T1 t1' hw1 hv1) ?_))
          refine wb_if_eq dX12_choice_33 rfl (fun c33 => ?_) (fun c33 => absurd c33 (by rw [h1]; decide))
          refine wp_lload dX12_choice_40 rfl (wp_lconst dX12_choice_42 rfl (wp_lcmp dX12_choice_43 ?_))
          refine wp_if_eq dX12_choice_44 rfl (fun c44 => absurd c44 (fun e => absurd ((pk_lEQ (b := 0) hw2.2.2.2 (by decide)).mp ((lg_cmp_eq _ _).mp e)) (by omega))) (fun c44 => ?_)
          refine wp_aload_n dX12_choice_47 rfl rfl (wp_lload dX12_choice_48 rfl (wp_iv2 dX12_choice_50 k11_124 q_X12_isWord (by decide) (xsh X1 sh_187) (by decide) (Nat.le_of_ble_eq_true rfl) (m_isWord (d + 2) X1 T1 t1' hw2 hv2) ?_))
          refine wb_if_eq dX12_choice_53 rfl (fun c53 => absurd c53 (by rw [h2]; decide)) (fun c53 => ?_)
          exact wp_iconst (v := nI 2) dX12_choice_56 rfl (wp_goto dX12_choice_57 rfl (t61 2 (by decide) e))
        | false =>
          have e : xwh t n (xta t n p) [w0, w1, w2] 0 = none := by simp only [xwh, h0, h1, h2, Bool.false_eq_true, if_false]
          refine wp_aload_n dX12_choice_0 rfl rfl (wp_iload_n dX12_choice_1 rfl (wp_iv2 dX12_choice_2 k11_128 q_X12_once (by decide) (xsh hX sh_187) (by decide) (Nat.le_of_ble_eq_true rfl) g1 ?_))
          refine wb_if_ne dX12_choice_5 rfl (fun c5 => ?_) (fun c5 => absurd c5 (by decide))
          refine wp_aload_n dX12_choice_10 rfl rfl (g11_260 dX12_choice_11 (xsh X1 sh_187) (xrr X1 r187_46) (wp_iload_n dX12_choice_14 rfl (wp_aload_n dX12_choice_15 rfl rfl (wp_lload_n dX12_choice_16 rfl (wp_iv2 dX12_choice_17 k11_124 q_X12_isWord (by decide) (xsh X1 sh_187) (by decide) (Nat.le_of_ble_eq_true rfl) (m_isWord (d + 2) X1 T1 t1' hw0 hv0) ?_)))))
          refine wb_if_eq dX12_choice_20 rfl (fun c20 => ?_) (fun c20 => absurd c20 (by rw [h0]; decide))
          refine wp_aload_n dX12_choice_27 rfl rfl (wp_lload dX12_choice_28 rfl (wp_iv2 dX12_choice_30 k11_124 q_X12_isWord (by decide) (xsh X1 sh_187) (by decide) (Nat.le_of_ble_eq_true rfl) (m_isWord (d + 2) X1 T1 t1' hw1 hv1) ?_))
          refine wb_if_eq dX12_choice_33 rfl (fun c33 => ?_) (fun c33 => absurd c33 (by rw [h1]; decide))
          refine wp_lload dX12_choice_40 rfl (wp_lconst dX12_choice_42 rfl (wp_lcmp dX12_choice_43 ?_))
          refine wp_if_eq dX12_choice_44 rfl (fun c44 => absurd c44 (fun e => absurd ((pk_lEQ (b := 0) hw2.2.2.2 (by decide)).mp ((lg_cmp_eq _ _).mp e)) (by omega))) (fun c44 => ?_)
          refine wp_aload_n dX12_choice_47 rfl rfl (wp_lload dX12_choice_48 rfl (wp_iv2 dX12_choice_50 k11_124 q_X12_isWord (by decide) (xsh X1 sh_187) (by decide) (Nat.le_of_ble_eq_true rfl) (m_isWord (d + 2) X1 T1 t1' hw2 hv2) ?_))
          refine wb_if_eq dX12_choice_53 rfl (fun c53 => ?_) (fun c53 => absurd c53 (by rw [h2]; decide))
          exact wp_iconst (v := -1) dX12_choice_60 rfl (t61n e)
  obtain ⟨r, S', h1, b, rfl, h2⟩ := key
  exact ⟨b, S', h1, h2⟩
