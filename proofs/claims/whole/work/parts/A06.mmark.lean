/-! a GAME of the reference: the states to which one comes are marked -/
theorem xxor_lt {m h : Nat} (hb : m.testBit h = true) : m ^^^ 2 ^ h < m := by
  have e : (m ^^^ 2 ^ h) ||| 2 ^ h = m := by
    refine Nat.eq_of_testBit_eq (fun i => ?_)
    rw [Nat.testBit_or, xtb_rm, Nat.testBit_two_pow]
    rcases Decidable.em (h = i) with w | w
    · subst w; rw [hb, decide_eq_true rfl]; rfl
    · rw [decide_eq_false w, Bool.xor_false, Bool.or_false]
  have le : m ^^^ 2 ^ h ≤ (m ^^^ 2 ^ h) ||| 2 ^ h := Nat.left_le_or
  rw [e] at le
  rcases Nat.lt_or_eq_of_le le with w | w
  · exact w
  · have q := xtb_rm (m := m) (h := h) (i := h)
    rw [w, hb, decide_eq_true rfl] at q
    cases q
def xCm (S : xS) (cell : Nat) (B : Nat → Bool) : Prop := ∀ x, x < 16384 → S.2.1 cell x = xB (B x)
theorem xCm.fr {S S' : xS} {cell : Nat} {B : Nat → Bool} {P : Nat → Nat → Prop} (h : xCm S cell B) (hf : xFl P S S') (hn : ∀ x, ¬ P cell x) : xCm S' cell B := fun x hx => hf.i (h x hx) (hn x)
theorem xCm.set {S : xS} {cell y : Nat} {B : Nat → Bool} (h : xCm S cell B) : xCm (xSI S cell y (xB true)) cell (fun x => B x || decide (x = y)) := by
  intro x hx
  rcases Decidable.em (x = y) with w | w
  · subst w
    show _ = xB (B x || decide (x = x))
    rw [decide_eq_true rfl, Bool.or_true]
    exact xI_same _ _ _ _
  · show _ = xB (B x || decide (x = y))
    rw [decide_eq_false w, Bool.or_false]
    exact xi (h x hx) (Or.inr w)
def xGo (c : xPx) (B : Nat → Bool) : Prop := ∀ x, B x = true → ∃ m s k, x = xqt c m s k ∧ xgd c m s k
def xGl (c : xPx) (ex : Nat) (B : Nat → Bool) (m s k n : Nat) : Prop := ∀ a, a < n → xen c ex m s k a = none → B (xqt c (xn1 c ex m s k a) (xn2 c ex m s k a) (k + 1)) = true
def xmku (x0 : Nat) (B B' : Nat → Bool) : Prop := (∀ x, B x = true → B' x = true) ∧ ∀ x, x0 ≤ x → B' x = B x
theorem xmku.rf (x0 : Nat) (B : Nat → Bool) : xmku x0 B B := ⟨fun _ h => h, fun _ _ => rfl⟩
theorem xmku.tr {x0 : Nat} {A B D : Nat → Bool} (h : xmku x0 A B) (h2 : xmku x0 B D) : xmku x0 A D := ⟨fun x hx => h2.1 x (h.1 x hx), fun x hx => (h2.2 x hx).trans (h.2 x hx)⟩
theorem xmku.set {x0 y : Nat} {B : Nat → Bool} (h : y < x0) : xmku x0 B (fun x => B x || decide (x = y)) := by
  refine ⟨fun x hx => ?_, fun x hx => ?_⟩
  · show (B x || decide (x = y)) = true
    rw [hx, Bool.true_or]
  · show (B x || decide (x = y)) = B x
    rw [decide_eq_false (by omega), Bool.or_false]
theorem xGo.set {c : xPx} {B : Nat → Bool} {m s k : Nat} (h : xGo c B) (hg : xgd c m s k) : xGo c (fun x => B x || decide (x = xqt c m s k)) := by
  intro x hx
  rcases Bool.or_eq_true _ _ ▸ hx with q | q
  · exact h x q
  · exact ⟨m, s, k, of_decide_eq_true q, hg⟩
theorem xqt_lt {c : xPx} {ex m s k a : Nat} (ho : xzo c) (h8 : xgH (xzg c) ≤ 8) (h : xgd c m s k) (he : xen c ex m s k a = none) : xqt c (xn1 c ex m s k a) (xn2 c ex m s k a) (k + 1) < xqt c m s k := by
  have h' := h.nx ho he
  obtain ⟨q1, q2, q3, q4, _⟩ := h.b ho h8
  obtain ⟨p1, p2, p3, p4, _⟩ := h'.b ho h8
  have a1 := (xsT_d (m := m) (b := xbk (xzg c) k) q2 q3).1
  have a2 := (xsT_d (m := xn1 c ex m s k a) (b := xbk (xzg c) (k + 1)) p2 p3).1
  obtain ⟨x, hx, hb⟩ := xtb_ex h.1 h.2.1
  have hr1 := xzR_pos (k := k) hx hb h.2.2.1
  have hbit : m.testBit (xzh c ex m s k a) = true := xha_tb h.2.2.1 hr1
  have lt : xn1 c ex m s k a < m := xxor_lt hbit
  unfold xqt
  omega
theorem xGl.up {c : xPx} {ex m s k n x0 : Nat} {B B' : Nat → Bool} (h : xGl c ex B m s k n) (hu : xmku x0 B B') : xGl c ex B' m s k n := fun a ha he => hu.1 _ (h a ha he)
theorem mf_loop {c : xPx} {ex m s k d : Nat} (ho : xzo c) (ha : xzal c = true) (h8 : xgH (xzg c) ≤ 8) (hex : ex ≤ 1000) (hg : xgd c m s k) (hask : xzA c k = true) : ∀ (j a : Nat) (S : xS) (B : Nat → Bool), a + j = c.2.2.2.1.length → xWk S c ex m s k → xCm S 220 B → xGo c B → xGl c ex B m s k a → Wp false (d + 4) 11 cX12_markFrom none false 26 [.ref 187, .int (nI (xqt c m s k)), .int (xB true), .int (nI a)] [] S (fun r S' => r = none ∧ xFl (fun i q => (i = 187 ∧ 64 ≤ q ∧ q ≤ 69) ∨ i = 220) S S' ∧ ∃ B', xCm S' 220 B' ∧ xGo c B' ∧ xmku (xqt c m s k) B B' ∧ xGl c ex B' m s k (xzw c k)) := by
  have hP : xgP (xzg c) ≤ 12 := ho.g.2.1
  have hac := ho.2.2.1
  have hw : xzw c k = c.2.2.2.1.length := by unfold xzw; rw [if_pos hask]
  have p12 : 2 ^ xgP (xzg c) ≤ 2 ^ 12 := Nat.pow_le_pow_right (by decide) hP
  intro j
  induction j with
  | zero =>
    intro a S B haj hW hB hG hc
    have haa : a = c.2.2.2.1.length := by omega
    have hX := hW.1
    have k31 := hW.2.1.2.2.2.2.2.2.2.2.2.1
    have fin : xFl (fun i q => (i = 187 ∧ 64 ≤ q ∧ q ≤ 69) ∨ i = 220) S S ∧ ∃ B', xCm S 220 B' ∧ xGo c B' ∧ xmku (xqt c m s k) B B' ∧ xGl c ex B' m s k (xzw c k) := ⟨xFl.rf S, B, hB, hG, xmku.rf _ _, by rw [hw, ← haa]; exact hc⟩
    refine wp_iload_n dX12_markFrom_26 rfl (wp_iload_n dX12_markFrom_27 rfl ?_)
    refine wb_if_eq dX12_markFrom_28 rfl (fun c28 => absurd c28 (by decide)) (fun c28 => ?_)
    refine wp_aload_n dX12_markFrom_31 rfl rfl (gv11_189 dX12_markFrom_32 (xsh hX sh_187) k31 (wp_goto dX12_markFrom_35 rfl ?_))
    refine wn_icmp_ge dX12_markFrom_39 rfl (by omega) (by omega) (fun c39 => ?_) (fun c39 => absurd c39 (by omega))
    exact wp_return dX12_markFrom_86 rfl ⟨rfl, fin⟩
  | succ j ih =>
    intro a S B haj hW hB hG hc
    have hX := hW.1
    have k31 := hW.2.1.2.2.2.2.2.2.2.2.2.1
    obtain ⟨S1, gf, f1, k64, out⟩ := m_finishState (a := a) (d + 0) ho ha h8 hex hg hW (Or.inl ⟨hask, rfl, by omega⟩)
    have X1 := f1.XC hX
    have W1 := hW.fr ho f1 (fun i q h => by omega)
    have B1 := hB.fr f1 (fun x h => by omega)
    rcases out with ⟨L, e1, k65, hL⟩ | ⟨e1, k65, k66, k67, k68, k69, hn⟩
    · have nx := (ih (a + 1) S1 B (by omega) W1 B1 hG (fun b hb he => by
        rcases Nat.lt_or_ge b a with w | w
        · exact hc b w he
        · rw [show b = a by omega, e1] at he
          cases he)).mono (Q' := (fun r S' => r = none ∧ xFl (fun i q => (i = 187 ∧ 64 ≤ q ∧ q ≤ 69) ∨ i = 220) S S' ∧ ∃ B', xCm S' 220 B' ∧ xGo c B' ∧ xmku (xqt c m s k) B B' ∧ xGl c ex B' m s k (xzw c k))) (fun r S' z => ⟨z.1, (f1.mono (fun i q h => Or.inl h)).tt z.2.1, z.2.2⟩)
      refine wp_iload_n dX12_markFrom_26 rfl (wp_iload_n dX12_markFrom_27 rfl ?_)
      refine wb_if_eq dX12_markFrom_28 rfl (fun c28 => absurd c28 (by decide)) (fun c28 => ?_)
      refine wp_aload_n dX12_markFrom_31 rfl rfl (gv11_189 dX12_markFrom_32 (xsh hX sh_187) k31 (wp_goto dX12_markFrom_35 rfl ?_))
      refine wn_icmp_ge dX12_markFrom_39 rfl (by omega) (by omega) (fun c39 => absurd c39 (by omega)) (fun c39 => ?_)
      refine wp_aload_n dX12_markFrom_42 rfl rfl (wp_iload_n dX12_markFrom_43 rfl (wp_iload_n dX12_markFrom_44 rfl (wp_iv3 dX12_markFrom_45 k11_494 q_X12_finishState (by decide) (xsh hX sh_187) (by decide) (Nat.le_of_ble_eq_true rfl) gf (wp_aload_n dX12_markFrom_48 rfl rfl (gv11_427 dX12_markFrom_49 (xsh X1 sh_187) k65 ?_)))))
      refine wn_if_ge dX12_markFrom_52 rfl (by omega) ?_
      exact wp_iinc dX12_markFrom_80 rfl (nI_1 _) ⟨Nat.le_of_ble_eq_true rfl, Or.inr rfl⟩ rfl (wp_goto dX12_markFrom_83 rfl nx)
    · have gs := m_stateOf (m := xn1 c ex m s k a) (s := xn2 c ex m s k a) (r := (k + 1) % c.1.2.length) (b := xbk (xzg c) (k + 1)) (d + 3) (S := S1)
      have hlt := (hn.b ho h8).2.2.2.1
      have hlt : xsT (xn1 c ex m s k a) (xn2 c ex m s k a) (xbk (xzg c) (k + 1)) ((k + 1) % c.1.2.length) < 16384 := hlt
      have F2 : xFl (fun i q => (i = 187 ∧ 64 ≤ q ∧ q ≤ 69) ∨ i = 220) S1 (xSI S1 220 (xqt c (xn1 c ex m s k a) (xn2 c ex m s k a) (k + 1)) (xB true)) := (xFl.rf S1).SI (Or.inr rfl)
      have U := xmku.set (B := B) (xqt_lt (a := a) ho h8 hg e1)
      have nx := (ih (a + 1) _ _ (by omega) (W1.fr ho F2 (fun i q h => by omega)) B1.set (hG.set hn) (fun b hb he => by
        rcases Nat.lt_or_ge b a with w | w
        · exact U.1 _ (hc b w he)
        · rw [show b = a by omega]
          show (B (xqt c (xn1 c ex m s k a) (xn2 c ex m s k a) (k + 1)) || decide ((xqt c (xn1 c ex m s k a) (xn2 c ex m s k a) (k + 1)) = (xqt c (xn1 c ex m s k a) (xn2 c ex m s k a) (k + 1)))) = true
          rw [decide_eq_true rfl, Bool.or_true])).mono (Q' := (fun r S' => r = none ∧ xFl (fun i q => (i = 187 ∧ 64 ≤ q ∧ q ≤ 69) ∨ i = 220) S S' ∧ ∃ B', xCm S' 220 B' ∧ xGo c B' ∧ xmku (xqt c m s k) B B' ∧ xGl c ex B' m s k (xzw c k))) (fun r S' z => by
        obtain ⟨z1, z2, B', z3, z4, z5, z6⟩ := z
        exact ⟨z1, ((f1.mono (fun i q h => Or.inl h)).tt F2).tt z2, B', z3, z4, U.tr z5, z6⟩)
      refine wp_iload_n dX12_markFrom_26 rfl (wp_iload_n dX12_markFrom_27 rfl ?_)
      refine wb_if_eq dX12_markFrom_28 rfl (fun c28 => absurd c28 (by decide)) (fun c28 => ?_)
      refine wp_aload_n dX12_markFrom_31 rfl rfl (gv11_189 dX12_markFrom_32 (xsh hX sh_187) k31 (wp_goto dX12_markFrom_35 rfl ?_))
      refine wn_icmp_ge dX12_markFrom_39 rfl (by omega) (by omega) (fun c39 => absurd c39 (by omega)) (fun c39 => ?_)
      refine wp_aload_n dX12_markFrom_42 rfl rfl (wp_iload_n dX12_markFrom_43 rfl (wp_iload_n dX12_markFrom_44 rfl (wp_iv3 dX12_markFrom_45 k11_494 q_X12_finishState (by decide) (xsh hX sh_187) (by decide) (Nat.le_of_ble_eq_true rfl) gf (wp_aload_n dX12_markFrom_48 rfl rfl (gv11_427 dX12_markFrom_49 (xsh X1 sh_187) k65 ?_)))))
      refine wp_if_ge dX12_markFrom_52 rfl (fun c52 => absurd c52 (by decide)) (fun c52 => ?_)
      exact wp_aload_n dX12_markFrom_55 rfl rfl (g11_355 dX12_markFrom_56 (xsh X1 sh_187) (xrr X1 r187_73) (wp_aload_n dX12_markFrom_59 rfl rfl (gv11_430 dX12_markFrom_60 (xsh X1 sh_187) k66 (wp_aload_n dX12_markFrom_63 rfl rfl (gv11_445 dX12_markFrom_64 (xsh X1 sh_187) k67 (wp_aload_n dX12_markFrom_67 rfl rfl (gv11_433 dX12_markFrom_68 (xsh X1 sh_187) k68 (wp_aload_n dX12_markFrom_71 rfl rfl (gv11_436 dX12_markFrom_72 (xsh X1 sh_187) k69 (wp_is4 dX12_markFrom_75 k11_481 q_X12_stateOf (by decide) (Nat.le_of_ble_eq_true rfl) gs (wp_iconst (v := nI 1) dX12_markFrom_78 rfl (wn_zastore dX12_markFrom_79 (xsh X1 sh_220) rfl (by omega) (by decide) (show vp_nar .boolean (nI 1) = xB true from rfl) (wp_iinc dX12_markFrom_80 rfl (nI_1 _) ⟨Nat.le_of_ble_eq_true rfl, Or.inr rfl⟩ rfl (wp_goto dX12_markFrom_83 rfl nx))))))))))))))
theorem m_markFrom {c : xPx} {ex x : Nat} {B : Nat → Bool} (d : Nat) (ho : xzo c) (ha : xzal c = true) (h8 : xgH (xzg c) ≤ 8) (hex : ex ≤ 1000) (hx : x < 16384) {S : xS} (hX : XC S) (hD : xMpd S c ex) (hB : xCm S 220 B) (hG : xGo c B) : ∃ S', xcall false (d + 4) j_X12_markFrom [.ref 187, .int (nI x)] S none S' ∧ xFl (fun i q => (i = 187 ∧ 61 ≤ q ∧ q ≤ 70) ∨ i = 216 ∨ i = 220) S S' ∧ ∃ B', xCm S' 220 B' ∧ xGo c B' ∧ xmku x B B' ∧ (∀ m s k, xgd c m s k → x = xqt c m s k → B x = true → xGl c ex B' m s k (xzw c k)) := by
  have hbx := hB x hx
  have hP : xgP (xzg c) ≤ 12 := ho.g.2.1
  have p12 : 2 ^ xgP (xzg c) ≤ 2 ^ 12 := Nat.pow_le_pow_right (by decide) hP
  cases eb : B x with
  | false =>
    rw [eb] at hbx
    refine ⟨S, ?_, xFl.rf S, B, hB, hG, xmku.rf _ _, fun m s k _ _ h => by cases h⟩
    refine xcall_intro (ls := [.ref 187, .int (nI x), .float 0, .float 0]) q_X12_markFrom (by decide) rfl (Nat.le_of_ble_eq_true rfl) rfl ?_
    refine wp_aload_n dX12_markFrom_0 rfl rfl (g11_355 dX12_markFrom_1 (xsh hX sh_187) (xrr hX r187_73) (wp_iload_n dX12_markFrom_4 rfl (wn_baload dX12_markFrom_5 (xsh hX sh_220) (Or.inr rfl) (by omega) (by decide) hbx ?_)))
    refine wb_if_ne dX12_markFrom_6 rfl (fun c6 => absurd c6 (by decide)) (fun c6 => ?_)
    exact wp_return dX12_markFrom_9 rfl ⟨rfl, rfl⟩
  | true =>
    rw [eb] at hbx
    obtain ⟨m, s, k, rfl, hg⟩ := hG x eb
    obtain ⟨S1, gw, f1, W1, k70, k63⟩ := m_walkState (d + 0) ho ha h8 hex hg hX hD
    have X1 := f1.XC hX
    have B1 := hB.fr f1 (fun x h => by omega)
    have uni : ∀ {B' : Nat → Bool}, xGl c ex B' m s k (xzw c k) → ∀ m' s' k', xgd c m' s' k' → xqt c m s k = xqt c m' s' k' → true = true → xGl c ex B' m' s' k' (xzw c k') := fun h m' s' k' hg' e _ => by
      obtain ⟨rfl, rfl, rfl⟩ := xqt_inj ho h8 hg hg' e
      exact h
    cases hask : xzA c k with
    | true =>
      rw [hask] at gw
      have lp := mf_loop (d := d) ho ha h8 hex hg hask c.2.2.2.1.length 0 S1 B (Nat.zero_add _) W1 B1 hG (fun a ha => absurd ha (Nat.not_lt_zero a))
      obtain ⟨r, S2, g2, rfl, z2, B', z3, z4, z5, z6⟩ := xcall_some (al := false) (d := d + 4) (ls := [.ref 187, .int (nI (xqt c m s k)), .float 0, .float 0]) (S := S) (as := [.ref 187, .int (nI (xqt c m s k))]) q_X12_markFrom (by decide) rfl (Nat.le_of_ble_eq_true rfl) rfl (P := (fun r S' => r = none ∧ xFl (fun i q => (i = 187 ∧ 64 ≤ q ∧ q ≤ 69) ∨ i = 220) S1 S' ∧ ∃ B', xCm S' 220 B' ∧ xGo c B' ∧ xmku (xqt c m s k) B B' ∧ xGl c ex B' m s k (xzw c k))) (by
        refine wp_aload_n dX12_markFrom_0 rfl rfl (g11_355 dX12_markFrom_1 (xsh hX sh_187) (xrr hX r187_73) (wp_iload_n dX12_markFrom_4 rfl (wn_baload dX12_markFrom_5 (xsh hX sh_220) (Or.inr rfl) (by omega) (by decide) hbx ?_)))
        refine wb_if_ne dX12_markFrom_6 rfl (fun c6 => ?_) (fun c6 => absurd c6 (by decide))
        refine wp_aload_n dX12_markFrom_10 rfl rfl (wp_iload_n dX12_markFrom_11 rfl (wp_iv2 dX12_markFrom_12 k11_491 q_X12_walkState (by decide) (xsh hX sh_187) (by decide) (Nat.le_of_ble_eq_true rfl) gw (wp_istore_n dX12_markFrom_15 ⟨Nat.le_of_ble_eq_true rfl, Or.inr rfl⟩ rfl (wp_iload_n dX12_markFrom_16 rfl ?_))))
        refine wb_if_eq dX12_markFrom_17 rfl (fun c17 => absurd c17 (by decide)) (fun c17 => ?_)
        exact wp_iconst (v := nI 0) dX12_markFrom_20 rfl (wp_goto dX12_markFrom_21 rfl (wp_istore_n dX12_markFrom_25 ⟨Nat.le_of_ble_eq_true rfl, Or.inr rfl⟩ rfl lp)))
      exact ⟨S2, g2, (f1.mono (fun i q h => by omega)).tt (z2.mono (fun i q h => by omega)), B', z3, z4, z5, uni z6⟩
    | false =>
      rw [hask] at gw
      have hw : xzw c k = 1 := by unfold xzw; rw [hask, if_neg (by decide)]
      obtain ⟨S2, gf, f2, k64, out⟩ := m_finishState (a := 0) (d + 0) ho ha h8 hex hg W1 (Or.inr ⟨hask, rfl⟩)
      have X2 := f2.XC X1
      have B2 := B1.fr f2 (fun x h => by omega)
      have fm1 : (-1 : Int32) + 1 = nI 0 := by decide
      rcases out with ⟨L, e1, k65, hL⟩ | ⟨e1, k65, k66, k67, k68, k69, hn⟩
      · refine ⟨S2, ?_, (f1.mono (fun i q h => by omega)).tt (f2.mono (fun i q h => by omega)), B, B2, hG, xmku.rf _ _, uni (fun a ha he => ?_)⟩
        · have tail : Wp false (d + 4) 11 cX12_markFrom none false 80 [.ref 187, .int (nI (xqt c m s k)), .int (xB false), .int (-1)] [] S2 (fun r' S'' => r' = none ∧ S'' = S2) := by
            refine wp_iinc dX12_markFrom_80 rfl fm1 ⟨Nat.le_of_ble_eq_true rfl, Or.inr rfl⟩ rfl (wp_goto dX12_markFrom_83 rfl ?_)
            refine wp_iload_n dX12_markFrom_26 rfl (wp_iload_n dX12_markFrom_27 rfl ?_)
            refine wb_if_eq dX12_markFrom_28 rfl (fun c28 => ?_) (fun c28 => absurd c28 (by decide))
            refine wp_iconst (v := nI 0) dX12_markFrom_38 rfl ?_
            refine wn_icmp_ge dX12_markFrom_39 rfl (by omega) (by omega) (fun c39 => ?_) (fun c39 => absurd c39 (by omega))
            exact wp_return dX12_markFrom_86 rfl ⟨rfl, rfl⟩
          refine xcall_intro (ls := [.ref 187, .int (nI (xqt c m s k)), .float 0, .float 0]) q_X12_markFrom (by decide) rfl (Nat.le_of_ble_eq_true rfl) rfl ?_
          refine wp_aload_n dX12_markFrom_0 rfl rfl (g11_355 dX12_markFrom_1 (xsh hX sh_187) (xrr hX r187_73) (wp_iload_n dX12_markFrom_4 rfl (wn_baload dX12_markFrom_5 (xsh hX sh_220) (Or.inr rfl) (by omega) (by decide) hbx ?_)))
          refine wb_if_ne dX12_markFrom_6 rfl (fun c6 => ?_) (fun c6 => absurd c6 (by decide))
          refine wp_aload_n dX12_markFrom_10 rfl rfl (wp_iload_n dX12_markFrom_11 rfl (wp_iv2 dX12_markFrom_12 k11_491 q_X12_walkState (by decide) (xsh hX sh_187) (by decide) (Nat.le_of_ble_eq_true rfl) gw (wp_istore_n dX12_markFrom_15 ⟨Nat.le_of_ble_eq_true rfl, Or.inr rfl⟩ rfl (wp_iload_n dX12_markFrom_16 rfl ?_))))
          refine wb_if_eq dX12_markFrom_17 rfl (fun c17 => ?_) (fun c17 => absurd c17 (by decide))
          refine wp_iconst (v := -1) dX12_markFrom_24 rfl (wp_istore_n dX12_markFrom_25 ⟨Nat.le_of_ble_eq_true rfl, Or.inr rfl⟩ rfl ?_)
          refine wp_iload_n dX12_markFrom_26 rfl (wp_iload_n dX12_markFrom_27 rfl ?_)
          refine wb_if_eq dX12_markFrom_28 rfl (fun c28 => ?_) (fun c28 => absurd c28 (by decide))
          refine wp_iconst (v := nI 0) dX12_markFrom_38 rfl ?_
          refine wp_icmp_ge dX12_markFrom_39 rfl (fun c39 => absurd c39 (by decide)) (fun c39 => ?_)
          refine wp_aload_n dX12_markFrom_42 rfl rfl (wp_iload_n dX12_markFrom_43 rfl (wp_iload_n dX12_markFrom_44 rfl (wp_iv3 dX12_markFrom_45 k11_494 q_X12_finishState (by decide) (xsh X1 sh_187) (by decide) (Nat.le_of_ble_eq_true rfl) gf (wp_aload_n dX12_markFrom_48 rfl rfl (gv11_427 dX12_markFrom_49 (xsh X2 sh_187) k65 ?_)))))
          refine wn_if_ge dX12_markFrom_52 rfl (by omega) ?_
          exact tail
        · rw [hw] at ha
          rw [show a = 0 by omega, e1] at he
          cases he
      · have gs := m_stateOf (m := xn1 c ex m s k 0) (s := xn2 c ex m s k 0) (r := (k + 1) % c.1.2.length) (b := xbk (xzg c) (k + 1)) (d + 3) (S := S2)
        have hlt := (hn.b ho h8).2.2.2.1
        have hlt : xsT (xn1 c ex m s k 0) (xn2 c ex m s k 0) (xbk (xzg c) (k + 1)) ((k + 1) % c.1.2.length) < 16384 := hlt
        have F3 : xFl (fun i q => (i = 187 ∧ 61 ≤ q ∧ q ≤ 70) ∨ i = 216 ∨ i = 220) S2 (xSI S2 220 (xqt c (xn1 c ex m s k 0) (xn2 c ex m s k 0) (k + 1)) (xB true)) := (xFl.rf S2).SI (Or.inr (Or.inr rfl))
        have X3 := F3.XC X2
        have U := xmku.set (B := B) (xqt_lt (a := 0) ho h8 hg e1)
        refine ⟨_, ?_, ((f1.mono (fun i q h => by omega)).tt (f2.mono (fun i q h => by omega))).tt F3, _, B2.set, hG.set hn, U, uni (fun a ha he => ?_)⟩
        · have tail : Wp false (d + 4) 11 cX12_markFrom none false 80 [.ref 187, .int (nI (xqt c m s k)), .int (xB false), .int (-1)] [] (xSI S2 220 (xqt c (xn1 c ex m s k 0) (xn2 c ex m s k 0) (k + 1)) (xB true)) (fun r' S'' => r' = none ∧ S'' = (xSI S2 220 (xqt c (xn1 c ex m s k 0) (xn2 c ex m s k 0) (k + 1)) (xB true))) := by
            refine wp_iinc dX12_markFrom_80 rfl fm1 ⟨Nat.le_of_ble_eq_true rfl, Or.inr rfl⟩ rfl (wp_goto dX12_markFrom_83 rfl ?_)
            refine wp_iload_n dX12_markFrom_26 rfl (wp_iload_n dX12_markFrom_27 rfl ?_)
            refine wb_if_eq dX12_markFrom_28 rfl (fun c28 => ?_) (fun c28 => absurd c28 (by decide))
            refine wp_iconst (v := nI 0) dX12_markFrom_38 rfl ?_
            refine wn_icmp_ge dX12_markFrom_39 rfl (by omega) (by omega) (fun c39 => ?_) (fun c39 => absurd c39 (by omega))
            exact wp_return dX12_markFrom_86 rfl ⟨rfl, rfl⟩
          refine xcall_intro (ls := [.ref 187, .int (nI (xqt c m s k)), .float 0, .float 0]) q_X12_markFrom (by decide) rfl (Nat.le_of_ble_eq_true rfl) rfl ?_
          refine wp_aload_n dX12_markFrom_0 rfl rfl (g11_355 dX12_markFrom_1 (xsh hX sh_187) (xrr hX r187_73) (wp_iload_n dX12_markFrom_4 rfl (wn_baload dX12_markFrom_5 (xsh hX sh_220) (Or.inr rfl) (by omega) (by decide) hbx ?_)))
          refine wb_if_ne dX12_markFrom_6 rfl (fun c6 => ?_) (fun c6 => absurd c6 (by decide))
          refine wp_aload_n dX12_markFrom_10 rfl rfl (wp_iload_n dX12_markFrom_11 rfl (wp_iv2 dX12_markFrom_12 k11_491 q_X12_walkState (by decide) (xsh hX sh_187) (by decide) (Nat.le_of_ble_eq_true rfl) gw (wp_istore_n dX12_markFrom_15 ⟨Nat.le_of_ble_eq_true rfl, Or.inr rfl⟩ rfl (wp_iload_n dX12_markFrom_16 rfl ?_))))
          refine wb_if_eq dX12_markFrom_17 rfl (fun c17 => ?_) (fun c17 => absurd c17 (by decide))
          refine wp_iconst (v := -1) dX12_markFrom_24 rfl (wp_istore_n dX12_markFrom_25 ⟨Nat.le_of_ble_eq_true rfl, Or.inr rfl⟩ rfl ?_)
          refine wp_iload_n dX12_markFrom_26 rfl (wp_iload_n dX12_markFrom_27 rfl ?_)
          refine wb_if_eq dX12_markFrom_28 rfl (fun c28 => ?_) (fun c28 => absurd c28 (by decide))
          refine wp_iconst (v := nI 0) dX12_markFrom_38 rfl ?_
          refine wp_icmp_ge dX12_markFrom_39 rfl (fun c39 => absurd c39 (by decide)) (fun c39 => ?_)
          refine wp_aload_n dX12_markFrom_42 rfl rfl (wp_iload_n dX12_markFrom_43 rfl (wp_iload_n dX12_markFrom_44 rfl (wp_iv3 dX12_markFrom_45 k11_494 q_X12_finishState (by decide) (xsh X1 sh_187) (by decide) (Nat.le_of_ble_eq_true rfl) gf (wp_aload_n dX12_markFrom_48 rfl rfl (gv11_427 dX12_markFrom_49 (xsh X2 sh_187) k65 ?_)))))
          refine wp_if_ge dX12_markFrom_52 rfl (fun c52 => absurd c52 (by decide)) (fun c52 => ?_)
          exact wp_aload_n dX12_markFrom_55 rfl rfl (g11_355 dX12_markFrom_56 (xsh X2 sh_187) (xrr X2 r187_73) (wp_aload_n dX12_markFrom_59 rfl rfl (gv11_430 dX12_markFrom_60 (xsh X2 sh_187) k66 (wp_aload_n dX12_markFrom_63 rfl rfl (gv11_445 dX12_markFrom_64 (xsh X2 sh_187) k67 (wp_aload_n dX12_markFrom_67 rfl rfl (gv11_433 dX12_markFrom_68 (xsh X2 sh_187) k68 (wp_aload_n dX12_markFrom_71 rfl rfl (gv11_436 dX12_markFrom_72 (xsh X2 sh_187) k69 (wp_is4 dX12_markFrom_75 k11_481 q_X12_stateOf (by decide) (Nat.le_of_ble_eq_true rfl) gs (wp_iconst (v := nI 1) dX12_markFrom_78 rfl (wn_zastore dX12_markFrom_79 (xsh X2 sh_220) rfl (by omega) (by decide) (show vp_nar .boolean (nI 1) = xB true from rfl) tail))))))))))))
        · rw [hw] at ha
          rw [show a = 0 by omega]
          show (B (xqt c (xn1 c ex m s k 0) (xn2 c ex m s k 0) (k + 1)) || decide ((xqt c (xn1 c ex m s k 0) (xn2 c ex m s k 0) (k + 1)) = (xqt c (xn1 c ex m s k 0) (xn2 c ex m s k 0) (k + 1)))) = true
          rw [decide_eq_true rfl, Bool.or_true]
