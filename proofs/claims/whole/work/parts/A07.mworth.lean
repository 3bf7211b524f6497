/-! a GAME of the reference: mark; what a state is worth; answerIn -/
theorem mk_clr {d : Nat} {Q : Option Value → xS → Prop} : ∀ (j i : Nat) (S : xS), i + j = 16384 → XC S → (∀ x, x < i → S.2.1 220 x = xB false) → (∀ S' y1, xFl (fun i _ => i = 220) S S' → xCm S' 220 (fun _ => false) → Wp false (d + 5) 11 cX12_mark none false 22 [.ref 187, .int y1] [] S' Q) → Wp false (d + 5) 11 cX12_mark none false 2 [.ref 187, .int (nI i)] [] S Q := by
  intro j
  induction j with
  | zero =>
    intro i S hi hX h K
    have hii : i = 16384 := by omega
    have K' := K S (nI i) (xFl.rf S) (fun x hx => h x (by omega))
    refine wp_iload_n dX12_mark_2 rfl (wp_sipush (v := nI 16384) dX12_mark_3 rfl ?_)
    refine wn_icmp_ge dX12_mark_6 rfl (by omega) (by omega) (fun c6 => ?_) (fun c6 => absurd c6 (by omega))
    exact K'
  | succ j ih =>
    intro i S hi hX h K
    have F1 : xFl (fun a q => a = 220 ∧ q = i) S (xSI S 220 i (xB false)) := (xFl.rf S).SI ⟨rfl, rfl⟩
    have F2 : xFl (fun a _ => a = 220) S (xSI S 220 i (xB false)) := F1.mono (fun a q h => h.1)
    have nx := ih (i + 1) (xSI S 220 i (xB false)) (by omega) (F1.XC hX) (fun x hx => by
      rcases Decidable.em (x = i) with w | w
      · subst w; exact xI_same _ _ _ _
      · exact F1.i (h x (by omega)) (by omega)) (fun S' y1 f h => K S' y1 (F2.tt f) h)
    refine wp_iload_n dX12_mark_2 rfl (wp_sipush (v := nI 16384) dX12_mark_3 rfl ?_)
    refine wn_icmp_ge dX12_mark_6 rfl (by omega) (by omega) (fun c6 => absurd c6 (by omega)) (fun c6 => ?_)
    exact wp_aload_n dX12_mark_9 rfl rfl (g11_355 dX12_mark_10 (xsh hX sh_187) (xrr hX r187_73) (wp_iload_n dX12_mark_13 rfl (wp_iconst (v := nI 0) dX12_mark_14 rfl (wn_zastore dX12_mark_15 (xsh hX sh_220) rfl (by omega) (by decide) (show vp_nar .boolean (nI 0) = xB false from rfl) (wp_iinc dX12_mark_16 rfl (nI_1 _) ⟨Nat.le_of_ble_eq_true rfl, Or.inr rfl⟩ rfl (wp_goto dX12_mark_19 rfl nx))))))
theorem mk_loop {c : xPx} {ex d b : Nat} (ho : xzo c) (ha : xzal c = true) (h8 : xgH (xzg c) ≤ 8) (hex : ex ≤ 1000) : ∀ (j : Nat) (S : xS) (B : Nat → Bool), j ≤ 16320 → XC S → xMpd S c ex → xCm S 220 B → xGo c B → B b = true → (∀ m s k, xgd c m s k → 63 + j < xqt c m s k → B (xqt c m s k) = true → xGl c ex B m s k (xzw c k)) → Wp false (d + 5) 11 cX12_mark none false 36 [.ref 187, .int (nI (63 + j))] [] S (fun r S' => r = none ∧ xFl (fun i q => (i = 187 ∧ 61 ≤ q ∧ q ≤ 70) ∨ i = 216 ∨ i = 220) S S' ∧ ∃ B', xCm S' 220 B' ∧ xGo c B' ∧ B' b = true ∧ (∀ m s k, xgd c m s k → 63 < xqt c m s k → B' (xqt c m s k) = true → xGl c ex B' m s k (xzw c k))) := by
  intro j
  induction j with
  | zero =>
    intro S B hj hX hD hB hG hb hc
    have fin : xFl (fun i q => (i = 187 ∧ 61 ≤ q ∧ q ≤ 70) ∨ i = 216 ∨ i = 220) S S ∧ ∃ B', xCm S 220 B' ∧ xGo c B' ∧ B' b = true ∧ (∀ m s k, xgd c m s k → 63 < xqt c m s k → B' (xqt c m s k) = true → xGl c ex B' m s k (xzw c k)) := ⟨xFl.rf S, B, hB, hG, hb, hc⟩
    refine wp_iload_n dX12_mark_36 rfl (wp_bipush (v := nI 64) dX12_mark_37 rfl ?_)
    refine wn_icmp_lt dX12_mark_39 rfl (by omega) (by omega) (fun c39 => ?_) (fun c39 => absurd c39 (by omega))
    exact wp_return dX12_mark_53 rfl ⟨rfl, fin⟩
  | succ j ih =>
    intro S B hj hX hD hB hG hb hc
    obtain ⟨S1, g1, f1, B1, hB1, hG1, hu, hcl⟩ := m_markFrom (x := 63 + (j + 1)) (B := B) (d + 0) ho ha h8 hex (by omega) hX hD hB hG
    have X1 := f1.XC hX
    have em : nI (63 + (j + 1)) + (-1) = nI (63 + j) := pk_m1 (63 + j)
    have nx := (ih S1 B1 (by omega) X1 (hD.fr ho f1 (fun i q h => by omega)) hB1 hG1 (hu.1 _ hb) (fun m s k hg hlt hm => by
      rcases Nat.lt_or_ge (63 + (j + 1)) (xqt c m s k) with w | w
      · exact (hc m s k hg w (by rw [← hu.2 _ (by omega)]; exact hm)).up hu
      · have e : 63 + (j + 1) = xqt c m s k := by omega
        exact hcl m s k hg e (by rw [← hu.2 _ (Nat.le_refl _), e]; exact hm))).mono (Q' := (fun r S' => r = none ∧ xFl (fun i q => (i = 187 ∧ 61 ≤ q ∧ q ≤ 70) ∨ i = 216 ∨ i = 220) S S' ∧ ∃ B', xCm S' 220 B' ∧ xGo c B' ∧ B' b = true ∧ (∀ m s k, xgd c m s k → 63 < xqt c m s k → B' (xqt c m s k) = true → xGl c ex B' m s k (xzw c k)))) (fun r S' z => ⟨z.1, f1.tt z.2.1, z.2.2⟩)
    refine wp_iload_n dX12_mark_36 rfl (wp_bipush (v := nI 64) dX12_mark_37 rfl ?_)
    refine wn_icmp_lt dX12_mark_39 rfl (by omega) (by omega) (fun c39 => absurd c39 (by omega)) (fun c39 => ?_)
    exact wp_aload_n dX12_mark_42 rfl rfl (wp_iload_n dX12_mark_43 rfl (wp_iv2 dX12_mark_44 k11_488 q_X12_markFrom (by decide) (xsh hX sh_187) (by decide) (Nat.le_of_ble_eq_true rfl) g1 (wp_iinc dX12_mark_47 rfl em ⟨Nat.le_of_ble_eq_true rfl, Or.inr rfl⟩ rfl (wp_goto dX12_mark_50 rfl nx))))
/-- the marks: all good, the first one, and behind each what it leads to -/
def xMK (S : xS) (c : xPx) (ex : Nat) (B : Nat → Bool) : Prop := xCm S 220 B ∧ xGo c B ∧ B (xqt c (2 ^ xgH (xzg c) - 1) 0 0) = true ∧ ∀ m s k, xgd c m s k → B (xqt c m s k) = true → xGl c ex B m s k (xzw c k)
theorem xMK.fr {S S' : xS} {c : xPx} {ex : Nat} {B : Nat → Bool} {P : Nat → Nat → Prop} (h : xMK S c ex B) (hf : xFl P S S') (hn : ∀ x, ¬ P 220 x) : xMK S' c ex B := ⟨h.1.fr hf hn, h.2⟩
theorem xgd_0 {c : xPx} (ho : xzo c) : xgd c (2 ^ xgH (xzg c) - 1) 0 0 := by
  have g24 := ho.g.H
  have hpos := Nat.two_pow_pos (xgH (xzg c))
  have h1lt : 1 < 2 ^ xgH (xzg c) := Nat.one_lt_two_pow (by omega)
  exact ⟨by omega, by omega, by omega, xcb_fl _⟩
theorem m_mark {c : xPx} {ex : Nat} (d : Nat) (ho : xzo c) (ha : xzal c = true) (h8 : xgH (xzg c) ≤ 8) (hex : ex ≤ 1000) {S : xS} (hX : XC S) (hD : xMpd S c ex) : ∃ S', xcall false (d + 5) j_X12_mark [.ref 187] S none S' ∧ xFl (fun i q => (i = 187 ∧ 61 ≤ q ∧ q ≤ 70) ∨ i = 216 ∨ i = 220) S S' ∧ ∃ B, xMK S' c ex B := by
  have g0 := xgd_0 ho
  have hb := (g0.b ho h8).2.2.2.1
  have lp := mk_clr (d := d) (Q := fun r S' => r = none ∧ xFl (fun i q => (i = 187 ∧ 61 ≤ q ∧ q ≤ 70) ∨ i = 216 ∨ i = 220) S S' ∧ ∃ B, xMK S' c ex B) 16384 0 S (Nat.zero_add _) hX (fun x hx => absurd hx (Nat.not_lt_zero x)) (fun S1 y1 f1 h1 => by
    have X1 := f1.XC hX
    have D1 := hD.fr ho f1 (fun i q h => by omega)
    have gb := m_begin (d + 3) ho X1 D1.1
    have F2 : xFl (fun i _ => i = 220) S1 (xSI S1 220 (xqt c (2 ^ xgH (xzg c) - 1) 0 0) (xB true)) := (xFl.rf S1).SI rfl
    have X2 := F2.XC X1
    have lp := mk_loop (d := d) (b := xqt c (2 ^ xgH (xzg c) - 1) 0 0) ho ha h8 hex 16320 (xSI S1 220 (xqt c (2 ^ xgH (xzg c) - 1) 0 0) (xB true)) _ (Nat.le_refl _) X2 (D1.fr ho F2 (fun i q h => by omega)) h1.set ((show xGo c (fun _ => false) from fun x hx => by cases hx).set g0) (by
      show (false || decide (xqt c (2 ^ xgH (xzg c) - 1) 0 0 = xqt c (2 ^ xgH (xzg c) - 1) 0 0)) = true
      rw [decide_eq_true rfl]; rfl) (fun m s k hg hlt => by have := (hg.b ho h8).2.2.2.1; omega)
    have lp2 := lp.mono (Q' := fun r S' => r = none ∧ xFl (fun i q => (i = 187 ∧ 61 ≤ q ∧ q ≤ 70) ∨ i = 216 ∨ i = 220) S S' ∧ ∃ B, xMK S' c ex B) (fun r S' z => by
      obtain ⟨z1, z2, B, z3, z4, z5, z6⟩ := z
      exact ⟨z1, ((f1.mono (fun i q h => by omega)).tt (F2.mono (fun i q h => by omega))).tt z2, B, z3, z4, z5, fun m s k hg hm => z6 m s k hg (by have := (hg.b ho h8).2.2.2.2; omega) hm⟩)
    exact wp_aload_n dX12_mark_22 rfl rfl (g11_355 dX12_mark_23 (xsh X1 sh_187) (xrr X1 r187_73) (wp_aload_n dX12_mark_26 rfl rfl (wp_iv1 dX12_mark_27 k11_485 q_X12_begin (by decide) (xsh X1 sh_187) (by decide) (Nat.le_of_ble_eq_true rfl) gb (wp_iconst (v := nI 1) dX12_mark_30 rfl (wn_zastore dX12_mark_31 (xsh X1 sh_220) rfl (by omega) (by decide) (show vp_nar .boolean (nI 1) = xB true from rfl) (wp_sipush (v := nI 16383) dX12_mark_32 rfl (wp_istore_n dX12_mark_35 ⟨Nat.le_of_ble_eq_true rfl, Or.inr rfl⟩ rfl lp2))))))))
  obtain ⟨r, S', g1, rfl, z⟩ := xcall_some (al := false) (d := d + 5) (ls := [.ref 187, .float 0]) (S := S) (as := [.ref 187]) q_X12_mark (by decide) rfl (Nat.le_of_ble_eq_true rfl) rfl (P := fun r S' => r = none ∧ xFl (fun i q => (i = 187 ∧ 61 ≤ q ∧ q ≤ 70) ∨ i = 216 ∨ i = 220) S S' ∧ ∃ B, xMK S' c ex B) (by
      exact wp_iconst (v := nI 0) dX12_mark_0 rfl (wp_istore_n dX12_mark_1 ⟨Nat.le_of_ble_eq_true rfl, Or.inr rfl⟩ rfl lp))
  exact ⟨S', g1, z⟩
/-- what a state is worth: E at an end, J of the ANSWERS' worths -/
def xev (c : xPx) (ex : Nat) (E : Nat → Nat → Nat) (J : Nat → Nat → Nat → (Nat → Nat) → Nat) : Nat → Nat → Nat → Nat → Nat
  | 0, _, _, _ => 0
  | f + 1, m, s, k => J m s k (fun a => (xen c ex m s k a).elim (xev c ex E J f (xn1 c ex m s k a) (xn2 c ex m s k a) (k + 1)) (E k))
def xV (c : xPx) (ex : Nat) (E : Nat → Nat → Nat) (J : Nat → Nat → Nat → (Nat → Nat) → Nat) (m s k : Nat) : Nat := xev c ex E J (xgH (xzg c) - k) m s k
def xvl (c : xPx) (ex : Nat) (E : Nat → Nat → Nat) (V : Nat → Nat → Nat → Nat) (m s k a : Nat) : Nat := (xen c ex m s k a).elim (V (xn1 c ex m s k a) (xn2 c ex m s k a) (k + 1)) (E k)
theorem xV_eq {c : xPx} {ex m s k : Nat} (E : Nat → Nat → Nat) (J : Nat → Nat → Nat → (Nat → Nat) → Nat) (h : xgd c m s k) : xV c ex E J m s k = J m s k (xvl c ex E (xV c ex E J) m s k) := by
  have hk := h.k
  unfold xV
  rw [show xgH (xzg c) - k = (xgH (xzg c) - (k + 1)) + 1 by omega, xev]
  rfl
def xaim (c : xPx) : Bool := decide (c.1.1 7 = 0)
def xmt9 (c : xPx) (p L : Nat) : Bool := decide (L.testBit p = xaim c)
def xff (p : Nat → Bool) : Nat → Nat → Nat
  | 0, _ => 0
  | j + 1, a => if p a = true then a else xff p j (a + 1)
theorem xff_lt (p : Nat → Bool) {n : Nat} (h : 0 < n) : ∀ j a, a + j = n → xff p j a < n
  | 0, a, _ => h
  | j + 1, a, w => by
    rw [xff]
    split
    · omega
    · exact xff_lt p h j (a + 1) (by omega)
/-- the worths of a GAME -/
def xJg (c : xPx) (ex see m s k : Nat) (v : Nat → Nat) : Nat := if xzA c k = true then v (if see.testBit (xzq c ex m s k) = true then xff (fun a => xmt9 c (xzq c ex m s k) (v a)) c.2.2.2.1.length 0 else 0) else v 0
def xVg (c : xPx) (ex see : Nat) : Nat → Nat → Nat → Nat := xV c ex (fun _ L => L) (xJg c ex see)
theorem xen_lt {c : xPx} {ex m s k a L : Nat} (hg : xgd c m s k) (h : xen c ex m s k a = some L) : L < 2 ^ xgP (xzg c) := by
  have hh : xzh c ex m s k a < xgH (xzg c) := xzh_lt ex m k a hg.2.2.1
  have hm2 : xn1 c ex m s k a < 2 ^ xgH (xzg c) := xrm_lt hg.1 hh
  unfold xen at h
  split at h
  · cases h; exact Nat.pow_lt_pow_right (by decide) (xow_lt hh)
  · split at h
    · cases h; exact xpm_lt hm2
    · cases h
theorem xVg_lt {c : xPx} {ex see : Nat} (ho : xzo c) : ∀ f m s k, xgd c m s k → k + f = xgH (xzg c) → xev c ex (fun _ L => L) (xJg c ex see) f m s k < 2 ^ xgP (xzg c)
  | 0, m, s, k, hg, h => by have := hg.k; omega
  | f + 1, m, s, k, hg, h => by
    rw [xev]
    have hv : ∀ a, (xen c ex m s k a).elim (xev c ex (fun _ L => L) (xJg c ex see) f (xn1 c ex m s k a) (xn2 c ex m s k a) (k + 1)) (fun L => L) < 2 ^ xgP (xzg c) := fun a => by
      cases e : xen c ex m s k a with
      | some L => exact xen_lt hg e
      | none => exact xVg_lt ho f _ _ _ (hg.nx ho e) (by omega)
    unfold xJg
    split
    · exact hv _
    · exact hv _
theorem xvl_lt {c : xPx} {ex see m s k a : Nat} (ho : xzo c) (hg : xgd c m s k) : xvl c ex (fun _ L => L) (xVg c ex see) m s k a < 2 ^ xgP (xzg c) := by
  unfold xvl
  cases e : xen c ex m s k a with
  | some L => exact xen_lt hg e
  | none =>
    have h' := hg.nx ho e
    have := h'.k
    exact xVg_lt ho _ _ _ _ h' (by omega)
/-- the values of the states below x0 -/
def xVs (S : xS) (c : xPx) (V : Nat → Nat → Nat → Nat) (B : Nat → Bool) (x0 : Nat) : Prop := ∀ m s k, xgd c m s k → B (xqt c m s k) = true → xqt c m s k < x0 → S.2.1 221 (xqt c m s k) = nI (V m s k)
theorem xVs.fr {S S' : xS} {c : xPx} {V : Nat → Nat → Nat → Nat} {B : Nat → Bool} {x0 : Nat} {P : Nat → Nat → Prop} (h : xVs S c V B x0) (hf : xFl P S S') (hn : ∀ x, ¬ P 221 x) : xVs S' c V B x0 := fun m s k hg hm hx => hf.i (h m s k hg hm hx) (hn _)
theorem m_leftBy {c : xPx} {ex m s k a : Nat} {V : Nat → Nat → Nat → Nat} (d : Nat) (ho : xzo c) (h8 : xgH (xzg c) ≤ 8) {S : xS} (hX : XC S) (hv : xen c ex m s k a = none → S.2.1 221 (xqt c (xn1 c ex m s k a) (xn2 c ex m s k a) (k + 1)) = nI (V (xn1 c ex m s k a) (xn2 c ex m s k a) (k + 1))) (out : ((∃ L, xen c ex m s k a = some L ∧ S.2.1 187 65 = nI L ∧ L < 2 ^ xgP (xzg c)) ∨ (xen c ex m s k a = none ∧ S.2.1 187 65 = -1 ∧ S.2.1 187 66 = nI (xn1 c ex m s k a) ∧ S.2.1 187 67 = nI (xn2 c ex m s k a) ∧ S.2.1 187 68 = xwy (xbk (xzg c) (k + 1)) ∧ S.2.1 187 69 = nI ((k + 1) % c.1.2.length) ∧ xgd c (xn1 c ex m s k a) (xn2 c ex m s k a) (k + 1)))) : xcall false (d + 1) j_X12_leftBy [.ref 187] S (some (.int (nI (xvl c ex (fun _ L => L) V m s k a)))) S := by
  have hP : xgP (xzg c) ≤ 12 := ho.g.2.1
  have p12 : 2 ^ xgP (xzg c) ≤ 2 ^ 12 := Nat.pow_le_pow_right (by decide) hP
  rcases out with ⟨L, e1, k65, hL⟩ | ⟨e1, k65, k66, k67, k68, k69, hn⟩
  · rw [show xvl c ex (fun _ L => L) V m s k a = L by unfold xvl; rw [e1]; rfl]
    refine xcall_intro (ls := [.ref 187]) q_X12_leftBy (by decide) rfl (Nat.le_of_ble_eq_true rfl) rfl ?_
    refine wp_aload_n dX12_leftBy_0 rfl rfl (gv11_427 dX12_leftBy_1 (xsh hX sh_187) k65 ?_)
    refine wn_if_lt dX12_leftBy_4 rfl (by omega) ?_
    exact wp_aload_n dX12_leftBy_7 rfl rfl (gv11_427 dX12_leftBy_8 (xsh hX sh_187) k65 (wp_goto dX12_leftBy_11 rfl (wp_ireturn dX12_leftBy_38 rfl rfl ⟨rfl, rfl⟩)))
  · rw [show xvl c ex (fun _ L => L) V m s k a = V (xn1 c ex m s k a) (xn2 c ex m s k a) (k + 1) by unfold xvl; rw [e1]; rfl]
    have gs := m_stateOf (m := xn1 c ex m s k a) (s := xn2 c ex m s k a) (r := (k + 1) % c.1.2.length) (b := xbk (xzg c) (k + 1)) (d + 0) (S := S)
    have hlt := (hn.b ho h8).2.2.2.1
    have hlt : xsT (xn1 c ex m s k a) (xn2 c ex m s k a) (xbk (xzg c) (k + 1)) ((k + 1) % c.1.2.length) < 16384 := hlt
    have v := hv e1
    refine xcall_intro (ls := [.ref 187]) q_X12_leftBy (by decide) rfl (Nat.le_of_ble_eq_true rfl) rfl ?_
    refine wp_aload_n dX12_leftBy_0 rfl rfl (gv11_427 dX12_leftBy_1 (xsh hX sh_187) k65 ?_)
    refine wp_if_lt dX12_leftBy_4 rfl (fun c4 => ?_) (fun c4 => absurd c4 (not_not_intro (by decide)))
    exact wp_aload_n dX12_leftBy_14 rfl rfl (g11_358 dX12_leftBy_15 (xsh hX sh_187) (xrr hX r187_74) (wp_aload_n dX12_leftBy_18 rfl rfl (gv11_430 dX12_leftBy_19 (xsh hX sh_187) k66 (wp_aload_n dX12_leftBy_22 rfl rfl (gv11_445 dX12_leftBy_23 (xsh hX sh_187) k67 (wp_aload_n dX12_leftBy_26 rfl rfl (gv11_433 dX12_leftBy_27 (xsh hX sh_187) k68 (wp_aload_n dX12_leftBy_30 rfl rfl (gv11_436 dX12_leftBy_31 (xsh hX sh_187) k69 (wp_is4 dX12_leftBy_34 k11_481 q_X12_stateOf (by decide) (Nat.le_of_ble_eq_true rfl) gs (wn_iaload dX12_leftBy_37 (xsh hX sh_221) rfl (by omega) (by decide) v (wp_ireturn dX12_leftBy_38 rfl rfl ⟨rfl, rfl⟩))))))))))))
