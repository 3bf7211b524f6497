/-! a GAME of the class: its small methods -/
/-- with none the GAME, with some p what p is SURE of -/
def xEE (c : xPx) (w : Option Nat) (k L : Nat) : Nat := w.elim L (fun p => xEu c p k L)
def xJJ (c : xPx) (w : Option Nat) (see m s k : Nat) (v : Nat → Nat) : Nat := w.elim (xJg c 0 see m s k v) (fun p => xJu c 0 p m s k v)
def xVW (c : xPx) (w : Option Nat) (see : Nat) : Nat → Nat → Nat → Nat := xV c 0 (xEE c w) (xJJ c w see)
def xstl (c : xPx) (w : Option Nat) (see q b : Nat) : Bool := w.elim (!see.testBit q || xmt9 c q b) (fun p => decide (b = if q = p then 1 else 0))
def xbtr (c : xPx) (w : Option Nat) (q b o : Nat) : Nat := w.elim (if xmt9 c q o = true then o else b) (fun _ => o)
def xlpp (st : Nat → Bool) (bt : Nat → Nat → Nat) (v : Nat → Nat) : Nat → Nat → Nat → Nat
  | 0, _, b => b
  | j + 1, a, b => if st b = true then b else xlpp st bt v j (a + 1) (bt b (v a))
theorem xlpp_st {st : Nat → Bool} {bt : Nat → Nat → Nat} {v : Nat → Nat} {b : Nat} (h : st b = true) : ∀ j a, xlpp st bt v j a b = b
  | 0, _ => rfl
  | j + 1, a => by rw [xlpp, if_pos h]
theorem xlpp_g {c : xPx} {see q : Nat} {v : Nat → Nat} (hs : see.testBit q = true) (h0 : xmt9 c q (v 0) = false) : ∀ j a, xlpp (xstl c none see q) (xbtr c none q) v j a (v 0) = v (xff (fun a => xmt9 c q (v a)) j a)
  | 0, a => rfl
  | j + 1, a => by
    have e1 : xstl c none see q (v 0) = false := by
      show (!see.testBit q || xmt9 c q (v 0)) = false
      rw [hs, h0]; rfl
    rw [xlpp, e1, if_neg (by decide), xff]
    show xlpp _ _ _ _ _ (if xmt9 c q (v a) = true then v a else v 0) = v (if xmt9 c q (v a) = true then a else _)
    cases e : xmt9 c q (v a) with
    | true =>
      rw [if_pos rfl, if_pos rfl]
      exact xlpp_st (by show (!see.testBit q || xmt9 c q (v a)) = true; rw [e, Bool.or_true]) _ _
    | false =>
      rw [if_neg (by decide), if_neg (by decide)]
      exact xlpp_g hs h0 j (a + 1)
theorem xlpp_u {c : xPx} {see q p : Nat} {v : Nat → Nat} (hv : ∀ a, v a ≤ 1) : ∀ j a b, b ≤ 1 → ((b = (if q = p then 1 else 0) ∨ ∃ e, a ≤ e ∧ e < a + j ∧ v e = (if q = p then 1 else 0)) → xlpp (xstl c (some p) see q) (xbtr c (some p) q) v j a b = (if q = p then 1 else 0)) ∧ (¬ (b = (if q = p then 1 else 0) ∨ ∃ e, a ≤ e ∧ e < a + j ∧ v e = (if q = p then 1 else 0)) → xlpp (xstl c (some p) see q) (xbtr c (some p) q) v j a b = 1 - (if q = p then 1 else 0))
  | 0, a, b, hb => by
    constructor
    · rintro (h | ⟨e, h1, h2, _⟩)
      · exact h
      · omega
    · intro h
      have h1 : ¬ b = (if q = p then 1 else 0) := fun e => h (Or.inl e)
      show b = _
      split at h1 <;> split <;> omega
  | j + 1, a, b, hb => by
    have ih := xlpp_u (c := c) (see := see) (q := q) (p := p) hv j (a + 1) (v a) (hv a)
    rw [xlpp]
    rcases Decidable.em (b = (if q = p then 1 else 0)) with w | w
    · rw [if_pos (show xstl c (some p) see q b = true from decide_eq_true w)]
      exact ⟨fun _ => w, fun h => absurd (Or.inl w) h⟩
    · rw [if_neg (show ¬ xstl c (some p) see q b = true from fun h => w (of_decide_eq_true h))]
      show ((_ ∨ _) → xlpp _ _ _ j (a + 1) (v a) = _) ∧ (¬ (_ ∨ _) → xlpp _ _ _ j (a + 1) (v a) = _)
      constructor
      · rintro (h | ⟨e, h1, h2, h3⟩)
        · exact absurd h w
        · refine ih.1 ?_
          rcases Nat.eq_or_lt_of_le h1 with z | z
          · exact Or.inl (by rw [z]; exact h3)
          · exact Or.inr ⟨e, by omega, by omega, h3⟩
      · intro h
        refine ih.2 ?_
        rintro (h1 | ⟨e, h1, h2, h3⟩)
        · exact h (Or.inr ⟨a, Nat.le_refl _, by omega, h1⟩)
        · exact h (Or.inr ⟨e, by omega, by omega, h3⟩)
theorem xJJ_lp {c : xPx} {w : Option Nat} {see m s k : Nat} {v : Nat → Nat} (ho : xzo c) (hask : xzA c k = true) (hv : ∀ p, w = some p → ∀ a, v a ≤ 1) : xJJ c w see m s k v = xlpp (xstl c w see (xzq c 0 m s k)) (xbtr c w (xzq c 0 m s k)) v (c.2.2.2.1.length - 1) 1 (v 0) := by
  have hN := ho.2.2.1.1
  cases w with
  | none =>
    show xJg c 0 see m s k v = _
    unfold xJg
    rw [if_pos hask]
    cases ht : see.testBit (xzq c 0 m s k) with
    | false =>
      rw [if_neg (by decide)]
      exact (xlpp_st (by show (!see.testBit _ || _) = true; rw [ht]; rfl) _ _).symm
    | true =>
      rw [if_pos rfl]
      cases h0 : xmt9 c (xzq c 0 m s k) (v 0) with
      | true =>
        rw [xlpp_st (by show (!see.testBit _ || xmt9 c _ (v 0)) = true; rw [h0, Bool.or_true])]
        rw [show c.2.2.2.1.length = (c.2.2.2.1.length - 1) + 1 by omega, xff, if_pos h0]
      | false =>
        rw [xlpp_g ht h0]
        rw [show c.2.2.2.1.length = (c.2.2.2.1.length - 1) + 1 by omega, xff, if_neg (by rw [h0]; decide)]
        rfl
  | some p =>
    show xJu c 0 p m s k v = _
    unfold xJu
    rw [if_pos hask]
    have hv' := hv p rfl
    have u := xlpp_u (c := c) (see := see) (q := xzq c 0 m s k) (p := p) hv' (c.2.2.2.1.length - 1) 1 (v 0) (hv' 0)
    have e : (v 0 = (if xzq c 0 m s k = p then 1 else 0) ∨ ∃ e, 1 ≤ e ∧ e < 1 + (c.2.2.2.1.length - 1) ∧ v e = (if xzq c 0 m s k = p then 1 else 0)) ↔ xan (fun a => decide (v a = if xzq c 0 m s k = p then 1 else 0)) c.2.2.2.1.length = true := by
      rw [xan_iff]
      constructor
      · rintro (h | ⟨e, h1, h2, h3⟩)
        · exact ⟨0, by omega, decide_eq_true h⟩
        · exact ⟨e, by omega, decide_eq_true h3⟩
      · rintro ⟨a, h1, h2⟩
        have h3 := of_decide_eq_true h2
        rcases a with _ | a
        · exact Or.inl h3
        · exact Or.inr ⟨a + 1, by omega, by omega, h3⟩
    cases hx : xan (fun a => decide (v a = if xzq c 0 m s k = p then 1 else 0)) c.2.2.2.1.length with
    | true => rw [if_pos rfl]; exact (u.1 (e.mpr hx)).symm
    | false => rw [if_neg Bool.false_ne_true]; exact (u.2 (fun h => by have := e.mp h; rw [hx] at this; cases this)).symm
theorem xJJ_no {c : xPx} {w : Option Nat} {see m s k : Nat} {v : Nat → Nat} (hask : xzA c k = false) : xJJ c w see m s k v = v 0 := by
  cases w with
  | none => show xJg c 0 see m s k v = _; unfold xJg; rw [hask, if_neg (by decide)]
  | some p => show xJu c 0 p m s k v = _; unfold xJu; rw [hask, if_neg (by decide)]
theorem xEE_lt {c : xPx} {w : Option Nat} {k L : Nat} (ho : xzo c) (h : L < 2 ^ xgP (xzg c)) : xEE c w k L < 2 ^ xgP (xzg c) := by
  have hP : 1 ≤ xgP (xzg c) := ho.g.1
  have : 1 < 2 ^ xgP (xzg c) := Nat.one_lt_two_pow (by omega)
  cases w with
  | none => exact h
  | some p => exact Nat.lt_of_le_of_lt (xEu_le c p k L) this
theorem xEE_1 {c : xPx} {p k L : Nat} : xEE c (some p) k L ≤ 1 := xEu_le c p k L
theorem xVW_lt {c : xPx} {w : Option Nat} {see m s k : Nat} (ho : xzo c) (hg : xgd c m s k) : xVW c w see m s k < 2 ^ xgP (xzg c) := by
  have hP : 1 ≤ xgP (xzg c) := ho.g.1
  have h1 : 1 < 2 ^ xgP (xzg c) := Nat.one_lt_two_pow (by omega)
  have hk := hg.k
  cases w with
  | none => exact xVg_lt ho _ _ _ _ hg (by omega)
  | some p => exact Nat.lt_of_le_of_lt (xVu_le _ _ _ _) h1
theorem xvW_lt {c : xPx} {w : Option Nat} {see m s k a : Nat} (ho : xzo c) (hg : xgd c m s k) : xvl c 0 (xEE c w) (xVW c w see) m s k a < 2 ^ xgP (xzg c) := by
  unfold xvl
  cases e : xen c 0 m s k a with
  | some L => exact xEE_lt ho (xen_lt hg e)
  | none => exact xVW_lt ho (hg.nx ho e)
theorem xvW_1 {c : xPx} {p see m s k a : Nat} : xvl c 0 (xEE c (some p)) (xVW c (some p) see) m s k a ≤ 1 := by
  unfold xvl
  cases e : xen c 0 m s k a with
  | some L => exact xEE_1 (k := k)
  | none => exact xVu_le _ _ _ _
/-- the GAME's own fields -/
def xjv (w : Option Nat) : Int32 := w.elim (-1) nI
def xGM (S : xS) (c : xPx) (w : Option Nat) (see nw : Nat) : Prop := S.2.1 73 3 = nI nw ∧ S.2.1 73 5 = xB (xaim c) ∧ S.2.1 73 6 = nI see ∧ S.2.1 73 7 = xjv w
theorem xGM.fr {S S' : xS} {c : xPx} {w : Option Nat} {see nw : Nat} {P : Nat → Nat → Prop} (h : xGM S c w see nw) (hf : xFl P S S') (hn : ∀ q, (q = 3 ∨ q = 5 ∨ q = 6 ∨ q = 7) → ¬ P 73 q) : xGM S' c w see nw := ⟨hf.i h.1 (hn _ (by omega)), hf.i h.2.1 (hn _ (by omega)), hf.i h.2.2.1 (hn _ (by omega)), hf.i h.2.2.2 (hn _ (by omega))⟩
theorem c_sees {c : xPx} {w : Option Nat} {see nw q : Nat} (d : Nat) (hq : q < 32) (hsee : see < 2 ^ 12) {S : xS} (hX : XC S) (hG : xGM S c w see nw) : xcall false d j_X2_sees [.ref 73, .int (nI q)] S (some (.int (xB (see.testBit q)))) S := by
  have k6 := hG.2.2.1
  have eb := xbitt (m := see) (h := q) (by omega)
  cases ht : see.testBit q with
  | true =>
    rw [ht, if_pos rfl] at eb
    refine xcall_intro (ls := [.ref 73, .int (nI q)]) q_X2_sees (by decide) rfl (Nat.le_of_ble_eq_true rfl) rfl ?_
    refine wp_iload_n dX2_sees_0 rfl ?_
    refine wn_if_lt dX2_sees_1 rfl (by omega) ?_
    refine wp_aload_n dX2_sees_4 rfl rfl (gv2_82 dX2_sees_5 (xsh hX sh_73) k6 (wp_iload_n dX2_sees_8 rfl (wv_ishr dX2_sees_9 (xshR (by omega) hq) (wp_iconst (v := nI 1) dX2_sees_10 rfl (wv_iand dX2_sees_11 eb ?_)))))
    refine wn_if_eq dX2_sees_12 rfl (by omega) (fun c12 => absurd c12 (by omega)) (fun c12 => ?_)
    exact wp_iconst (v := nI 1) dX2_sees_15 rfl (wp_goto dX2_sees_16 rfl (wb_ret dX2_sees_20 rfl rfl ⟨rfl, rfl⟩))
  | false =>
    rw [ht, if_neg (by decide)] at eb
    refine xcall_intro (ls := [.ref 73, .int (nI q)]) q_X2_sees (by decide) rfl (Nat.le_of_ble_eq_true rfl) rfl ?_
    refine wp_iload_n dX2_sees_0 rfl ?_
    refine wn_if_lt dX2_sees_1 rfl (by omega) ?_
    refine wp_aload_n dX2_sees_4 rfl rfl (gv2_82 dX2_sees_5 (xsh hX sh_73) k6 (wp_iload_n dX2_sees_8 rfl (wv_ishr dX2_sees_9 (xshR (by omega) hq) (wp_iconst (v := nI 1) dX2_sees_10 rfl (wv_iand dX2_sees_11 eb ?_)))))
    refine wn_if_eq dX2_sees_12 rfl (by omega) (fun c12 => ?_) (fun c12 => absurd c12 (by omega))
    exact wp_iconst (v := nI 0) dX2_sees_19 rfl (wb_ret dX2_sees_20 rfl rfl ⟨rfl, rfl⟩)
theorem c_sees_m (d : Nat) {S : xS} (hX : XC S) : xcall false d j_X2_sees [.ref 73, .int (-1)] S (some (.int (xB false))) S := by
  refine xcall_intro (ls := [.ref 73, .int (-1)]) q_X2_sees (by decide) rfl (Nat.le_of_ble_eq_true rfl) rfl ?_
  refine wp_iload_n dX2_sees_0 rfl ?_
  refine wp_if_lt dX2_sees_1 rfl (fun c1 => ?_) (fun c1 => absurd c1 (not_not_intro (by decide)))
  exact wp_iconst (v := nI 0) dX2_sees_19 rfl (wb_ret dX2_sees_20 rfl rfl ⟨rfl, rfl⟩)
theorem c_meets {c : xPx} {w : Option Nat} {see nw q L : Nat} (d : Nat) (hq : q < 32) (hL : L < 2 ^ 31) {S : xS} (hX : XC S) (hG : xGM S c w see nw) : xcall false d j_X2_meets [.ref 73, .int (nI q), .int (nI L)] S (some (.int (xB (xmt9 c q L)))) S := by
  have k5 := hG.2.1
  have eb := xbitt (m := L) (h := q) hL
  unfold xmt9
  cases ha : xaim c with
  | true =>
    rw [ha] at k5
    cases ht : L.testBit q with
    | true =>
      rw [ht, if_pos rfl] at eb
      rw [decide_eq_true rfl]
      refine xcall_intro (ls := [.ref 73, .int (nI q), .int (nI L)]) q_X2_meets (by decide) rfl (Nat.le_of_ble_eq_true rfl) rfl ?_
      refine wp_iload_n dX2_meets_0 rfl ?_
      refine wn_if_lt dX2_meets_1 rfl (by omega) ?_
      refine wp_iload_n dX2_meets_4 rfl (wp_iload_n dX2_meets_5 rfl (wv_ishr dX2_meets_6 (xshR hL hq) (wp_iconst (v := nI 1) dX2_meets_7 rfl (wv_iand dX2_meets_8 eb ?_))))
      refine wn_if_eq dX2_meets_9 rfl (by omega) (fun c9 => absurd c9 (by omega)) (fun c9 => ?_)
      refine wp_iconst (v := nI 1) dX2_meets_12 rfl (wp_goto dX2_meets_13 rfl (wp_aload_n dX2_meets_17 rfl rfl (gv2_88 dX2_meets_18 (xsh hX sh_73) k5 ?_)))
      refine wp_icmp_ne dX2_meets_21 rfl (fun c21 => absurd c21 (not_not_intro rfl)) (fun c21 => ?_)
      exact wp_iconst (v := nI 1) dX2_meets_24 rfl (wp_goto dX2_meets_25 rfl (wb_ret dX2_meets_29 rfl rfl ⟨rfl, rfl⟩))
    | false =>
      rw [ht, if_neg (by decide)] at eb
      rw [decide_eq_false (by decide)]
      refine xcall_intro (ls := [.ref 73, .int (nI q), .int (nI L)]) q_X2_meets (by decide) rfl (Nat.le_of_ble_eq_true rfl) rfl ?_
      refine wp_iload_n dX2_meets_0 rfl ?_
      refine wn_if_lt dX2_meets_1 rfl (by omega) ?_
      refine wp_iload_n dX2_meets_4 rfl (wp_iload_n dX2_meets_5 rfl (wv_ishr dX2_meets_6 (xshR hL hq) (wp_iconst (v := nI 1) dX2_meets_7 rfl (wv_iand dX2_meets_8 eb ?_))))
      refine wn_if_eq dX2_meets_9 rfl (by omega) (fun c9 => ?_) (fun c9 => absurd c9 (by omega))
      refine wp_iconst (v := nI 0) dX2_meets_16 rfl (wp_aload_n dX2_meets_17 rfl rfl (gv2_88 dX2_meets_18 (xsh hX sh_73) k5 ?_))
      refine wp_icmp_ne dX2_meets_21 rfl (fun c21 => ?_) (fun c21 => absurd c21 (by decide))
      exact wp_iconst (v := nI 0) dX2_meets_28 rfl (wb_ret dX2_meets_29 rfl rfl ⟨rfl, rfl⟩)
  | false =>
    rw [ha] at k5
    cases ht : L.testBit q with
    | true =>
      rw [ht, if_pos rfl] at eb
      rw [decide_eq_false (by decide)]
      refine xcall_intro (ls := [.ref 73, .int (nI q), .int (nI L)]) q_X2_meets (by decide) rfl (Nat.le_of_ble_eq_true rfl) rfl ?_
      refine wp_iload_n dX2_meets_0 rfl ?_
      refine wn_if_lt dX2_meets_1 rfl (by omega) ?_
      refine wp_iload_n dX2_meets_4 rfl (wp_iload_n dX2_meets_5 rfl (wv_ishr dX2_meets_6 (xshR hL hq) (wp_iconst (v := nI 1) dX2_meets_7 rfl (wv_iand dX2_meets_8 eb ?_))))
      refine wn_if_eq dX2_meets_9 rfl (by omega) (fun c9 => absurd c9 (by omega)) (fun c9 => ?_)
      refine wp_iconst (v := nI 1) dX2_meets_12 rfl (wp_goto dX2_meets_13 rfl (wp_aload_n dX2_meets_17 rfl rfl (gv2_88 dX2_meets_18 (xsh hX sh_73) k5 ?_)))
      refine wp_icmp_ne dX2_meets_21 rfl (fun c21 => ?_) (fun c21 => absurd c21 (by decide))
      exact wp_iconst (v := nI 0) dX2_meets_28 rfl (wb_ret dX2_meets_29 rfl rfl ⟨rfl, rfl⟩)
    | false =>
      rw [ht, if_neg (by decide)] at eb
      rw [decide_eq_true rfl]
      refine xcall_intro (ls := [.ref 73, .int (nI q), .int (nI L)]) q_X2_meets (by decide) rfl (Nat.le_of_ble_eq_true rfl) rfl ?_
      refine wp_iload_n dX2_meets_0 rfl ?_
      refine wn_if_lt dX2_meets_1 rfl (by omega) ?_
      refine wp_iload_n dX2_meets_4 rfl (wp_iload_n dX2_meets_5 rfl (wv_ishr dX2_meets_6 (xshR hL hq) (wp_iconst (v := nI 1) dX2_meets_7 rfl (wv_iand dX2_meets_8 eb ?_))))
      refine wn_if_eq dX2_meets_9 rfl (by omega) (fun c9 => ?_) (fun c9 => absurd c9 (by omega))
      refine wp_iconst (v := nI 0) dX2_meets_16 rfl (wp_aload_n dX2_meets_17 rfl rfl (gv2_88 dX2_meets_18 (xsh hX sh_73) k5 ?_))
      refine wp_icmp_ne dX2_meets_21 rfl (fun c21 => absurd c21 (not_not_intro rfl)) (fun c21 => ?_)
      exact wp_iconst (v := nI 1) dX2_meets_24 rfl (wp_goto dX2_meets_25 rfl (wb_ret dX2_meets_29 rfl rfl ⟨rfl, rfl⟩))
theorem c_endWorth {c : xPx} {w : Option Nat} {see nw k L : Nat} (d : Nat) (hw : ∀ p, w = some p → p < 12) (hL : L < 2 ^ 12) {S : xS} (hX : XC S) (hG : xGM S c w see nw) : xcall false (d + 1) j_X2_endWorth [.ref 73, .int (nI L)] S (some (.int (nI (xEE c w k L)))) S := by
  have k7 := hG.2.2.2
  cases w with
  | none =>
    show xcall _ _ _ _ _ (some (.int (nI L))) _
    have k7 : S.2.1 73 7 = -1 := k7
    refine xcall_intro (ls := [.ref 73, .int (nI L)]) q_X2_endWorth (by decide) rfl (Nat.le_of_ble_eq_true rfl) rfl ?_
    refine wp_aload_n dX2_endWorth_0 rfl rfl (gv2_85 dX2_endWorth_1 (xsh hX sh_73) k7 (wp_iconst (v := -1) dX2_endWorth_4 rfl ?_))
    refine wp_icmp_ne dX2_endWorth_5 rfl (fun c5 => absurd c5 (not_not_intro rfl)) (fun c5 => ?_)
    exact wp_iload_n dX2_endWorth_8 rfl (wp_ireturn dX2_endWorth_9 rfl rfl ⟨rfl, rfl⟩)
  | some p =>
    have k7 : S.2.1 73 7 = nI p := k7
    have hp := hw p rfl
    have gm := c_meets (q := p) (L := L) (d + 0) (by omega) (by omega) hX hG
    show xcall _ _ _ _ _ (some (.int (nI (if xmt9 c p L = true then 1 else 0)))) _
    cases hm : xmt9 c p L with
    | true =>
      rw [hm] at gm
      rw [if_pos rfl]
      refine xcall_intro (ls := [.ref 73, .int (nI L)]) q_X2_endWorth (by decide) rfl (Nat.le_of_ble_eq_true rfl) rfl ?_
      refine wp_aload_n dX2_endWorth_0 rfl rfl (gv2_85 dX2_endWorth_1 (xsh hX sh_73) k7 (wp_iconst (v := -1) dX2_endWorth_4 rfl ?_))
      refine wp_icmp_ne dX2_endWorth_5 rfl (fun c5 => ?_) (fun c5 => absurd c5 (nI_m1 (by omega)))
      refine wp_aload_n dX2_endWorth_10 rfl rfl (wp_aload_n dX2_endWorth_11 rfl rfl (gv2_85 dX2_endWorth_12 (xsh hX sh_73) k7 (wp_iload_n dX2_endWorth_15 rfl (wp_iv3 dX2_endWorth_16 k2_67 q_X2_meets (by decide) (xsh hX sh_73) (by decide) (Nat.le_of_ble_eq_true rfl) gm ?_))))
      refine wb_if_eq dX2_endWorth_19 rfl (fun c19 => absurd c19 (by decide)) (fun c19 => ?_)
      exact wp_iconst (v := nI 1) dX2_endWorth_22 rfl (wp_goto dX2_endWorth_23 rfl (wp_ireturn dX2_endWorth_27 rfl rfl ⟨rfl, rfl⟩))
    | false =>
      rw [hm] at gm
      rw [if_neg (by decide)]
      refine xcall_intro (ls := [.ref 73, .int (nI L)]) q_X2_endWorth (by decide) rfl (Nat.le_of_ble_eq_true rfl) rfl ?_
      refine wp_aload_n dX2_endWorth_0 rfl rfl (gv2_85 dX2_endWorth_1 (xsh hX sh_73) k7 (wp_iconst (v := -1) dX2_endWorth_4 rfl ?_))
      refine wp_icmp_ne dX2_endWorth_5 rfl (fun c5 => ?_) (fun c5 => absurd c5 (nI_m1 (by omega)))
      refine wp_aload_n dX2_endWorth_10 rfl rfl (wp_aload_n dX2_endWorth_11 rfl rfl (gv2_85 dX2_endWorth_12 (xsh hX sh_73) k7 (wp_iload_n dX2_endWorth_15 rfl (wp_iv3 dX2_endWorth_16 k2_67 q_X2_meets (by decide) (xsh hX sh_73) (by decide) (Nat.le_of_ble_eq_true rfl) gm ?_))))
      refine wb_if_eq dX2_endWorth_19 rfl (fun c19 => ?_) (fun c19 => absurd c19 (by decide))
      exact wp_iconst (v := nI 0) dX2_endWorth_26 rfl (wp_ireturn dX2_endWorth_27 rfl rfl ⟨rfl, rfl⟩)
theorem c_isSettled {c : xPx} {w : Option Nat} {see nw k q b : Nat} (d : Nat) (hw : ∀ p, w = some p → p < 12) (hk : k < 24) (hq : q < 12) (hsee : see < 2 ^ 12) (hb : b < 2 ^ 12) {S : xS} (hX : XC S) (hG : xGM S c w see nw) (h80 : S.2.1 80 k = nI q) : xcall false (d + 1) j_X2_isSettled [.ref 73, .int (nI k), .int (nI b)] S (some (.int (xB (xstl c w see q b)))) S := by
  have k7 := hG.2.2.2
  have ga := c_askerOf (d + 0) hk hX h80
  cases w with
  | none =>
    have k7 : S.2.1 73 7 = -1 := k7
    have gs := c_sees (q := q) (d + 0) (by omega) hsee hX hG
    have gm := c_meets (q := q) (L := b) (d + 0) (by omega) (by omega) hX hG
    show xcall _ _ _ _ _ (some (.int (xB (!see.testBit q || xmt9 c q b)))) _
    cases h1 : see.testBit q with
    | false =>
      rw [h1] at gs
      refine xcall_intro (ls := [.ref 73, .int (nI k), .int (nI b), .float 0]) q_X2_isSettled (by decide) rfl (Nat.le_of_ble_eq_true rfl) rfl ?_
      refine wp_aload_n dX2_isSettled_0 rfl rfl (g2_14 dX2_isSettled_1 (xsh hX sh_73) (xrr hX r73_0) (wp_iload_n dX2_isSettled_4 rfl (wp_iv2 dX2_isSettled_5 k2_57 q_X4_askerOf (by decide) (xsh hX sh_74) (by decide) (Nat.le_of_ble_eq_true rfl) ga (wp_istore_n dX2_isSettled_8 ⟨Nat.le_of_ble_eq_true rfl, Or.inr rfl⟩ rfl (wp_aload_n dX2_isSettled_9 rfl rfl (gv2_85 dX2_isSettled_10 (xsh hX sh_73) k7 (wp_iconst (v := -1) dX2_isSettled_13 rfl ?_)))))))
      refine wp_icmp_ne dX2_isSettled_14 rfl (fun c14 => absurd c14 (not_not_intro rfl)) (fun c14 => ?_)
      refine wp_aload_n dX2_isSettled_17 rfl rfl (wp_iload_n dX2_isSettled_18 rfl (wp_iv2 dX2_isSettled_19 k2_60 q_X2_sees (by decide) (xsh hX sh_73) (by decide) (Nat.le_of_ble_eq_true rfl) gs ?_))
      refine wb_if_eq dX2_isSettled_22 rfl (fun c22 => ?_) (fun c22 => absurd c22 (by decide))
      exact wp_iconst (v := nI 1) dX2_isSettled_34 rfl (wp_goto dX2_isSettled_35 rfl (wb_ret dX2_isSettled_39 rfl rfl ⟨rfl, rfl⟩))
    | true =>
      rw [h1] at gs
      cases h2 : xmt9 c q b with
      | true =>
        rw [h2] at gm
        refine xcall_intro (ls := [.ref 73, .int (nI k), .int (nI b), .float 0]) q_X2_isSettled (by decide) rfl (Nat.le_of_ble_eq_true rfl) rfl ?_
        refine wp_aload_n dX2_isSettled_0 rfl rfl (g2_14 dX2_isSettled_1 (xsh hX sh_73) (xrr hX r73_0) (wp_iload_n dX2_isSettled_4 rfl (wp_iv2 dX2_isSettled_5 k2_57 q_X4_askerOf (by decide) (xsh hX sh_74) (by decide) (Nat.le_of_ble_eq_true rfl) ga (wp_istore_n dX2_isSettled_8 ⟨Nat.le_of_ble_eq_true rfl, Or.inr rfl⟩ rfl (wp_aload_n dX2_isSettled_9 rfl rfl (gv2_85 dX2_isSettled_10 (xsh hX sh_73) k7 (wp_iconst (v := -1) dX2_isSettled_13 rfl ?_)))))))
        refine wp_icmp_ne dX2_isSettled_14 rfl (fun c14 => absurd c14 (not_not_intro rfl)) (fun c14 => ?_)
        refine wp_aload_n dX2_isSettled_17 rfl rfl (wp_iload_n dX2_isSettled_18 rfl (wp_iv2 dX2_isSettled_19 k2_60 q_X2_sees (by decide) (xsh hX sh_73) (by decide) (Nat.le_of_ble_eq_true rfl) gs ?_))
        refine wb_if_eq dX2_isSettled_22 rfl (fun c22 => absurd c22 (by decide)) (fun c22 => ?_)
        refine wp_aload_n dX2_isSettled_25 rfl rfl (wp_iload_n dX2_isSettled_26 rfl (wp_iload_n dX2_isSettled_27 rfl (wp_iv3 dX2_isSettled_28 k2_67 q_X2_meets (by decide) (xsh hX sh_73) (by decide) (Nat.le_of_ble_eq_true rfl) gm ?_)))
        refine wb_if_eq dX2_isSettled_31 rfl (fun c31 => absurd c31 (by decide)) (fun c31 => ?_)
        exact wp_iconst (v := nI 1) dX2_isSettled_34 rfl (wp_goto dX2_isSettled_35 rfl (wb_ret dX2_isSettled_39 rfl rfl ⟨rfl, rfl⟩))
      | false =>
        rw [h2] at gm
        refine xcall_intro (ls := [.ref 73, .int (nI k), .int (nI b), .float 0]) q_X2_isSettled (by decide) rfl (Nat.le_of_ble_eq_true rfl) rfl ?_
        refine wp_aload_n dX2_isSettled_0 rfl rfl (g2_14 dX2_isSettled_1 (xsh hX sh_73) (xrr hX r73_0) (wp_iload_n dX2_isSettled_4 rfl (wp_iv2 dX2_isSettled_5 k2_57 q_X4_askerOf (by decide) (xsh hX sh_74) (by decide) (Nat.le_of_ble_eq_true rfl) ga (wp_istore_n dX2_isSettled_8 ⟨Nat.le_of_ble_eq_true rfl, Or.inr rfl⟩ rfl (wp_aload_n dX2_isSettled_9 rfl rfl (gv2_85 dX2_isSettled_10 (xsh hX sh_73) k7 (wp_iconst (v := -1) dX2_isSettled_13 rfl ?_)))))))
        refine wp_icmp_ne dX2_isSettled_14 rfl (fun c14 => absurd c14 (not_not_intro rfl)) (fun c14 => ?_)
        refine wp_aload_n dX2_isSettled_17 rfl rfl (wp_iload_n dX2_isSettled_18 rfl (wp_iv2 dX2_isSettled_19 k2_60 q_X2_sees (by decide) (xsh hX sh_73) (by decide) (Nat.le_of_ble_eq_true rfl) gs ?_))
        refine wb_if_eq dX2_isSettled_22 rfl (fun c22 => absurd c22 (by decide)) (fun c22 => ?_)
        refine wp_aload_n dX2_isSettled_25 rfl rfl (wp_iload_n dX2_isSettled_26 rfl (wp_iload_n dX2_isSettled_27 rfl (wp_iv3 dX2_isSettled_28 k2_67 q_X2_meets (by decide) (xsh hX sh_73) (by decide) (Nat.le_of_ble_eq_true rfl) gm ?_)))
        refine wb_if_eq dX2_isSettled_31 rfl (fun c31 => ?_) (fun c31 => absurd c31 (by decide))
        exact wp_iconst (v := nI 0) dX2_isSettled_38 rfl (wb_ret dX2_isSettled_39 rfl rfl ⟨rfl, rfl⟩)
  | some p =>
    have k7 : S.2.1 73 7 = nI p := k7
    have hp := hw p rfl
    show xcall _ _ _ _ _ (some (.int (xB (decide (b = if q = p then 1 else 0))))) _
    rcases Decidable.em (q = p) with z | z
    · rw [if_pos z]
      rcases Decidable.em (b = 1) with z2 | z2
      · rw [decide_eq_true z2]
        refine xcall_intro (ls := [.ref 73, .int (nI k), .int (nI b), .float 0]) q_X2_isSettled (by decide) rfl (Nat.le_of_ble_eq_true rfl) rfl ?_
        refine wp_aload_n dX2_isSettled_0 rfl rfl (g2_14 dX2_isSettled_1 (xsh hX sh_73) (xrr hX r73_0) (wp_iload_n dX2_isSettled_4 rfl (wp_iv2 dX2_isSettled_5 k2_57 q_X4_askerOf (by decide) (xsh hX sh_74) (by decide) (Nat.le_of_ble_eq_true rfl) ga (wp_istore_n dX2_isSettled_8 ⟨Nat.le_of_ble_eq_true rfl, Or.inr rfl⟩ rfl (wp_aload_n dX2_isSettled_9 rfl rfl (gv2_85 dX2_isSettled_10 (xsh hX sh_73) k7 (wp_iconst (v := -1) dX2_isSettled_13 rfl ?_)))))))
        refine wp_icmp_ne dX2_isSettled_14 rfl (fun c14 => ?_) (fun c14 => absurd c14 (nI_m1 (by omega)))
        refine wp_iload_n dX2_isSettled_40 rfl (wp_iload_n dX2_isSettled_41 rfl (wp_aload_n dX2_isSettled_42 rfl rfl (gv2_85 dX2_isSettled_43 (xsh hX sh_73) k7 ?_)))
        refine wn_icmp_ne dX2_isSettled_46 rfl (by omega) (by omega) (fun c46 => absurd c46 (by omega)) (fun c46 => ?_)
        refine wp_iconst (v := nI 1) dX2_isSettled_49 rfl (wp_goto dX2_isSettled_50 rfl ?_)
        refine wn_icmp_ne dX2_isSettled_54 rfl (by omega) (by omega) (fun c54 => absurd c54 (by omega)) (fun c54 => ?_)
        exact wp_iconst (v := nI 1) dX2_isSettled_57 rfl (wp_goto dX2_isSettled_58 rfl (wb_ret dX2_isSettled_62 rfl rfl ⟨rfl, rfl⟩))
      · rw [decide_eq_false z2]
        refine xcall_intro (ls := [.ref 73, .int (nI k), .int (nI b), .float 0]) q_X2_isSettled (by decide) rfl (Nat.le_of_ble_eq_true rfl) rfl ?_
        refine wp_aload_n dX2_isSettled_0 rfl rfl (g2_14 dX2_isSettled_1 (xsh hX sh_73) (xrr hX r73_0) (wp_iload_n dX2_isSettled_4 rfl (wp_iv2 dX2_isSettled_5 k2_57 q_X4_askerOf (by decide) (xsh hX sh_74) (by decide) (Nat.le_of_ble_eq_true rfl) ga (wp_istore_n dX2_isSettled_8 ⟨Nat.le_of_ble_eq_true rfl, Or.inr rfl⟩ rfl (wp_aload_n dX2_isSettled_9 rfl rfl (gv2_85 dX2_isSettled_10 (xsh hX sh_73) k7 (wp_iconst (v := -1) dX2_isSettled_13 rfl ?_)))))))
        refine wp_icmp_ne dX2_isSettled_14 rfl (fun c14 => ?_) (fun c14 => absurd c14 (nI_m1 (by omega)))
        refine wp_iload_n dX2_isSettled_40 rfl (wp_iload_n dX2_isSettled_41 rfl (wp_aload_n dX2_isSettled_42 rfl rfl (gv2_85 dX2_isSettled_43 (xsh hX sh_73) k7 ?_)))
        refine wn_icmp_ne dX2_isSettled_46 rfl (by omega) (by omega) (fun c46 => absurd c46 (by omega)) (fun c46 => ?_)
        refine wp_iconst (v := nI 1) dX2_isSettled_49 rfl (wp_goto dX2_isSettled_50 rfl ?_)
        refine wn_icmp_ne dX2_isSettled_54 rfl (by omega) (by omega) (fun c54 => ?_) (fun c54 => absurd c54 (by omega))
        exact wp_iconst (v := nI 0) dX2_isSettled_61 rfl (wb_ret dX2_isSettled_62 rfl rfl ⟨rfl, rfl⟩)
    · rw [if_neg z]
      rcases Decidable.em (b = 0) with z2 | z2
      · rw [decide_eq_true z2]
        refine xcall_intro (ls := [.ref 73, .int (nI k), .int (nI b), .float 0]) q_X2_isSettled (by decide) rfl (Nat.le_of_ble_eq_true rfl) rfl ?_
        refine wp_aload_n dX2_isSettled_0 rfl rfl (g2_14 dX2_isSettled_1 (xsh hX sh_73) (xrr hX r73_0) (wp_iload_n dX2_isSettled_4 rfl (wp_iv2 dX2_isSettled_5 k2_57 q_X4_askerOf (by decide) (xsh hX sh_74) (by decide) (Nat.le_of_ble_eq_true rfl) ga (wp_istore_n dX2_isSettled_8 ⟨Nat.le_of_ble_eq_true rfl, Or.inr rfl⟩ rfl (wp_aload_n dX2_isSettled_9 rfl rfl (gv2_85 dX2_isSettled_10 (xsh hX sh_73) k7 (wp_iconst (v := -1) dX2_isSettled_13 rfl ?_)))))))
        refine wp_icmp_ne dX2_isSettled_14 rfl (fun c14 => ?_) (fun c14 => absurd c14 (nI_m1 (by omega)))
        refine wp_iload_n dX2_isSettled_40 rfl (wp_iload_n dX2_isSettled_41 rfl (wp_aload_n dX2_isSettled_42 rfl rfl (gv2_85 dX2_isSettled_43 (xsh hX sh_73) k7 ?_)))
        refine wn_icmp_ne dX2_isSettled_46 rfl (by omega) (by omega) (fun c46 => ?_) (fun c46 => absurd c46 (by omega))
        refine wp_iconst (v := nI 0) dX2_isSettled_53 rfl ?_
        refine wn_icmp_ne dX2_isSettled_54 rfl (by omega) (by omega) (fun c54 => absurd c54 (by omega)) (fun c54 => ?_)
        exact wp_iconst (v := nI 1) dX2_isSettled_57 rfl (wp_goto dX2_isSettled_58 rfl (wb_ret dX2_isSettled_62 rfl rfl ⟨rfl, rfl⟩))
      · rw [decide_eq_false z2]
        refine xcall_intro (ls := [.ref 73, .int (nI k), .int (nI b), .float 0]) q_X2_isSettled (by decide) rfl (Nat.le_of_ble_eq_true rfl) rfl ?_
        refine wp_aload_n dX2_isSettled_0 rfl rfl (g2_14 dX2_isSettled_1 (xsh hX sh_73) (xrr hX r73_0) (wp_iload_n dX2_isSettled_4 rfl (wp_iv2 dX2_isSettled_5 k2_57 q_X4_askerOf (by decide) (xsh hX sh_74) (by decide) (Nat.le_of_ble_eq_true rfl) ga (wp_istore_n dX2_isSettled_8 ⟨Nat.le_of_ble_eq_true rfl, Or.inr rfl⟩ rfl (wp_aload_n dX2_isSettled_9 rfl rfl (gv2_85 dX2_isSettled_10 (xsh hX sh_73) k7 (wp_iconst (v := -1) dX2_isSettled_13 rfl ?_)))))))
        refine wp_icmp_ne dX2_isSettled_14 rfl (fun c14 => ?_) (fun c14 => absurd c14 (nI_m1 (by omega)))
        refine wp_iload_n dX2_isSettled_40 rfl (wp_iload_n dX2_isSettled_41 rfl (wp_aload_n dX2_isSettled_42 rfl rfl (gv2_85 dX2_isSettled_43 (xsh hX sh_73) k7 ?_)))
        refine wn_icmp_ne dX2_isSettled_46 rfl (by omega) (by omega) (fun c46 => ?_) (fun c46 => absurd c46 (by omega))
        refine wp_iconst (v := nI 0) dX2_isSettled_53 rfl ?_
        refine wn_icmp_ne dX2_isSettled_54 rfl (by omega) (by omega) (fun c54 => ?_) (fun c54 => absurd c54 (by omega))
        exact wp_iconst (v := nI 0) dX2_isSettled_61 rfl (wb_ret dX2_isSettled_62 rfl rfl ⟨rfl, rfl⟩)
theorem c_better {c : xPx} {w : Option Nat} {see nw k q b oo : Nat} (d : Nat) (hw : ∀ p, w = some p → p < 12) (hk : k < 24) (hq : q < 12) (hb : oo < 2 ^ 12) {S : xS} (hX : XC S) (hG : xGM S c w see nw) (h80 : S.2.1 80 k = nI q) : xcall false (d + 1) j_X2_better [.ref 73, .int (nI k), .int (nI b), .int (nI oo)] S (some (.int (nI (xbtr c w q b oo)))) S := by
  have k7 := hG.2.2.2
  have ga := c_askerOf (d + 0) hk hX h80
  cases w with
  | none =>
    have k7 : S.2.1 73 7 = -1 := k7
    have gm := c_meets (q := q) (L := oo) (d + 0) (by omega) (by omega) hX hG
    show xcall _ _ _ _ _ (some (.int (nI (if xmt9 c q oo = true then oo else b)))) _
    cases h2 : xmt9 c q oo with
    | true =>
      rw [h2] at gm
      rw [if_pos rfl]
      refine xcall_intro (ls := [.ref 73, .int (nI k), .int (nI b), .int (nI oo)]) q_X2_better (by decide) rfl (Nat.le_of_ble_eq_true rfl) rfl ?_
      refine wp_aload_n dX2_better_0 rfl rfl (gv2_85 dX2_better_1 (xsh hX sh_73) k7 (wp_iconst (v := -1) dX2_better_4 rfl ?_))
      refine wp_icmp_ne dX2_better_5 rfl (fun c5 => absurd c5 (not_not_intro rfl)) (fun c5 => ?_)
      refine wp_aload_n dX2_better_8 rfl rfl (wp_aload_n dX2_better_9 rfl rfl (g2_14 dX2_better_10 (xsh hX sh_73) (xrr hX r73_0) (wp_iload_n dX2_better_13 rfl (wp_iv2 dX2_better_14 k2_57 q_X4_askerOf (by decide) (xsh hX sh_74) (by decide) (Nat.le_of_ble_eq_true rfl) ga (wp_iload_n dX2_better_17 rfl (wp_iv3 dX2_better_18 k2_67 q_X2_meets (by decide) (xsh hX sh_73) (by decide) (Nat.le_of_ble_eq_true rfl) gm ?_))))))
      refine wb_if_eq dX2_better_21 rfl (fun c21 => absurd c21 (by decide)) (fun c21 => ?_)
      exact wp_iload_n dX2_better_24 rfl (wp_goto dX2_better_25 rfl (wp_ireturn dX2_better_29 rfl rfl ⟨rfl, rfl⟩))
    | false =>
      rw [h2] at gm
      rw [if_neg (by decide)]
      refine xcall_intro (ls := [.ref 73, .int (nI k), .int (nI b), .int (nI oo)]) q_X2_better (by decide) rfl (Nat.le_of_ble_eq_true rfl) rfl ?_
      refine wp_aload_n dX2_better_0 rfl rfl (gv2_85 dX2_better_1 (xsh hX sh_73) k7 (wp_iconst (v := -1) dX2_better_4 rfl ?_))
      refine wp_icmp_ne dX2_better_5 rfl (fun c5 => absurd c5 (not_not_intro rfl)) (fun c5 => ?_)
      refine wp_aload_n dX2_better_8 rfl rfl (wp_aload_n dX2_better_9 rfl rfl (g2_14 dX2_better_10 (xsh hX sh_73) (xrr hX r73_0) (wp_iload_n dX2_better_13 rfl (wp_iv2 dX2_better_14 k2_57 q_X4_askerOf (by decide) (xsh hX sh_74) (by decide) (Nat.le_of_ble_eq_true rfl) ga (wp_iload_n dX2_better_17 rfl (wp_iv3 dX2_better_18 k2_67 q_X2_meets (by decide) (xsh hX sh_73) (by decide) (Nat.le_of_ble_eq_true rfl) gm ?_))))))
      refine wb_if_eq dX2_better_21 rfl (fun c21 => ?_) (fun c21 => absurd c21 (by decide))
      exact wp_iload_n dX2_better_28 rfl (wp_ireturn dX2_better_29 rfl rfl ⟨rfl, rfl⟩)
  | some p =>
    have k7 : S.2.1 73 7 = nI p := k7
    have hp := hw p rfl
    show xcall _ _ _ _ _ (some (.int (nI oo))) _
    refine xcall_intro (ls := [.ref 73, .int (nI k), .int (nI b), .int (nI oo)]) q_X2_better (by decide) rfl (Nat.le_of_ble_eq_true rfl) rfl ?_
    refine wp_aload_n dX2_better_0 rfl rfl (gv2_85 dX2_better_1 (xsh hX sh_73) k7 (wp_iconst (v := -1) dX2_better_4 rfl ?_))
    refine wp_icmp_ne dX2_better_5 rfl (fun c5 => ?_) (fun c5 => absurd c5 (nI_m1 (by omega)))
    exact wp_iload_n dX2_better_30 rfl (wp_ireturn dX2_better_31 rfl rfl ⟨rfl, rfl⟩)
theorem c_key {m s : Nat} (d : Nat) {S : xS} : xcall false d j_X2_key [.int (nI m), .int (nI s)] S (some (.int (nI (m * 8 + s)))) S := by
  refine xcall_intro (ls := [.int (nI m), .int (nI s)]) q_X2_key (by decide) rfl (Nat.le_of_ble_eq_true rfl) rfl ?_
  exact wp_iload_n dX2_key_0 rfl (wp_bipush (v := nI 8) dX2_key_1 rfl (wv_imul dX2_key_3 (pk_mul _ _) (wp_iload_n dX2_key_4 rfl (wv_iadd dX2_key_5 (nI_add _ _) (wp_ireturn dX2_key_6 rfl rfl ⟨rfl, rfl⟩)))))
theorem c_isKey {x : Nat} (d : Nat) (hx : x < 2048) {S : xS} : xcall false d j_X2_isKey [.int (nI x)] S (some (.int (xB true))) S := by
  refine xcall_intro (ls := [.int (nI x)]) q_X2_isKey (by decide) rfl (Nat.le_of_ble_eq_true rfl) rfl ?_
  refine wp_iload_n dX2_isKey_0 rfl ?_
  refine wn_if_lt dX2_isKey_1 rfl (by omega) ?_
  refine wp_iload_n dX2_isKey_4 rfl (wp_sipush (v := nI 2048) dX2_isKey_5 rfl ?_)
  refine wn_icmp_ge dX2_isKey_8 rfl (by omega) (by omega) (fun c8 => absurd c8 (by omega)) (fun c8 => ?_)
  exact wp_iconst (v := nI 1) dX2_isKey_11 rfl (wp_goto dX2_isKey_12 rfl (wb_ret dX2_isKey_16 rfl rfl ⟨rfl, rfl⟩))
