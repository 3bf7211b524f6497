/-! THE RING, as numbers; the small methods of the class -/
/-- PEOPLE, by fists, HIT stays, turns, whence the next, how many are LEFT -/
def xRg : Type := Nat × Bool × Bool × Bool × Nat × Nat
def xgP (g : xRg) : Nat := g.1
def xgf (g : xRg) : Bool := g.2.1
def xgs (g : xRg) : Bool := g.2.2.1
def xgt (g : xRg) : Bool := g.2.2.2.1
def xgn (g : xRg) : Nat := g.2.2.2.2.1
def xgl (g : xRg) : Nat := g.2.2.2.2.2
def xgH (g : xRg) : Nat := if xgf g = true then 2 * xgP g else xgP g
def xgo (g : xRg) : Prop := 1 ≤ xgP g ∧ xgP g ≤ 12 ∧ xgn g ≤ 2 ∧ xgl g < 2 ^ 30
theorem xgo.H {g : xRg} (h : xgo g) : 1 ≤ xgH g ∧ xgH g ≤ 24 ∧ xgP g ≤ xgH g := by
  obtain ⟨h1, h2, _⟩ := h
  unfold xgH
  split <;> omega
def xow (f : Bool) (h : Nat) : Nat := if f = true then h / 2 else h
theorem xow_lt {g : xRg} {h : Nat} (hh : h < xgH g) : xow (xgf g) h < xgP g := by
  unfold xow
  unfold xgH at hh
  split
  · rename_i w; rw [if_pos w] at hh; omega
  · rename_i w; rw [if_neg w] at hh; exact hh
/-- whether one goes back, k having been HIT -/
def xbk (g : xRg) (k : Nat) : Bool := xgt g && decide (k % 2 = 1)
def xsdd (H : Nat) (b : Bool) (h : Nat) : Nat := if b = true then (if 0 < h then h - 1 else H - 1) else (if h + 1 < H then h + 1 else 0)
theorem xsdd_lt {H h : Nat} (b : Bool) (hh : h < H) : xsdd H b h < H := by
  unfold xsdd
  split
  · split <;> omega
  · split <;> omega
/-- the HANDS that are in, in their row -/
def xlu (m H : Nat) (b : Bool) : Nat → Nat → List Nat
  | 0, _ => []
  | k + 1, h => (if m.testBit h = true then [h] else []) ++ xlu m H b k (xsdd H b h)
theorem xlu_le (m H : Nat) (b : Bool) : ∀ (k h : Nat), (xlu m H b k h).length ≤ k
  | 0, h => Nat.le_refl _
  | k + 1, h => by
    have := xlu_le m H b k (xsdd H b h)
    rw [xlu, List.length_append]
    split <;> simp <;> omega
theorem xlu_in {m H : Nat} (b : Bool) : ∀ (k h : Nat), h < H → ∀ x ∈ xlu m H b k h, x < H ∧ m.testBit x = true
  | 0, h, hh, x, hx => by cases hx
  | k + 1, h, hh, x, hx => by
    rw [xlu] at hx
    rcases List.mem_append.mp hx with q | q
    · split at q
      · rename_i w; rw [List.mem_singleton.mp q]; exact ⟨hh, w⟩
      · cases q
    · exact xlu_in b k _ (xsdd_lt b hh) x q
def xha (R : List Nat) (p : Nat) : Nat := R.getD (p % R.length) 0
theorem xha_lt {m H : Nat} {b : Bool} {k h p : Nat} (hh : h < H) : xha (xlu m H b k h) p < H := by
  unfold xha
  rcases Nat.eq_zero_or_pos (xlu m H b k h).length with w | w
  · rw [List.length_eq_zero_iff.mp w]; show (0 : Nat) < H; omega
  · exact (xlu_in b k h hh _ (xmem_getD (d := 0) (Nat.mod_lt p w))).1
/-- the next one that is in -/
def xfi (m H : Nat) (b : Bool) (z : Nat) : Nat → Nat → Nat
  | 0, _ => z
  | k + 1, h => if m.testBit (xsdd H b h) = true then xsdd H b h else xfi m H b z k (xsdd H b h)
theorem xfi_lt {m H z : Nat} (b : Bool) (hz : z < H) : ∀ (k h : Nat), h < H → xfi m H b z k h < H
  | 0, h, _ => hz
  | k + 1, h, hh => by
    rw [xfi]
    split
    · exact xsdd_lt b hh
    · exact xfi_lt b hz k _ (xsdd_lt b hh)
def xni (g : xRg) (m h k : Nat) : Nat := xfi m (xgH g) (xbk g k) h (xgH g) h
/-- where the next COUNTING begins -/
def xnb1 (g : xRg) (m s h k : Nat) : Nat := if xgn g = 1 then (if m.testBit s = true then s else xni g m s k) else if xgn g = 2 then (if m.testBit 0 = true then 0 else if xgf g = true ∧ m.testBit 1 = true then 1 else xni g m h k) else xni g m h k
/-- PEOPLE of HANDS, as bits -/
def xpo (m : Nat) : Nat → Nat
  | 0 => 0
  | p + 1 => if m / 2 ^ (2 * p) % 4 = 0 then xpo m p else xpo m p ||| 2 ^ p
theorem xpo_lt (m : Nat) : ∀ p, xpo m p < 2 ^ p
  | 0 => by rw [xpo]; decide
  | p + 1 => by
    have h := xpo_lt m p
    have h2 : 2 ^ (p + 1) = 2 * 2 ^ p := Nat.pow_succ'
    rw [xpo]
    split
    · omega
    · exact Nat.or_lt_two_pow (by omega) (Nat.pow_lt_pow_right (by decide) (Nat.lt_succ_self p))
def xpm (g : xRg) (m : Nat) : Nat := if xgf g = true then xpo m (xgP g) else m
theorem xpm_lt {g : xRg} {m : Nat} (hm : m < 2 ^ xgH g) : xpm g m < 2 ^ xgP g := by
  unfold xpm
  unfold xgH at hm
  split
  · exact xpo_lt _ _
  · rename_i w; rw [if_neg w] at hm; exact hm
def xovr (g : xRg) (m : Nat) : Bool := !xgs g && decide (xcb (xpm g m) 12 ≤ xgl g)
theorem xshR {m h : Nat} (hm : m < 2 ^ 31) (hh : h < 32) : nI m >>> (nI h &&& 31) = nI (m / 2 ^ h) := pk_shrN hm _ h (s_l h hh)
theorem xshR1 {m : Nat} (hm : m < 2 ^ 31) : nI m >>> (nI 1 &&& 31) = nI (m / 2) := xshR (h := 1) hm (by decide)
theorem xtbb (m h : Nat) : m / 2 ^ h % 2 = if m.testBit h = true then 1 else 0 := by
  rw [Nat.testBit_eq_decide_div_mod_eq]
  split
  · rename_i w; exact of_decide_eq_true w
  · rename_i w
    have : ¬ m / 2 ^ h % 2 = 1 := fun e => w (decide_eq_true e)
    omega
theorem xand1 {n : Nat} (h : n < 2 ^ 31) : nI n &&& nI 1 = nI (n % 2) := pk_andN (by omega) 1 (by decide)
theorem xand3 {n : Nat} (h : n < 2 ^ 31) : nI n &&& nI 3 = nI (n % 4) := pk_andN (by omega) 2 (by decide)
theorem xbitt {m h : Nat} (hm : m < 2 ^ 31) : nI (m / 2 ^ h) &&& nI 1 = nI (if m.testBit h = true then 1 else 0) := by
  have := Nat.div_le_self m (2 ^ h)
  rw [xand1 (by omega), xtbb]
theorem xshl1 {h : Nat} (hh : h < 31) : nI 1 <<< (nI h &&& 31) = nI (2 ^ h) := by
  have := pk_shlN (n := 1) (nI h &&& 31) h (s_l h (by omega)) (by rw [Nat.one_mul]; exact Nat.pow_lt_pow_right (by decide) (by omega))
  rw [Nat.one_mul] at this
  exact this
theorem bt_nI (n i : Nat) (hi : i < 32) : bt (nI n) i = n.testBit i := by
  show (BitVec.ofNat 32 n).getLsbD i = _
  rw [BitVec.getLsbD_ofNat, decide_eq_true hi, Bool.true_and]
/-- a HAND goes -/
theorem xrmb {m h : Nat} (hh : h < 31) (hb : m.testBit h = true) : nI m &&& (nI (2 ^ h) ^^^ (-1)) = nI (m ^^^ 2 ^ h) := by
  refine b_ext (fun i hi => ?_)
  rw [b_and, b_xor, b_m1 i hi, bt_nI _ _ hi, bt_nI _ _ hi, bt_nI _ _ hi, Nat.testBit_xor, Nat.testBit_two_pow]
  rcases Decidable.em (h = i) with w | w
  · subst w; rw [hb, decide_eq_true rfl]; rfl
  · rw [decide_eq_false w]; cases m.testBit i <;> rfl
theorem xrm_lt {m h H : Nat} (hm : m < 2 ^ H) (hh : h < H) : m ^^^ 2 ^ h < 2 ^ H := Nat.xor_lt_two_pow hm (Nat.pow_lt_pow_right (by decide) hh)
theorem x24 {m H : Nat} (hH : H ≤ 24) (hm : m < 2 ^ H) : m < 2 ^ 24 := Nat.lt_of_lt_of_le hm (Nat.pow_le_pow_right (by decide) hH)
/-- the numbers of the RING in the class -/
def xRC (S : xS) (g : xRg) : Prop := S.2.1 74 10 = nI (xgP g) ∧ S.2.1 74 11 = nI (if xgf g = true then 2 else 1) ∧ S.2.1 74 12 = nI (xgH g) ∧ S.2.1 74 13 = nI (xgl g) ∧ S.2.1 74 14 = nI (xgn g) ∧ S.2.1 74 16 = xB (xgs g) ∧ S.2.1 74 17 = xB (xgt g)
theorem xRC.fr {S S' : xS} {g : xRg} {P : Nat → Nat → Prop} (h : xRC S g) (hf : xFl P S S') (hn : ∀ k, 10 ≤ k → ¬ P 74 k) : xRC S' g := ⟨hf.i h.1 (hn _ (by omega)), hf.i h.2.1 (hn _ (by omega)), hf.i h.2.2.1 (hn _ (by omega)), hf.i h.2.2.2.1 (hn _ (by omega)), hf.i h.2.2.2.2.1 (hn _ (by omega)), hf.i h.2.2.2.2.2.1 (hn _ (by omega)), hf.i h.2.2.2.2.2.2 (hn _ (by omega))⟩
theorem c_ownerOf {g : xRg} {h : Nat} (d : Nat) (hh : h < 2 ^ 30) {S : xS} (hX : XC S) (hR : xRC S g) : xcall false d j_X4_ownerOf [.ref 74, .int (nI h)] S (some (.int (nI (xow (xgf g) h)))) S := by
  have k1 := hR.2.1
  unfold xow
  cases e : xgf g with
  | true =>
    rw [e, if_pos rfl] at k1
    rw [if_pos rfl]
    refine xcall_intro (ls := [.ref 74, .int (nI h)]) q_X4_ownerOf (by decide) rfl (Nat.le_of_ble_eq_true rfl) rfl ?_
    refine wp_aload_n dX4_ownerOf_0 rfl rfl (gv4_50 dX4_ownerOf_1 (xsh hX sh_74) k1 (wp_iconst (v := nI 2) dX4_ownerOf_4 rfl ?_))
    refine wn_icmp_ne dX4_ownerOf_5 rfl (by omega) (by omega) (fun c5 => absurd c5 (by omega)) (fun c5 => ?_)
    exact wp_iload_n dX4_ownerOf_8 rfl (wp_iconst (v := nI 1) dX4_ownerOf_9 rfl (wv_ishr dX4_ownerOf_10 (xshR1 (by omega)) (wp_goto dX4_ownerOf_11 rfl (wp_ireturn dX4_ownerOf_15 rfl rfl ⟨rfl, rfl⟩))))
  | false =>
    rw [e, if_neg (by decide)] at k1
    rw [if_neg (by decide)]
    refine xcall_intro (ls := [.ref 74, .int (nI h)]) q_X4_ownerOf (by decide) rfl (Nat.le_of_ble_eq_true rfl) rfl ?_
    refine wp_aload_n dX4_ownerOf_0 rfl rfl (gv4_50 dX4_ownerOf_1 (xsh hX sh_74) k1 (wp_iconst (v := nI 2) dX4_ownerOf_4 rfl ?_))
    refine wn_icmp_ne dX4_ownerOf_5 rfl (by omega) (by omega) (fun c5 => ?_) (fun c5 => absurd c5 (by omega))
    exact wp_iload_n dX4_ownerOf_14 rfl (wp_ireturn dX4_ownerOf_15 rfl rfl ⟨rfl, rfl⟩)
theorem c_isIn {m h : Nat} (d : Nat) (hm : m < 2 ^ 31) (hh : h < 32) {S : xS} : xcall false d j_X4_isIn [.int (nI m), .int (nI h)] S (some (.int (xB (m.testBit h)))) S := by
  have eb := xbitt (h := h) hm
  cases e : m.testBit h with
  | true =>
    rw [e, if_pos rfl] at eb
    refine xcall_intro (ls := [.int (nI m), .int (nI h)]) q_X4_isIn (by decide) rfl (Nat.le_of_ble_eq_true rfl) rfl ?_
    refine wp_iload_n dX4_isIn_0 rfl (wp_iload_n dX4_isIn_1 rfl (wv_ishr dX4_isIn_2 (xshR hm hh) (wp_iconst (v := nI 1) dX4_isIn_3 rfl (wv_iand dX4_isIn_4 eb ?_))))
    refine wn_if_eq dX4_isIn_5 rfl (by omega) (fun c5 => absurd c5 (by omega)) (fun c5 => ?_)
    exact wp_iconst (v := nI 1) dX4_isIn_8 rfl (wp_goto dX4_isIn_9 rfl (wb_ret dX4_isIn_13 rfl rfl ⟨rfl, rfl⟩))
  | false =>
    rw [e, if_neg (by decide)] at eb
    refine xcall_intro (ls := [.int (nI m), .int (nI h)]) q_X4_isIn (by decide) rfl (Nat.le_of_ble_eq_true rfl) rfl ?_
    refine wp_iload_n dX4_isIn_0 rfl (wp_iload_n dX4_isIn_1 rfl (wv_ishr dX4_isIn_2 (xshR hm hh) (wp_iconst (v := nI 1) dX4_isIn_3 rfl (wv_iand dX4_isIn_4 eb ?_))))
    refine wn_if_eq dX4_isIn_5 rfl (by omega) (fun c5 => ?_) (fun c5 => absurd c5 (by omega))
    exact wp_iconst (v := nI 0) dX4_isIn_12 rfl (wb_ret dX4_isIn_13 rfl rfl ⟨rfl, rfl⟩)
theorem c_beside {h k : Nat} (d : Nat) {g : xRg} (hg : xgo g) (hh : h < xgH g) (hk : k < 1000) {S : xS} (hX : XC S) (hR : xRC S g) : xcall false d j_X4_beside [.ref 74, .int (nI h), .int (nI k)] S (some (.int (nI (xsdd (xgH g) (xbk g k) h)))) S := by
  have k7 := hR.2.2.2.2.2.2
  have k2 := hR.2.2.1
  obtain ⟨q1, q2, q3⟩ := hg.H
  have fwd : Wp false d 4 cX4_beside (some .int) false 30 [.ref 74, .int (nI h), .int (nI k)] [] S (fun r S' => r = some (.int (nI (xsdd (xgH g) false h))) ∧ S' = S) := by
    rcases Nat.lt_or_ge (h + 1) (xgH g) with w | w
    · rw [show xsdd (xgH g) false h = h + 1 by unfold xsdd; rw [if_neg (by decide), if_pos w]]
      refine wp_iload_n dX4_beside_30 rfl (wp_iconst (v := nI 1) dX4_beside_31 rfl (wv_iadd dX4_beside_32 (nI_add _ _) (wp_aload_n dX4_beside_33 rfl rfl (gv4_53 dX4_beside_34 (xsh hX sh_74) k2 ?_))))
      refine wn_icmp_ge dX4_beside_37 rfl (by omega) (by omega) (fun c37 => absurd c37 (by omega)) (fun c37 => ?_)
      exact wp_iload_n dX4_beside_40 rfl (wp_iconst (v := nI 1) dX4_beside_41 rfl (wv_iadd dX4_beside_42 (nI_add _ _) (wp_goto dX4_beside_43 rfl (wp_ireturn dX4_beside_47 rfl rfl ⟨rfl, rfl⟩))))
    · rw [show xsdd (xgH g) false h = 0 by unfold xsdd; rw [if_neg (by decide), if_neg (by omega)]]
      refine wp_iload_n dX4_beside_30 rfl (wp_iconst (v := nI 1) dX4_beside_31 rfl (wv_iadd dX4_beside_32 (nI_add _ _) (wp_aload_n dX4_beside_33 rfl rfl (gv4_53 dX4_beside_34 (xsh hX sh_74) k2 ?_))))
      refine wn_icmp_ge dX4_beside_37 rfl (by omega) (by omega) (fun c37 => ?_) (fun c37 => absurd c37 (by omega))
      exact wp_iconst (v := nI 0) dX4_beside_46 rfl (wp_ireturn dX4_beside_47 rfl rfl ⟨rfl, rfl⟩)
  have eb : xbk g k = (xgt g && decide (k % 2 = 1)) := rfl
  cases et : xgt g with
  | false =>
    rw [et] at k7 eb
    rw [eb, Bool.false_and]
    refine xcall_intro (ls := [.ref 74, .int (nI h), .int (nI k)]) q_X4_beside (by decide) rfl (Nat.le_of_ble_eq_true rfl) rfl ?_
    refine wp_aload_n dX4_beside_0 rfl rfl (gv4_112 dX4_beside_1 (xsh hX sh_74) k7 ?_)
    refine wb_if_eq dX4_beside_4 rfl (fun c4 => ?_) (fun c4 => absurd c4 (by decide))
    exact fwd
  | true =>
    rw [et] at k7 eb
    rw [eb, Bool.true_and]
    rcases Nat.mod_two_eq_zero_or_one k with z | z
    · rw [decide_eq_false (by omega)]
      refine xcall_intro (ls := [.ref 74, .int (nI h), .int (nI k)]) q_X4_beside (by decide) rfl (Nat.le_of_ble_eq_true rfl) rfl ?_
      refine wp_aload_n dX4_beside_0 rfl rfl (gv4_112 dX4_beside_1 (xsh hX sh_74) k7 ?_)
      refine wb_if_eq dX4_beside_4 rfl (fun c4 => absurd c4 (by decide)) (fun c4 => ?_)
      refine wp_iload_n dX4_beside_7 rfl (wp_iconst (v := nI 1) dX4_beside_8 rfl (wv_iand dX4_beside_9 (xand1 (by omega)) ?_))
      refine wn_if_eq dX4_beside_10 rfl (by omega) (fun c10 => ?_) (fun c10 => absurd c10 (by omega))
      exact fwd
    · rw [decide_eq_true z]
      rcases Nat.eq_zero_or_pos h with w | w
      · rw [show xsdd (xgH g) true h = xgH g - 1 by unfold xsdd; rw [if_pos rfl, if_neg (by omega)]]
        refine xcall_intro (ls := [.ref 74, .int (nI h), .int (nI k)]) q_X4_beside (by decide) rfl (Nat.le_of_ble_eq_true rfl) rfl ?_
        refine wp_aload_n dX4_beside_0 rfl rfl (gv4_112 dX4_beside_1 (xsh hX sh_74) k7 ?_)
        refine wb_if_eq dX4_beside_4 rfl (fun c4 => absurd c4 (by decide)) (fun c4 => ?_)
        refine wp_iload_n dX4_beside_7 rfl (wp_iconst (v := nI 1) dX4_beside_8 rfl (wv_iand dX4_beside_9 (xand1 (by omega)) ?_))
        refine wn_if_eq dX4_beside_10 rfl (by omega) (fun c10 => absurd c10 (by omega)) (fun c10 => ?_)
        refine wp_iload_n dX4_beside_13 rfl ?_
        refine wn_if_le dX4_beside_14 rfl (by omega) (fun c14 => ?_) (fun c14 => absurd c14 (by omega))
        exact wp_aload_n dX4_beside_23 rfl rfl (gv4_53 dX4_beside_24 (xsh hX sh_74) k2 (wp_iconst (v := nI 1) dX4_beside_27 rfl (wv_isub dX4_beside_28 (pk_sub (by omega)) (wp_ireturn dX4_beside_29 rfl rfl ⟨rfl, rfl⟩))))
      · rw [show xsdd (xgH g) true h = h - 1 by unfold xsdd; rw [if_pos rfl, if_pos w]]
        refine xcall_intro (ls := [.ref 74, .int (nI h), .int (nI k)]) q_X4_beside (by decide) rfl (Nat.le_of_ble_eq_true rfl) rfl ?_
        refine wp_aload_n dX4_beside_0 rfl rfl (gv4_112 dX4_beside_1 (xsh hX sh_74) k7 ?_)
        refine wb_if_eq dX4_beside_4 rfl (fun c4 => absurd c4 (by decide)) (fun c4 => ?_)
        refine wp_iload_n dX4_beside_7 rfl (wp_iconst (v := nI 1) dX4_beside_8 rfl (wv_iand dX4_beside_9 (xand1 (by omega)) ?_))
        refine wn_if_eq dX4_beside_10 rfl (by omega) (fun c10 => absurd c10 (by omega)) (fun c10 => ?_)
        refine wp_iload_n dX4_beside_13 rfl ?_
        refine wn_if_le dX4_beside_14 rfl (by omega) (fun c14 => absurd c14 (by omega)) (fun c14 => ?_)
        exact wp_iload_n dX4_beside_17 rfl (wp_iconst (v := nI 1) dX4_beside_18 rfl (wv_isub dX4_beside_19 (pk_sub (by omega)) (wp_goto dX4_beside_20 rfl (wp_ireturn dX4_beside_29 rfl rfl ⟨rfl, rfl⟩))))
theorem ni_loop {m h k : Nat} {d : Nat} {g : xRg} (hg : xgo g) (hm : m < 2 ^ 31) (hk : k < 1000) {S : xS} (hX : XC S) (hR : xRC S g) : ∀ (j i a : Nat), i + j = xgH g → a < xgH g → Wp false (d + 1) 4 cX4_nextIn (some .int) false 6 [.ref 74, .int (nI m), .int (nI h), .int (nI k), .int (nI a), .int (nI i)] [] S (fun r S' => r = some (.int (nI (xfi m (xgH g) (xbk g k) h j a))) ∧ S' = S) := by
  have k2 := hR.2.2.1
  obtain ⟨q1, q2, q3⟩ := hg.H
  intro j
  induction j with
  | zero =>
    intro i a hi ha
    have hii : i = xgH g := by omega
    subst hii
    refine wp_iload dX4_nextIn_6 rfl (wp_aload_n dX4_nextIn_8 rfl rfl (gv4_53 dX4_nextIn_9 (xsh hX sh_74) k2 ?_))
    refine wn_icmp_ge dX4_nextIn_12 rfl (by omega) (by omega) (fun c12 => ?_) (fun c12 => absurd c12 (by omega))
    exact wp_iload_n dX4_nextIn_42 rfl (wp_ireturn dX4_nextIn_43 rfl rfl ⟨rfl, rfl⟩)
  | succ j ih =>
    intro i a hi ha
    have gb := c_beside (d + 0) hg ha hk hX hR
    have hl := xsdd_lt (xbk g k) ha
    have gi := c_isIn (h := xsdd (xgH g) (xbk g k) a) (d + 0) hm (by omega) (S := S)
    rw [xfi]
    cases e : m.testBit (xsdd (xgH g) (xbk g k) a) with
    | true =>
      rw [if_pos rfl]
      rw [e] at gi
      refine wp_iload dX4_nextIn_6 rfl (wp_aload_n dX4_nextIn_8 rfl rfl (gv4_53 dX4_nextIn_9 (xsh hX sh_74) k2 ?_))
      refine wn_icmp_ge dX4_nextIn_12 rfl (by omega) (by omega) (fun c12 => absurd c12 (by omega)) (fun c12 => ?_)
      refine wp_aload_n dX4_nextIn_15 rfl rfl (wp_iload dX4_nextIn_16 rfl (wp_iload_n dX4_nextIn_18 rfl (wp_iv3 dX4_nextIn_19 k4_140 q_X4_beside (by decide) (xsh hX sh_74) (by decide) (Nat.le_of_ble_eq_true rfl) gb (wp_istore dX4_nextIn_22 ⟨Nat.le_of_ble_eq_true rfl, Or.inr rfl⟩ rfl (wp_iload_n dX4_nextIn_24 rfl (wp_iload dX4_nextIn_25 rfl (wp_is2 dX4_nextIn_27 k4_143 q_X4_isIn (by decide) (Nat.le_of_ble_eq_true rfl) gi ?_)))))))
      refine wb_if_eq dX4_nextIn_30 rfl (fun c30 => absurd c30 (by decide)) (fun c30 => ?_)
      exact wp_iload dX4_nextIn_33 rfl (wp_ireturn dX4_nextIn_35 rfl rfl ⟨rfl, rfl⟩)
    | false =>
      rw [if_neg (by decide)]
      rw [e] at gi
      refine wp_iload dX4_nextIn_6 rfl (wp_aload_n dX4_nextIn_8 rfl rfl (gv4_53 dX4_nextIn_9 (xsh hX sh_74) k2 ?_))
      refine wn_icmp_ge dX4_nextIn_12 rfl (by omega) (by omega) (fun c12 => absurd c12 (by omega)) (fun c12 => ?_)
      refine wp_aload_n dX4_nextIn_15 rfl rfl (wp_iload dX4_nextIn_16 rfl (wp_iload_n dX4_nextIn_18 rfl (wp_iv3 dX4_nextIn_19 k4_140 q_X4_beside (by decide) (xsh hX sh_74) (by decide) (Nat.le_of_ble_eq_true rfl) gb (wp_istore dX4_nextIn_22 ⟨Nat.le_of_ble_eq_true rfl, Or.inr rfl⟩ rfl (wp_iload_n dX4_nextIn_24 rfl (wp_iload dX4_nextIn_25 rfl (wp_is2 dX4_nextIn_27 k4_143 q_X4_isIn (by decide) (Nat.le_of_ble_eq_true rfl) gi ?_)))))))
      refine wb_if_eq dX4_nextIn_30 rfl (fun c30 => ?_) (fun c30 => absurd c30 (by decide))
      exact wp_iinc dX4_nextIn_36 rfl (nI_1 _) ⟨Nat.le_of_ble_eq_true rfl, Or.inr rfl⟩ rfl (wp_goto dX4_nextIn_39 rfl (ih (i + 1) _ (by omega) hl))
theorem c_nextIn {m h k : Nat} (d : Nat) {g : xRg} (hg : xgo g) (hm : m < 2 ^ 31) (hh : h < xgH g) (hk : k < 1000) {S : xS} (hX : XC S) (hR : xRC S g) : xcall false (d + 1) j_X4_nextIn [.ref 74, .int (nI m), .int (nI h), .int (nI k)] S (some (.int (nI (xni g m h k)))) S := by
  refine xcall_intro (ls := [.ref 74, .int (nI m), .int (nI h), .int (nI k), .float 0, .float 0]) q_X4_nextIn (by decide) rfl (Nat.le_of_ble_eq_true rfl) rfl ?_
  exact wp_iload_n dX4_nextIn_0 rfl (wp_istore dX4_nextIn_1 ⟨Nat.le_of_ble_eq_true rfl, Or.inr rfl⟩ rfl (wp_iconst (v := nI 0) dX4_nextIn_3 rfl (wp_istore dX4_nextIn_4 ⟨Nat.le_of_ble_eq_true rfl, Or.inr rfl⟩ rfl (ni_loop hg hm hk hX hR (xgH g) 0 h (Nat.zero_add _) hh))))
theorem c_nextBegin {m s h k : Nat} (d : Nat) {g : xRg} (hg : xgo g) (hm : m < 2 ^ 31) (hs : s < xgH g) (hh : h < xgH g) (hk : k < 1000) {S : xS} (hX : XC S) (hR : xRC S g) : xcall false (d + 2) j_X4_nextBegin [.ref 74, .int (nI m), .int (nI s), .int (nI h), .int (nI k)] S (some (.int (nI (xnb1 g m s h k)))) S := by
  have k5 := hR.2.2.2.2.1
  have k2 := hR.2.1
  obtain ⟨q1, q2, q3⟩ := hg.H
  have hn2 := hg.2.2.1
  have gs := c_isIn (h := s) (d + 1) hm (by omega) (S := S)
  have g0 := c_isIn (h := 0) (d + 1) hm (by decide) (S := S)
  have g1 := c_isIn (h := 1) (d + 1) hm (by decide) (S := S)
  have gn := c_nextIn (d + 0) hg hm hs hk hX hR
  have gh := c_nextIn (d + 0) hg hm hh hk hX hR
  rcases Decidable.em (xgn g = 1) with n1 | n1
  · cases e : m.testBit s with
    | true =>
      rw [e] at gs
      rw [show xnb1 g m s h k = s by unfold xnb1; rw [if_pos n1, if_pos e]]
      refine xcall_intro (ls := [.ref 74, .int (nI m), .int (nI s), .int (nI h), .int (nI k), .float 0]) q_X4_nextBegin (by decide) rfl (Nat.le_of_ble_eq_true rfl) rfl ?_
      refine wp_aload_n dX4_nextBegin_0 rfl rfl (gv4_94 dX4_nextBegin_1 (xsh hX sh_74) k5 (wp_iconst (v := nI 1) dX4_nextBegin_4 rfl ?_))
      refine wn_icmp_ne dX4_nextBegin_5 rfl (by omega) (by omega) (fun c5 => absurd c5 (by omega)) (fun c5 => ?_)
      refine wp_iload_n dX4_nextBegin_8 rfl (wp_iload_n dX4_nextBegin_9 rfl (wp_is2 dX4_nextBegin_10 k4_143 q_X4_isIn (by decide) (Nat.le_of_ble_eq_true rfl) gs ?_))
      refine wb_if_eq dX4_nextBegin_13 rfl (fun c13 => absurd c13 (by decide)) (fun c13 => ?_)
      exact wp_iload_n dX4_nextBegin_16 rfl (wp_goto dX4_nextBegin_17 rfl (wp_ireturn dX4_nextBegin_28 rfl rfl ⟨rfl, rfl⟩))
    | false =>
      rw [e] at gs
      rw [show xnb1 g m s h k = xni g m s k by unfold xnb1; rw [if_pos n1, if_neg (by rw [e]; decide)]]
      refine xcall_intro (ls := [.ref 74, .int (nI m), .int (nI s), .int (nI h), .int (nI k), .float 0]) q_X4_nextBegin (by decide) rfl (Nat.le_of_ble_eq_true rfl) rfl ?_
      refine wp_aload_n dX4_nextBegin_0 rfl rfl (gv4_94 dX4_nextBegin_1 (xsh hX sh_74) k5 (wp_iconst (v := nI 1) dX4_nextBegin_4 rfl ?_))
      refine wn_icmp_ne dX4_nextBegin_5 rfl (by omega) (by omega) (fun c5 => absurd c5 (by omega)) (fun c5 => ?_)
      refine wp_iload_n dX4_nextBegin_8 rfl (wp_iload_n dX4_nextBegin_9 rfl (wp_is2 dX4_nextBegin_10 k4_143 q_X4_isIn (by decide) (Nat.le_of_ble_eq_true rfl) gs ?_))
      refine wb_if_eq dX4_nextBegin_13 rfl (fun c13 => ?_) (fun c13 => absurd c13 (by decide))
      exact wp_aload_n dX4_nextBegin_20 rfl rfl (wp_iload_n dX4_nextBegin_21 rfl (wp_iload_n dX4_nextBegin_22 rfl (wp_iload dX4_nextBegin_23 rfl (wp_iv4 dX4_nextBegin_25 k4_147 q_X4_nextIn (by decide) (xsh hX sh_74) (by decide) (Nat.le_of_ble_eq_true rfl) gn (wp_ireturn dX4_nextBegin_28 rfl rfl ⟨rfl, rfl⟩)))))
  rcases Decidable.em (xgn g = 2) with n2 | n2
  · cases e0 : m.testBit 0 with
    | true =>
      rw [e0] at g0
      rw [show xnb1 g m s h k = 0 by unfold xnb1; rw [if_neg n1, if_pos n2, if_pos e0]]
      cases ef : xgf g with
      | true =>
        rw [ef, if_pos rfl] at k2
        refine xcall_intro (ls := [.ref 74, .int (nI m), .int (nI s), .int (nI h), .int (nI k), .float 0]) q_X4_nextBegin (by decide) rfl (Nat.le_of_ble_eq_true rfl) rfl ?_
        refine wp_aload_n dX4_nextBegin_0 rfl rfl (gv4_94 dX4_nextBegin_1 (xsh hX sh_74) k5 (wp_iconst (v := nI 1) dX4_nextBegin_4 rfl ?_))
        refine wn_icmp_ne dX4_nextBegin_5 rfl (by omega) (by omega) (fun c5 => ?_) (fun c5 => absurd c5 (by omega))
        refine wp_aload_n dX4_nextBegin_29 rfl rfl (gv4_94 dX4_nextBegin_30 (xsh hX sh_74) k5 (wp_iconst (v := nI 2) dX4_nextBegin_33 rfl ?_))
        refine wn_icmp_ne dX4_nextBegin_34 rfl (by omega) (by omega) (fun c34 => absurd c34 (by omega)) (fun c34 => ?_)
        refine wp_iconst (v := nI 0) dX4_nextBegin_37 rfl (wp_istore dX4_nextBegin_38 ⟨Nat.le_of_ble_eq_true rfl, Or.inr rfl⟩ rfl ?_)
        refine wp_iload dX4_nextBegin_40 rfl (wp_aload_n dX4_nextBegin_42 rfl rfl (gv4_50 dX4_nextBegin_43 (xsh hX sh_74) k2 ?_))
        refine wn_icmp_ge dX4_nextBegin_46 rfl (by omega) (by omega) (fun c46 => absurd c46 (by omega)) (fun c46 => ?_)
        refine wp_iload_n dX4_nextBegin_49 rfl (wp_iload dX4_nextBegin_50 rfl (wp_is2 dX4_nextBegin_52 k4_143 q_X4_isIn (by decide) (Nat.le_of_ble_eq_true rfl) g0 ?_))
        refine wb_if_eq dX4_nextBegin_55 rfl (fun c55 => absurd c55 (by decide)) (fun c55 => ?_)
        exact wp_iload dX4_nextBegin_58 rfl (wp_ireturn dX4_nextBegin_60 rfl rfl ⟨rfl, rfl⟩)
      | false =>
        rw [ef, if_neg (by decide)] at k2
        refine xcall_intro (ls := [.ref 74, .int (nI m), .int (nI s), .int (nI h), .int (nI k), .float 0]) q_X4_nextBegin (by decide) rfl (Nat.le_of_ble_eq_true rfl) rfl ?_
        refine wp_aload_n dX4_nextBegin_0 rfl rfl (gv4_94 dX4_nextBegin_1 (xsh hX sh_74) k5 (wp_iconst (v := nI 1) dX4_nextBegin_4 rfl ?_))
        refine wn_icmp_ne dX4_nextBegin_5 rfl (by omega) (by omega) (fun c5 => ?_) (fun c5 => absurd c5 (by omega))
        refine wp_aload_n dX4_nextBegin_29 rfl rfl (gv4_94 dX4_nextBegin_30 (xsh hX sh_74) k5 (wp_iconst (v := nI 2) dX4_nextBegin_33 rfl ?_))
        refine wn_icmp_ne dX4_nextBegin_34 rfl (by omega) (by omega) (fun c34 => absurd c34 (by omega)) (fun c34 => ?_)
        refine wp_iconst (v := nI 0) dX4_nextBegin_37 rfl (wp_istore dX4_nextBegin_38 ⟨Nat.le_of_ble_eq_true rfl, Or.inr rfl⟩ rfl ?_)
        refine wp_iload dX4_nextBegin_40 rfl (wp_aload_n dX4_nextBegin_42 rfl rfl (gv4_50 dX4_nextBegin_43 (xsh hX sh_74) k2 ?_))
        refine wn_icmp_ge dX4_nextBegin_46 rfl (by omega) (by omega) (fun c46 => absurd c46 (by omega)) (fun c46 => ?_)
        refine wp_iload_n dX4_nextBegin_49 rfl (wp_iload dX4_nextBegin_50 rfl (wp_is2 dX4_nextBegin_52 k4_143 q_X4_isIn (by decide) (Nat.le_of_ble_eq_true rfl) g0 ?_))
        refine wb_if_eq dX4_nextBegin_55 rfl (fun c55 => absurd c55 (by decide)) (fun c55 => ?_)
        exact wp_iload dX4_nextBegin_58 rfl (wp_ireturn dX4_nextBegin_60 rfl rfl ⟨rfl, rfl⟩)
    | false =>
      rw [e0] at g0
      cases ef : xgf g with
      | true =>
        rw [ef, if_pos rfl] at k2
        cases e1 : m.testBit 1 with
        | true =>
          rw [e1] at g1
          rw [show xnb1 g m s h k = 1 by unfold xnb1; rw [if_neg n1, if_pos n2, if_neg (by rw [e0]; decide), if_pos ⟨ef, e1⟩]]
          refine xcall_intro (ls := [.ref 74, .int (nI m), .int (nI s), .int (nI h), .int (nI k), .float 0]) q_X4_nextBegin (by decide) rfl (Nat.le_of_ble_eq_true rfl) rfl ?_
          refine wp_aload_n dX4_nextBegin_0 rfl rfl (gv4_94 dX4_nextBegin_1 (xsh hX sh_74) k5 (wp_iconst (v := nI 1) dX4_nextBegin_4 rfl ?_))
          refine wn_icmp_ne dX4_nextBegin_5 rfl (by omega) (by omega) (fun c5 => ?_) (fun c5 => absurd c5 (by omega))
          refine wp_aload_n dX4_nextBegin_29 rfl rfl (gv4_94 dX4_nextBegin_30 (xsh hX sh_74) k5 (wp_iconst (v := nI 2) dX4_nextBegin_33 rfl ?_))
          refine wn_icmp_ne dX4_nextBegin_34 rfl (by omega) (by omega) (fun c34 => absurd c34 (by omega)) (fun c34 => ?_)
          refine wp_iconst (v := nI 0) dX4_nextBegin_37 rfl (wp_istore dX4_nextBegin_38 ⟨Nat.le_of_ble_eq_true rfl, Or.inr rfl⟩ rfl ?_)
          refine wp_iload dX4_nextBegin_40 rfl (wp_aload_n dX4_nextBegin_42 rfl rfl (gv4_50 dX4_nextBegin_43 (xsh hX sh_74) k2 ?_))
          refine wn_icmp_ge dX4_nextBegin_46 rfl (by omega) (by omega) (fun c46 => absurd c46 (by omega)) (fun c46 => ?_)
          refine wp_iload_n dX4_nextBegin_49 rfl (wp_iload dX4_nextBegin_50 rfl (wp_is2 dX4_nextBegin_52 k4_143 q_X4_isIn (by decide) (Nat.le_of_ble_eq_true rfl) g0 ?_))
          refine wb_if_eq dX4_nextBegin_55 rfl (fun c55 => ?_) (fun c55 => absurd c55 (by decide))
          refine wp_iinc dX4_nextBegin_61 rfl (nI_1 _) ⟨Nat.le_of_ble_eq_true rfl, Or.inr rfl⟩ rfl (wp_goto dX4_nextBegin_64 rfl ?_)
          refine wp_iload dX4_nextBegin_40 rfl (wp_aload_n dX4_nextBegin_42 rfl rfl (gv4_50 dX4_nextBegin_43 (xsh hX sh_74) k2 ?_))
          refine wn_icmp_ge dX4_nextBegin_46 rfl (by omega) (by omega) (fun c46 => absurd c46 (by omega)) (fun c46 => ?_)
          refine wp_iload_n dX4_nextBegin_49 rfl (wp_iload dX4_nextBegin_50 rfl (wp_is2 dX4_nextBegin_52 k4_143 q_X4_isIn (by decide) (Nat.le_of_ble_eq_true rfl) g1 ?_))
          refine wb_if_eq dX4_nextBegin_55 rfl (fun c55 => absurd c55 (by decide)) (fun c55 => ?_)
          exact wp_iload dX4_nextBegin_58 rfl (wp_ireturn dX4_nextBegin_60 rfl rfl ⟨rfl, rfl⟩)
        | false =>
          rw [e1] at g1
          rw [show xnb1 g m s h k = xni g m h k by unfold xnb1; rw [if_neg n1, if_pos n2, if_neg (by rw [e0]; decide), if_neg (fun w => by rw [e1] at w; exact absurd w.2 (by decide))]]
          refine xcall_intro (ls := [.ref 74, .int (nI m), .int (nI s), .int (nI h), .int (nI k), .float 0]) q_X4_nextBegin (by decide) rfl (Nat.le_of_ble_eq_true rfl) rfl ?_
          refine wp_aload_n dX4_nextBegin_0 rfl rfl (gv4_94 dX4_nextBegin_1 (xsh hX sh_74) k5 (wp_iconst (v := nI 1) dX4_nextBegin_4 rfl ?_))
          refine wn_icmp_ne dX4_nextBegin_5 rfl (by omega) (by omega) (fun c5 => ?_) (fun c5 => absurd c5 (by omega))
          refine wp_aload_n dX4_nextBegin_29 rfl rfl (gv4_94 dX4_nextBegin_30 (xsh hX sh_74) k5 (wp_iconst (v := nI 2) dX4_nextBegin_33 rfl ?_))
          refine wn_icmp_ne dX4_nextBegin_34 rfl (by omega) (by omega) (fun c34 => absurd c34 (by omega)) (fun c34 => ?_)
          refine wp_iconst (v := nI 0) dX4_nextBegin_37 rfl (wp_istore dX4_nextBegin_38 ⟨Nat.le_of_ble_eq_true rfl, Or.inr rfl⟩ rfl ?_)
          refine wp_iload dX4_nextBegin_40 rfl (wp_aload_n dX4_nextBegin_42 rfl rfl (gv4_50 dX4_nextBegin_43 (xsh hX sh_74) k2 ?_))
          refine wn_icmp_ge dX4_nextBegin_46 rfl (by omega) (by omega) (fun c46 => absurd c46 (by omega)) (fun c46 => ?_)
          refine wp_iload_n dX4_nextBegin_49 rfl (wp_iload dX4_nextBegin_50 rfl (wp_is2 dX4_nextBegin_52 k4_143 q_X4_isIn (by decide) (Nat.le_of_ble_eq_true rfl) g0 ?_))
          refine wb_if_eq dX4_nextBegin_55 rfl (fun c55 => ?_) (fun c55 => absurd c55 (by decide))
          refine wp_iinc dX4_nextBegin_61 rfl (nI_1 _) ⟨Nat.le_of_ble_eq_true rfl, Or.inr rfl⟩ rfl (wp_goto dX4_nextBegin_64 rfl ?_)
          refine wp_iload dX4_nextBegin_40 rfl (wp_aload_n dX4_nextBegin_42 rfl rfl (gv4_50 dX4_nextBegin_43 (xsh hX sh_74) k2 ?_))
          refine wn_icmp_ge dX4_nextBegin_46 rfl (by omega) (by omega) (fun c46 => absurd c46 (by omega)) (fun c46 => ?_)
          refine wp_iload_n dX4_nextBegin_49 rfl (wp_iload dX4_nextBegin_50 rfl (wp_is2 dX4_nextBegin_52 k4_143 q_X4_isIn (by decide) (Nat.le_of_ble_eq_true rfl) g1 ?_))
          refine wb_if_eq dX4_nextBegin_55 rfl (fun c55 => ?_) (fun c55 => absurd c55 (by decide))
          refine wp_iinc dX4_nextBegin_61 rfl (nI_1 _) ⟨Nat.le_of_ble_eq_true rfl, Or.inr rfl⟩ rfl (wp_goto dX4_nextBegin_64 rfl ?_)
          refine wp_iload dX4_nextBegin_40 rfl (wp_aload_n dX4_nextBegin_42 rfl rfl (gv4_50 dX4_nextBegin_43 (xsh hX sh_74) k2 ?_))
          refine wn_icmp_ge dX4_nextBegin_46 rfl (by omega) (by omega) (fun c46 => ?_) (fun c46 => absurd c46 (by omega))
          exact wp_aload_n dX4_nextBegin_67 rfl rfl (wp_iload_n dX4_nextBegin_68 rfl (wp_iload_n dX4_nextBegin_69 rfl (wp_iload dX4_nextBegin_70 rfl (wp_iv4 dX4_nextBegin_72 k4_147 q_X4_nextIn (by decide) (xsh hX sh_74) (by decide) (Nat.le_of_ble_eq_true rfl) gh (wp_ireturn dX4_nextBegin_75 rfl rfl ⟨rfl, rfl⟩)))))
      | false =>
        rw [ef, if_neg (by decide)] at k2
        rw [show xnb1 g m s h k = xni g m h k by unfold xnb1; rw [if_neg n1, if_pos n2, if_neg (by rw [e0]; decide), if_neg (fun w => by rw [ef] at w; exact absurd w.1 (by decide))]]
        refine xcall_intro (ls := [.ref 74, .int (nI m), .int (nI s), .int (nI h), .int (nI k), .float 0]) q_X4_nextBegin (by decide) rfl (Nat.le_of_ble_eq_true rfl) rfl ?_
        refine wp_aload_n dX4_nextBegin_0 rfl rfl (gv4_94 dX4_nextBegin_1 (xsh hX sh_74) k5 (wp_iconst (v := nI 1) dX4_nextBegin_4 rfl ?_))
        refine wn_icmp_ne dX4_nextBegin_5 rfl (by omega) (by omega) (fun c5 => ?_) (fun c5 => absurd c5 (by omega))
        refine wp_aload_n dX4_nextBegin_29 rfl rfl (gv4_94 dX4_nextBegin_30 (xsh hX sh_74) k5 (wp_iconst (v := nI 2) dX4_nextBegin_33 rfl ?_))
        refine wn_icmp_ne dX4_nextBegin_34 rfl (by omega) (by omega) (fun c34 => absurd c34 (by omega)) (fun c34 => ?_)
        refine wp_iconst (v := nI 0) dX4_nextBegin_37 rfl (wp_istore dX4_nextBegin_38 ⟨Nat.le_of_ble_eq_true rfl, Or.inr rfl⟩ rfl ?_)
        refine wp_iload dX4_nextBegin_40 rfl (wp_aload_n dX4_nextBegin_42 rfl rfl (gv4_50 dX4_nextBegin_43 (xsh hX sh_74) k2 ?_))
        refine wn_icmp_ge dX4_nextBegin_46 rfl (by omega) (by omega) (fun c46 => absurd c46 (by omega)) (fun c46 => ?_)
        refine wp_iload_n dX4_nextBegin_49 rfl (wp_iload dX4_nextBegin_50 rfl (wp_is2 dX4_nextBegin_52 k4_143 q_X4_isIn (by decide) (Nat.le_of_ble_eq_true rfl) g0 ?_))
        refine wb_if_eq dX4_nextBegin_55 rfl (fun c55 => ?_) (fun c55 => absurd c55 (by decide))
        refine wp_iinc dX4_nextBegin_61 rfl (nI_1 _) ⟨Nat.le_of_ble_eq_true rfl, Or.inr rfl⟩ rfl (wp_goto dX4_nextBegin_64 rfl ?_)
        refine wp_iload dX4_nextBegin_40 rfl (wp_aload_n dX4_nextBegin_42 rfl rfl (gv4_50 dX4_nextBegin_43 (xsh hX sh_74) k2 ?_))
        refine wn_icmp_ge dX4_nextBegin_46 rfl (by omega) (by omega) (fun c46 => ?_) (fun c46 => absurd c46 (by omega))
        exact wp_aload_n dX4_nextBegin_67 rfl rfl (wp_iload_n dX4_nextBegin_68 rfl (wp_iload_n dX4_nextBegin_69 rfl (wp_iload dX4_nextBegin_70 rfl (wp_iv4 dX4_nextBegin_72 k4_147 q_X4_nextIn (by decide) (xsh hX sh_74) (by decide) (Nat.le_of_ble_eq_true rfl) gh (wp_ireturn dX4_nextBegin_75 rfl rfl ⟨rfl, rfl⟩)))))
  · rw [show xnb1 g m s h k = xni g m h k by unfold xnb1; rw [if_neg n1, if_neg n2]]
    refine xcall_intro (ls := [.ref 74, .int (nI m), .int (nI s), .int (nI h), .int (nI k), .float 0]) q_X4_nextBegin (by decide) rfl (Nat.le_of_ble_eq_true rfl) rfl ?_
    refine wp_aload_n dX4_nextBegin_0 rfl rfl (gv4_94 dX4_nextBegin_1 (xsh hX sh_74) k5 (wp_iconst (v := nI 1) dX4_nextBegin_4 rfl ?_))
    refine wn_icmp_ne dX4_nextBegin_5 rfl (by omega) (by omega) (fun c5 => ?_) (fun c5 => absurd c5 (by omega))
    refine wp_aload_n dX4_nextBegin_29 rfl rfl (gv4_94 dX4_nextBegin_30 (xsh hX sh_74) k5 (wp_iconst (v := nI 2) dX4_nextBegin_33 rfl ?_))
    refine wn_icmp_ne dX4_nextBegin_34 rfl (by omega) (by omega) (fun c34 => ?_) (fun c34 => absurd c34 (by omega))
    exact wp_aload_n dX4_nextBegin_67 rfl rfl (wp_iload_n dX4_nextBegin_68 rfl (wp_iload_n dX4_nextBegin_69 rfl (wp_iload dX4_nextBegin_70 rfl (wp_iv4 dX4_nextBegin_72 k4_147 q_X4_nextIn (by decide) (xsh hX sh_74) (by decide) (Nat.le_of_ble_eq_true rfl) gh (wp_ireturn dX4_nextBegin_75 rfl rfl ⟨rfl, rfl⟩)))))
