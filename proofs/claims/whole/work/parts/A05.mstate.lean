/-! a GAME of the reference: its states; walkState, finishState -/
def xsT (m s : Nat) (b : Bool) (r : Nat) : Nat := ((m * 8 + s) * 2 + (if b = true then 1 else 0)) * 4 + r
theorem xsT_d {m s r : Nat} {b : Bool} (hs : s < 8) (hr : r < 4) : xsT m s b r / 64 = m ∧ xsT m s b r / 8 % 8 = s ∧ (xsT m s b r / 4 % 2 = 0 ↔ b = false) ∧ xsT m s b r % 4 = r := by
  unfold xsT
  cases b with
  | false => rw [if_neg (by decide)]; refine ⟨by omega, by omega, ⟨fun _ => rfl, fun _ => by omega⟩, by omega⟩
  | true => rw [if_pos rfl]; refine ⟨by omega, by omega, ⟨fun h => by omega, fun h => by cases h⟩, by omega⟩
theorem xsT_lt {m s r : Nat} {b : Bool} (hm : m < 256) (hs : s < 8) (hr : r < 4) : xsT m s b r < 16384 := by
  unfold xsT
  split <;> omega
/-- the number of a state in the reference -/
def xqt (c : xPx) (m s k : Nat) : Nat := xsT m s (xbk (xzg c) k) (k % c.1.2.length)
def xn1 (c : xPx) (ex m s k a : Nat) : Nat := m ^^^ 2 ^ xzh c ex m s k a
def xn2 (c : xPx) (ex m s k a : Nat) : Nat := xnb1 (xzg c) (xn1 c ex m s k a) s (xzh c ex m s k a) (k + 1)
/-- who is LEFT, if that ends it -/
def xen (c : xPx) (ex m s k a : Nat) : Option Nat := if xgs (xzg c) = true then some (2 ^ xow (xgf (xzg c)) (xzh c ex m s k a)) else if xovr (xzg c) (xn1 c ex m s k a) = true then some (xpm (xzg c) (xn1 c ex m s k a)) else none
/-- a state to which one comes -/
def xgd (c : xPx) (m s k : Nat) : Prop := m < 2 ^ xgH (xzg c) ∧ 0 < m ∧ s < xgH (xzg c) ∧ xcb m (xgH (xzg c)) + k = xgH (xzg c)
theorem xgd.nx {c : xPx} {ex m s k a : Nat} (ho : xzo c) (h : xgd c m s k) (he : xen c ex m s k a = none) : xgd c (xn1 c ex m s k a) (xn2 c ex m s k a) (k + 1) := by
  obtain ⟨hm, h0, hs, hc⟩ := h
  obtain ⟨x, hx, hb⟩ := xtb_ex hm h0
  have hr1 := xzR_pos (k := k) hx hb hs
  have hh : xzh c ex m s k a < xgH (xzg c) := xzh_lt ex m k a hs
  have hbit : m.testBit (xzh c ex m s k a) = true := xha_tb hs hr1
  unfold xen at he
  cases hst : xgs (xzg c) with
  | true => rw [hst, if_pos rfl] at he; cases he
  | false =>
    rw [hst, if_neg (by decide)] at he
    cases hov2 : xovr (xzg c) (xn1 c ex m s k a) with
    | true => rw [hov2, if_pos rfl] at he; cases he
    | false =>
      have hcb := xcb_rm hbit (xgH (xzg c)) hh
      refine ⟨xrm_lt hm hh, ?_, xnb1_lt ho.g hs hh, ?_⟩
      · rcases Nat.eq_zero_or_pos (xn1 c ex m s k a) with z | z
        · rw [z, xovr_0 hst] at hov2
          cases hov2
        · exact z
      · show xcb (m ^^^ 2 ^ xzh c ex m s k a) (xgH (xzg c)) + (k + 1) = xgH (xzg c)
        omega
theorem xgd.k {c : xPx} {m s k : Nat} (h : xgd c m s k) : k + 1 ≤ xgH (xzg c) := by
  have := xcb_ge h.1 h.2.1
  have := h.2.2.2
  omega
theorem xgd.b {c : xPx} {m s k : Nat} (ho : xzo c) (h8 : xgH (xzg c) ≤ 8) (h : xgd c m s k) : m < 256 ∧ s < 8 ∧ k % c.1.2.length < 4 ∧ xqt c m s k < 16384 ∧ 64 ≤ xqt c m s k := by
  have h1 := ho.1.2.2.1
  have h4 := ho.1.2.2.2.1
  have hmod : k % c.1.2.length < c.1.2.length := Nat.mod_lt k (by omega)
  have hm : m < 256 := Nat.lt_of_lt_of_le h.1 (Nat.pow_le_pow_right (by decide) h8)
  have hs : s < 8 := Nat.lt_of_lt_of_le h.2.2.1 h8
  have h0 := h.2.1
  refine ⟨hm, hs, by omega, xsT_lt hm hs (by omega), ?_⟩
  have := (xsT_d (m := m) (b := xbk (xzg c) k) hs (show k % c.1.2.length < 4 by omega)).1
  unfold xqt
  omega
theorem xqt_inj {c : xPx} {m s k m' s' k' : Nat} (ho : xzo c) (h8 : xgH (xzg c) ≤ 8) (h : xgd c m s k) (h' : xgd c m' s' k') (e : xqt c m s k = xqt c m' s' k') : m = m' ∧ s = s' ∧ k = k' := by
  obtain ⟨q1, q2, q3, q4, _⟩ := h.b ho h8
  obtain ⟨p1, p2, p3, p4, _⟩ := h'.b ho h8
  have a1 := xsT_d (m := m) (b := xbk (xzg c) k) q2 q3
  have a2 := xsT_d (m := m') (b := xbk (xzg c) k') p2 p3
  unfold xqt at e
  rw [e] at a1
  have em : m = m' := a1.1.symm.trans a2.1
  have es : s = s' := a1.2.1.symm.trans a2.2.1
  subst em
  have h1 := h.2.2.2
  have h2 := h'.2.2.2
  exact ⟨rfl, es, by omega⟩
/-- walked, and not yet finished -/
def xWk (S : xS) (c : xPx) (ex m s k : Nat) : Prop := XC S ∧ xMpd S c ex ∧ xMr S (xzR c m s k) ∧ S.2.1 187 62 = nI (xzT c ex m s k)
theorem xWk.fr {S S' : xS} {c : xPx} {ex m s k : Nat} {P : Nat → Nat → Prop} (h : xWk S c ex m s k) (ho : xzo c) (hf : xFl P S S') (hn : ∀ i q, ((i = 187 ∧ (q = 30 ∨ q = 31 ∨ (58 ≤ q ∧ q ≤ 62))) ∨ i = 195 ∨ (197 ≤ i ∧ i ≤ 203) ∨ i = 208 ∨ (212 ≤ i ∧ i ≤ 218)) → ¬ P i q) : xWk S' c ex m s k := ⟨hf.XC h.1, h.2.1.fr ho hf (fun i q w => hn _ _ (by omega)), h.2.2.1.fr hf (fun i q w => hn _ _ (by omega)), hf.i h.2.2.2 (hn _ _ (by omega))⟩
theorem m_stateOf {m s r : Nat} {b : Bool} (d : Nat) {S : xS} : xcall false d j_X12_stateOf [.int (nI m), .int (nI s), .int (xwy b), .int (nI r)] S (some (.int (nI (xsT m s b r)))) S := by
  cases b with
  | false =>
    show xcall _ _ _ [.int (nI m), .int (nI s), .int (nI 1), .int (nI r)] _ (some (.int (nI (((m * 8 + s) * 2 + 0) * 4 + r)))) _
    refine xcall_intro (ls := [.int (nI m), .int (nI s), .int (nI 1), .int (nI r)]) q_X12_stateOf (by decide) rfl (Nat.le_of_ble_eq_true rfl) rfl ?_
    refine wp_iload_n dX12_stateOf_0 rfl (wp_bipush (v := nI 8) dX12_stateOf_1 rfl (wv_imul dX12_stateOf_3 (pk_mul _ _) (wp_iload_n dX12_stateOf_4 rfl (wv_iadd dX12_stateOf_5 (nI_add _ _) (wp_iconst (v := nI 2) dX12_stateOf_6 rfl (wv_imul dX12_stateOf_7 (pk_mul _ _) (wp_iload_n dX12_stateOf_8 rfl (wp_iconst (v := nI 1) dX12_stateOf_9 rfl ?_))))))))
    refine wn_icmp_ne dX12_stateOf_10 rfl (by omega) (by omega) (fun c10 => absurd c10 (by omega)) (fun c10 => ?_)
    exact wp_iconst (v := nI 0) dX12_stateOf_13 rfl (wp_goto dX12_stateOf_14 rfl (wv_iadd dX12_stateOf_18 (nI_add _ _) (wp_iconst (v := nI 4) dX12_stateOf_19 rfl (wv_imul dX12_stateOf_20 (pk_mul _ _) (wp_iload_n dX12_stateOf_21 rfl (wv_iadd dX12_stateOf_22 (nI_add _ _) (wp_ireturn dX12_stateOf_23 rfl rfl ⟨rfl, rfl⟩)))))))
  | true =>
    show xcall _ _ _ [.int (nI m), .int (nI s), .int (-1), .int (nI r)] _ (some (.int (nI (((m * 8 + s) * 2 + 1) * 4 + r)))) _
    refine xcall_intro (ls := [.int (nI m), .int (nI s), .int (-1), .int (nI r)]) q_X12_stateOf (by decide) rfl (Nat.le_of_ble_eq_true rfl) rfl ?_
    refine wp_iload_n dX12_stateOf_0 rfl (wp_bipush (v := nI 8) dX12_stateOf_1 rfl (wv_imul dX12_stateOf_3 (pk_mul _ _) (wp_iload_n dX12_stateOf_4 rfl (wv_iadd dX12_stateOf_5 (nI_add _ _) (wp_iconst (v := nI 2) dX12_stateOf_6 rfl (wv_imul dX12_stateOf_7 (pk_mul _ _) (wp_iload_n dX12_stateOf_8 rfl (wp_iconst (v := nI 1) dX12_stateOf_9 rfl ?_))))))))
    refine wp_icmp_ne dX12_stateOf_10 rfl (fun c10 => ?_) (fun c10 => absurd c10 (by decide))
    exact wp_iconst (v := nI 1) dX12_stateOf_17 rfl (wv_iadd dX12_stateOf_18 (nI_add _ _) (wp_iconst (v := nI 4) dX12_stateOf_19 rfl (wv_imul dX12_stateOf_20 (pk_mul _ _) (wp_iload_n dX12_stateOf_21 rfl (wv_iadd dX12_stateOf_22 (nI_add _ _) (wp_ireturn dX12_stateOf_23 rfl rfl ⟨rfl, rfl⟩))))))
theorem m_maskOf {x : Nat} (d : Nat) (hx : x < 16384) {S : xS} : xcall false d j_X12_maskOf [.int (nI x)] S (some (.int (nI (x / 64)))) S := by
  refine xcall_intro (ls := [.int (nI x)]) q_X12_maskOf (by decide) rfl (Nat.le_of_ble_eq_true rfl) rfl ?_
  exact wp_iload_n dX12_maskOf_0 rfl (wp_bipush (v := nI 64) dX12_maskOf_1 rfl (wv_idiv dX12_maskOf_3 (nI_n0 (by decide) (by decide)) (pk_div (by omega) (by decide) (by decide)) (wp_ireturn dX12_maskOf_4 rfl rfl ⟨rfl, rfl⟩)))
theorem m_startOf {x : Nat} (d : Nat) (hx : x < 16384) {S : xS} : xcall false d j_X12_startOf [.int (nI x)] S (some (.int (nI (x / 8 % 8)))) S := by
  refine xcall_intro (ls := [.int (nI x)]) q_X12_startOf (by decide) rfl (Nat.le_of_ble_eq_true rfl) rfl ?_
  exact wp_iload_n dX12_startOf_0 rfl (wp_bipush (v := nI 8) dX12_startOf_1 rfl (wv_idiv dX12_startOf_3 (nI_n0 (by decide) (by decide)) (pk_div (by omega) (by decide) (by decide)) (wp_bipush (v := nI 8) dX12_startOf_4 rfl (wv_irem dX12_startOf_6 (nI_n0 (by decide) (by decide)) (pk_rem (by omega) (by decide) (by decide)) (wp_ireturn dX12_startOf_7 rfl rfl ⟨rfl, rfl⟩)))))
theorem m_wayOf {x : Nat} {b : Bool} (d : Nat) (hx : x < 16384) (hb : x / 4 % 2 = 0 ↔ b = false) {S : xS} : xcall false d j_X12_wayOf [.int (nI x)] S (some (.int (xwy b))) S := by
  cases b with
  | false =>
    have h0 := hb.mpr rfl
    show xcall _ _ _ _ _ (some (.int (nI 1))) _
    refine xcall_intro (ls := [.int (nI x)]) q_X12_wayOf (by decide) rfl (Nat.le_of_ble_eq_true rfl) rfl ?_
    refine wp_iload_n dX12_wayOf_0 rfl (wp_iconst (v := nI 4) dX12_wayOf_1 rfl (wv_idiv dX12_wayOf_2 (nI_n0 (by decide) (by decide)) (pk_div (by omega) (by decide) (by decide)) (wp_iconst (v := nI 2) dX12_wayOf_3 rfl (wv_irem dX12_wayOf_4 (nI_n0 (by decide) (by decide)) (pk_rem (by omega) (by decide) (by decide)) ?_))))
    refine wn_if_ne dX12_wayOf_5 rfl (by omega) (fun c5 => absurd c5 (by omega)) (fun c5 => ?_)
    exact wp_iconst (v := nI 1) dX12_wayOf_8 rfl (wp_goto dX12_wayOf_9 rfl (wp_ireturn dX12_wayOf_13 rfl rfl ⟨rfl, rfl⟩))
  | true =>
    have h0 : ¬ x / 4 % 2 = 0 := fun q => by have := hb.mp q; cases this
    show xcall _ _ _ _ _ (some (.int (-1))) _
    refine xcall_intro (ls := [.int (nI x)]) q_X12_wayOf (by decide) rfl (Nat.le_of_ble_eq_true rfl) rfl ?_
    refine wp_iload_n dX12_wayOf_0 rfl (wp_iconst (v := nI 4) dX12_wayOf_1 rfl (wv_idiv dX12_wayOf_2 (nI_n0 (by decide) (by decide)) (pk_div (by omega) (by decide) (by decide)) (wp_iconst (v := nI 2) dX12_wayOf_3 rfl (wv_irem dX12_wayOf_4 (nI_n0 (by decide) (by decide)) (pk_rem (by omega) (by decide) (by decide)) ?_))))
    refine wn_if_ne dX12_wayOf_5 rfl (by omega) (fun c5 => ?_) (fun c5 => absurd c5 (by omega))
    exact wp_iconst (v := -1) dX12_wayOf_12 rfl (wp_ireturn dX12_wayOf_13 rfl rfl ⟨rfl, rfl⟩)
theorem m_begin {c : xPx} (d : Nat) (ho : xzo c) {S : xS} (hX : XC S) (kH : S.2.1 187 60 = nI (xgH (xzg c))) : xcall false (d + 1) j_X12_begin [.ref 187] S (some (.int (nI (xqt c (2 ^ xgH (xzg c) - 1) 0 0)))) S := by
  have g24 := ho.g.H
  have hpos := Nat.two_pow_pos (xgH (xzg c))
  have gs := m_stateOf (m := 2 ^ xgH (xzg c) - 1) (s := 0) (r := 0) (b := false) (d + 0) (S := S)
  have es : xqt c (2 ^ xgH (xzg c) - 1) 0 0 = xsT (2 ^ xgH (xzg c) - 1) 0 false 0 := by
    unfold xqt xbk
    rw [decide_eq_false (by decide), Bool.and_false, Nat.zero_mod]
  rw [es]
  refine xcall_intro (ls := [.ref 187]) q_X12_begin (by decide) rfl (Nat.le_of_ble_eq_true rfl) rfl ?_
  exact wp_iconst (v := nI 1) dX12_begin_0 rfl (wp_aload_n dX12_begin_1 rfl rfl (gv11_391 dX12_begin_2 (xsh hX sh_187) kH (wv_ishl dX12_begin_5 (xshl1 (by omega)) (wp_iconst (v := nI 1) dX12_begin_6 rfl (wv_isub dX12_begin_7 (pk_sub (by omega)) (wp_iconst (v := nI 0) dX12_begin_8 rfl (wp_iconst (v := nI 1) dX12_begin_9 rfl (wp_iconst (v := nI 0) dX12_begin_10 rfl (wp_is4 dX12_begin_11 k11_481 q_X12_stateOf (by decide) (Nat.le_of_ble_eq_true rfl) gs (wp_ireturn dX12_begin_14 rfl rfl ⟨rfl, rfl⟩))))))))))
theorem m_walkState {c : xPx} {ex m s k : Nat} (d : Nat) (ho : xzo c) (ha : xzal c = true) (h8 : xgH (xzg c) ≤ 8) (hex : ex ≤ 1000) (hg : xgd c m s k) {S : xS} (hX : XC S) (hD : xMpd S c ex) : ∃ S', xcall false (d + 3) j_X12_walkState [.ref 187, .int (nI (xqt c m s k))] S (some (.int (xB (xzA c k)))) S' ∧ xFl (fun i q => (i = 187 ∧ (q = 61 ∨ q = 62 ∨ q = 63 ∨ q = 70)) ∨ i = 216) S S' ∧ xWk S' c ex m s k ∧ S'.2.1 187 70 = xB (xzA c k) ∧ S'.2.1 187 63 = nI (xzq c ex m s k) := by
  obtain ⟨q1, q2, q3, q4, q5⟩ := hg.b ho h8
  obtain ⟨hm, h0, hs, _⟩ := hg
  obtain ⟨e1, e2, e3, e4⟩ := xsT_d (m := m) (b := xbk (xzg c) k) q2 q3
  have l1 := ho.1.2.2.1
  have hmod : k % c.1.2.length < c.1.2.length := Nat.mod_lt k (by omega)
  obtain ⟨S', gw, f1, r1, k62, k70, k63⟩ := m_walk (d + 0) ho ha hex hm h0 hs hX hD (k := k)
  have u0 : S.2.1 212 (k % c.1.2.length) = nI (xzs c k) := hD.2.2.2.1 _ hmod
  have gm := m_maskOf (x := xqt c m s k) (d + 2) q4 (S := S)
  have gs := m_startOf (x := xqt c m s k) (d + 2) q4 (S := S)
  have gy := m_wayOf (x := xqt c m s k) (b := xbk (xzg c) k) (d + 2) q4 e3 (S := S)
  rw [show xqt c m s k / 64 = m from e1] at gm
  rw [show xqt c m s k / 8 % 8 = s from e2] at gs
  have er : nI (xqt c m s k) - nI (xqt c m s k) / nI 4 * nI 4 = nI (k % c.1.2.length) := by
    rw [pk_rem (by omega) (by decide) (by decide), show xqt c m s k % 4 = k % c.1.2.length from e4]
  have X1 := f1.XC hX
  refine ⟨S', ?_, f1, ⟨X1, hD.fr ho f1 (fun i q h => by omega), r1, k62⟩, k70, k63⟩
  refine xcall_intro (ls := [.ref 187, .int (nI (xqt c m s k))]) q_X12_walkState (by decide) rfl (Nat.le_of_ble_eq_true rfl) rfl ?_
  exact wp_aload_n dX12_walkState_0 rfl rfl (wp_aload_n dX12_walkState_1 rfl rfl (g11_330 dX12_walkState_2 (xsh hX sh_187) (xrr hX r187_51) (wp_iload_n dX12_walkState_5 rfl (wp_iconst (v := nI 4) dX12_walkState_6 rfl (wv_irem dX12_walkState_7 (nI_n0 (by decide) (by decide)) er (wn_iaload dX12_walkState_8 (xsh hX sh_212) rfl (by omega) (by decide) u0 (wp_iload_n dX12_walkState_9 rfl (wp_is1 dX12_walkState_10 k11_472 q_X12_maskOf (by decide) (Nat.le_of_ble_eq_true rfl) gm (wp_iload_n dX12_walkState_13 rfl (wp_is1 dX12_walkState_14 k11_475 q_X12_startOf (by decide) (Nat.le_of_ble_eq_true rfl) gs (wp_iload_n dX12_walkState_17 rfl (wp_is1 dX12_walkState_18 k11_478 q_X12_wayOf (by decide) (Nat.le_of_ble_eq_true rfl) gy (wp_iv5 dX12_walkState_21 k11_461 q_X12_walk (by decide) (xsh hX sh_187) (by decide) (Nat.le_of_ble_eq_true rfl) gw (wp_aload_n dX12_walkState_24 rfl rfl (gv11_411 dX12_walkState_25 (xsh X1 sh_187) k70 (wb_ret dX12_walkState_28 rfl rfl ⟨rfl, rfl⟩))))))))))))))))
theorem xFz.out {S' : xS} {c : xPx} {ex m s k a : Nat} (ho : xzo c) (hg : xgd c m s k) (h : xFz S' c (m ^^^ 2 ^ xzh c ex m s k a) s k (xzh c ex m s k a)) : ((∃ L, xen c ex m s k a = some L ∧ S'.2.1 187 65 = nI L ∧ L < 2 ^ xgP (xzg c)) ∨ (xen c ex m s k a = none ∧ S'.2.1 187 65 = -1 ∧ S'.2.1 187 66 = nI (xn1 c ex m s k a) ∧ S'.2.1 187 67 = nI (xn2 c ex m s k a) ∧ S'.2.1 187 68 = xwy (xbk (xzg c) (k + 1)) ∧ S'.2.1 187 69 = nI ((k + 1) % c.1.2.length) ∧ xgd c (xn1 c ex m s k a) (xn2 c ex m s k a) (k + 1))) := by
  obtain ⟨z64, zs, zn⟩ := h
  have hh : xzh c ex m s k a < xgH (xzg c) := xzh_lt ex m k a hg.2.2.1
  have hw := xow_lt hh
  have hm2 := xrm_lt hg.1 hh
  cases hst : xgs (xzg c) with
  | true =>
    refine Or.inl ⟨2 ^ xow (xgf (xzg c)) (xzh c ex m s k a), ?_, zs hst, Nat.pow_lt_pow_right (by decide) hw⟩
    unfold xen
    rw [hst, if_pos rfl]
  | false =>
    obtain ⟨z66, z68, z69, zo, zg⟩ := zn hst
    cases hov : xovr (xzg c) (xn1 c ex m s k a) with
    | true =>
      refine Or.inl ⟨xpm (xzg c) (xn1 c ex m s k a), ?_, zo hov, xpm_lt hm2⟩
      unfold xen
      rw [hst, if_neg (by decide), hov, if_pos rfl]
    | false =>
      have en : xen c ex m s k a = none := by
        unfold xen
        rw [hst, if_neg (by decide), hov, if_neg (by decide)]
      exact Or.inr ⟨en, (zg hov).1, z66, (zg hov).2, z68, z69, hg.nx ho en⟩
theorem m_finishState {c : xPx} {ex m s k a : Nat} {av : Int32} (d : Nat) (ho : xzo c) (ha : xzal c = true) (h8 : xgH (xzg c) ≤ 8) (hex : ex ≤ 1000) (hg : xgd c m s k) {S : xS} (hW : xWk S c ex m s k) (hav : (xzA c k = true ∧ av = nI a ∧ a < c.2.2.2.1.length) ∨ (xzA c k = false ∧ av = -1)) : ∃ S', xcall false (d + 3) j_X12_finishState [.ref 187, .int (nI (xqt c m s k)), .int av] S none S' ∧ xFl (fun i q => i = 187 ∧ 64 ≤ q ∧ q ≤ 69) S S' ∧ S'.2.1 187 64 = nI (xzh c ex m s k a) ∧ ((∃ L, xen c ex m s k a = some L ∧ S'.2.1 187 65 = nI L ∧ L < 2 ^ xgP (xzg c)) ∨ (xen c ex m s k a = none ∧ S'.2.1 187 65 = -1 ∧ S'.2.1 187 66 = nI (xn1 c ex m s k a) ∧ S'.2.1 187 67 = nI (xn2 c ex m s k a) ∧ S'.2.1 187 68 = xwy (xbk (xzg c) (k + 1)) ∧ S'.2.1 187 69 = nI ((k + 1) % c.1.2.length) ∧ xgd c (xn1 c ex m s k a) (xn2 c ex m s k a) (k + 1))) := by
  obtain ⟨q1, q2, q3, q4, q5⟩ := hg.b ho h8
  obtain ⟨e1, e2, e3, e4⟩ := xsT_d (m := m) (b := xbk (xzg c) k) q2 q3
  obtain ⟨hX, hD, hr, ks⟩ := hW
  have gm := m_maskOf (x := xqt c m s k) (d + 2) q4 (S := S)
  have gs := m_startOf (x := xqt c m s k) (d + 2) q4 (S := S)
  have gy := m_wayOf (x := xqt c m s k) (b := xbk (xzg c) k) (d + 2) q4 e3 (S := S)
  rw [show xqt c m s k / 64 = m from e1] at gm
  rw [show xqt c m s k / 8 % 8 = s from e2] at gs
  have er : nI (xqt c m s k) - nI (xqt c m s k) / nI 4 * nI 4 = nI (k % c.1.2.length) := by
    rw [pk_rem (by omega) (by decide) (by decide), show xqt c m s k % 4 = k % c.1.2.length from e4]
  have hac := ho.2.2.1
  rcases hav with ⟨h1, rfl, h2⟩ | ⟨h1, rfl⟩
  · have hza : xza c a ≤ 12 := (hac.2.2 _ (xmem_getD (d := []) h2)).2.1
    obtain ⟨S', gf, f1, z⟩ := m_finish (k := k) (more := xza c a) (d + 0) ho ha hg.1 hg.2.1 hg.2.2.1 hex (by omega) hX hD hr ks
    rw [show xmh c ex m s k (xza c a) = xzh c ex m s k a by unfold xzh; rw [h1, if_pos rfl]; rfl] at z
    refine ⟨S', ?_, f1, z.1, z.out ho hg⟩
    have v := hD.2.2.2.2.2.2.2.2.2.2 a h2
    refine xcall_intro (ls := [.ref 187, .int (nI (xqt c m s k)), .int (nI a)]) q_X12_finishState (by decide) rfl (Nat.le_of_ble_eq_true rfl) rfl ?_
    refine wp_aload_n dX12_finishState_0 rfl rfl (wp_iload_n dX12_finishState_1 rfl ?_)
    refine wn_if_ge dX12_finishState_2 rfl (by omega) ?_
    exact wp_aload_n dX12_finishState_9 rfl rfl (g11_186 dX12_finishState_10 (xsh hX sh_187) (xrr hX r187_29) (wp_iload_n dX12_finishState_13 rfl (wn_iaload dX12_finishState_14 (xsh hX sh_197) rfl (by omega) (by decide) v (wp_iload_n dX12_finishState_15 rfl (wp_is1 dX12_finishState_16 k11_472 q_X12_maskOf (by decide) (Nat.le_of_ble_eq_true rfl) gm (wp_iload_n dX12_finishState_19 rfl (wp_is1 dX12_finishState_20 k11_475 q_X12_startOf (by decide) (Nat.le_of_ble_eq_true rfl) gs (wp_iload_n dX12_finishState_23 rfl (wp_is1 dX12_finishState_24 k11_478 q_X12_wayOf (by decide) (Nat.le_of_ble_eq_true rfl) gy (wp_iload_n dX12_finishState_27 rfl (wp_iconst (v := nI 4) dX12_finishState_28 rfl (wv_irem dX12_finishState_29 (nI_n0 (by decide) (by decide)) er (wp_iv6 dX12_finishState_30 k11_465 q_X12_finish (by decide) (xsh hX sh_187) (by decide) (Nat.le_of_ble_eq_true rfl) gf (wp_return dX12_finishState_33 rfl ⟨rfl, rfl⟩))))))))))))))
  · obtain ⟨S', gf, f1, z⟩ := m_finish (k := k) (more := 0) (d + 0) ho ha hg.1 hg.2.1 hg.2.2.1 hex (by omega) hX hD hr ks
    rw [show xmh c ex m s k 0 = xzh c ex m s k a by unfold xzh; rw [h1, if_neg (by decide)]; rfl] at z
    refine ⟨S', ?_, f1, z.1, z.out ho hg⟩
    refine xcall_intro (ls := [.ref 187, .int (nI (xqt c m s k)), .int (-1)]) q_X12_finishState (by decide) rfl (Nat.le_of_ble_eq_true rfl) rfl ?_
    refine wp_aload_n dX12_finishState_0 rfl rfl (wp_iload_n dX12_finishState_1 rfl ?_)
    refine wp_if_ge dX12_finishState_2 rfl (fun c2 => absurd c2 (by decide)) (fun c2 => ?_)
    exact wp_iconst (v := nI 0) dX12_finishState_5 rfl (wp_goto dX12_finishState_6 rfl (wp_iload_n dX12_finishState_15 rfl (wp_is1 dX12_finishState_16 k11_472 q_X12_maskOf (by decide) (Nat.le_of_ble_eq_true rfl) gm (wp_iload_n dX12_finishState_19 rfl (wp_is1 dX12_finishState_20 k11_475 q_X12_startOf (by decide) (Nat.le_of_ble_eq_true rfl) gs (wp_iload_n dX12_finishState_23 rfl (wp_is1 dX12_finishState_24 k11_478 q_X12_wayOf (by decide) (Nat.le_of_ble_eq_true rfl) gy (wp_iload_n dX12_finishState_27 rfl (wp_iconst (v := nI 4) dX12_finishState_28 rfl (wv_irem dX12_finishState_29 (nI_n0 (by decide) (by decide)) er (wp_iv6 dX12_finishState_30 k11_465 q_X12_finish (by decide) (xsh hX sh_187) (by decide) (Nat.le_of_ble_eq_true rfl) gf (wp_return dX12_finishState_33 rfl ⟨rfl, rfl⟩))))))))))))
