/-! A RHYME's text: one item, and the reference reads it -/
/-- where the run of small letters ends -/
def xrs (t : Nat → Nat) : Nat → Nat → Nat
  | 0, p => p
  | j + 1, p => if xsm (t p) = true then xrs t j (p + 1) else p
theorem xrs_b (t : Nat → Nat) : ∀ j p, p ≤ xrs t j p ∧ xrs t j p ≤ p + j
  | 0, p => ⟨Nat.le_refl _, Nat.le_refl _⟩
  | j + 1, p => by
    unfold xrs
    split
    · have := xrs_b t j (p + 1)
      omega
    · omega
/-- the item that begins at p, and the place behind it -/
def xmi (t : Nat → Nat) (m tm p : Nat) : Except (Nat × Nat) (xIt × Nat) :=
  if m ≤ p then .error (1, p)
  else if xsm (t p) = true then (if 12 < xrs t (m - p) p - p then .error (2, p + 12) else if xrs t (m - p) p < m ∧ t (xrs t (m - p) p) = 33 then .ok ((1, p, xrs t (m - p) p - p), xrs t (m - p) p + 1) else .ok ((0, p, xrs t (m - p) p - p), xrs t (m - p) p))
  else if t p = 45 then .ok ((2, p, 1), p + 1)
  else if t p = 64 then .ok ((3, p, 1), p + 1)
  else if t p = 63 ∧ ¬ 1 < tm then .ok ((4, p, 1), p + 1)
  else .error (1, p)
theorem xra_45 {t : Nat → Nat} {m p tm st : Nat} {big : Bool} {D : List xLn} {I : List xIt} {o : xIt} (hp : p ≤ m) (h : p < m → xsm (t p) = false ∧ t p ≠ 33) : xra t m big (m - p) (4, D, tm, st, I, o) = xra t m big (m - p) (5, D, tm, st, I, o) := by
  rcases Nat.lt_or_ge p m with q | q
  · obtain ⟨h1, h2⟩ := h q
    obtain ⟨j, hj⟩ : ∃ j, m - p = j + 1 := ⟨m - p - 1, by omega⟩
    have hpj : m - (j + 1) = p := by omega
    rw [hj]
    unfold xra
    rw [hpj]
    have e : xst (t p) p 4 D tm st I o = xst (t p) p 5 D tm st I o := by
      unfold xst
      rw [if_neg (by decide), if_neg (by decide), if_neg (by decide), if_neg (by decide), if_pos rfl, if_neg (by rw [h1]; decide), if_neg h2, if_neg (by decide), if_neg (by decide), if_neg (by decide), if_neg (by decide), if_neg (by decide), if_pos rfl]
    rw [e]
  · rw [show m - p = 0 by omega]
    unfold xra
    cases big <;> simp
theorem xra_step {t : Nat → Nat} {m p s tm st : Nat} {big : Bool} {D : List xLn} {I : List xIt} {o : xIt} {z : xRz} (hp : p < m) (h : xst (t p) p s D tm st I o = .ok z) : xra t m big (m - p) (s, D, tm, st, I, o) = xra t m big (m - (p + 1)) z := by
  obtain ⟨j, hj⟩ : ∃ j, m - p = j + 1 := ⟨m - p - 1, by omega⟩
  have hpj : m - (j + 1) = p := by omega
  have hj2 : m - (p + 1) = j := by omega
  rw [hj, hj2, xra, hpj, h]
theorem xra_err {t : Nat → Nat} {m p s tm st e : Nat} {big : Bool} {D : List xLn} {I : List xIt} {o : xIt} (hp : p < m) (h : xst (t p) p s D tm st I o = .error e) : xra t m big (m - p) (s, D, tm, st, I, o) = .error (e, p) := by
  obtain ⟨j, hj⟩ : ∃ j, m - p = j + 1 := ⟨m - p - 1, by omega⟩
  have hpj : m - (j + 1) = p := by omega
  rw [hj, xra, hpj, h]
theorem xra_word {t : Nat → Nat} {m p0 tm st : Nat} {big : Bool} {D : List xLn} {I : List xIt} : ∀ (j p : Nat), m - p = j → p0 ≤ p → p ≤ m → p - p0 ≤ 12 → xra t m big (m - p) (4, D, tm, st, I, (0, p0, p - p0)) = (if 12 < xrs t (m - p) p - p0 then .error (2, p0 + 12) else if xrs t (m - p) p < m ∧ t (xrs t (m - p) p) = 33 then xra t m big (m - (xrs t (m - p) p + 1)) (5, D, tm, st, I, (1, p0, xrs t (m - p) p - p0)) else xra t m big (m - xrs t (m - p) p) (5, D, tm, st, I, (0, p0, xrs t (m - p) p - p0))) := by
  intro j
  induction j with
  | zero =>
    intro p hj h1 h2 h3
    have e : xrs t (m - p) p = p := by rw [hj]; rfl
    rw [e, if_neg (by omega), if_neg (by omega)]
    exact xra_45 h2 (fun q => absurd q (by omega))
  | succ j ih =>
    intro p hj h1 h2 h3
    have hlt : p < m := by omega
    cases hs : xsm (t p) with
    | false =>
      have e : xrs t (m - p) p = p := by rw [hj]; unfold xrs; rw [if_neg (by rw [hs]; decide)]
      rw [e, if_neg (by omega)]
      split
      · rename_i q
        refine xra_step hlt ?_
        unfold xst
        rw [if_neg (by decide), if_neg (by decide), if_neg (by decide), if_neg (by decide), if_pos rfl, if_neg (by rw [hs]; decide), if_pos q.2]
      · rename_i q
        exact xra_45 h2 (fun _ => ⟨hs, fun w => q ⟨hlt, w⟩⟩)
    | true =>
      have e : xrs t (m - p) p = xrs t (m - (p + 1)) (p + 1) := by
        rw [hj, show m - (p + 1) = j by omega]
        rw [xrs, if_pos hs]
      have hb := xrs_b t (m - (p + 1)) (p + 1)
      rw [e]
      rcases Nat.lt_or_ge (p - p0) 12 with q | q
      · have ih2 := ih (p + 1) (by omega) (by omega) (by omega) (by omega)
        rw [← ih2]
        refine xra_step hlt ?_
        unfold xst
        rw [if_neg (by decide), if_neg (by decide), if_neg (by decide), if_neg (by decide), if_pos rfl, if_pos hs, if_neg (by show ¬ 12 ≤ p - p0; omega)]
        show Except.ok (4, D, tm, st, I, (0, p0, p - p0 + 1)) = _
        rw [show p - p0 + 1 = p + 1 - p0 by omega]
      · rw [if_pos (by omega)]
        have e2 : p0 + 12 = p := by omega
        rw [e2]
        refine xra_err hlt ?_
        unfold xst
        rw [if_neg (by decide), if_neg (by decide), if_neg (by decide), if_neg (by decide), if_pos rfl, if_pos hs, if_pos (by show 12 ≤ p - p0; omega)]
theorem xra_item {t : Nat → Nat} {m p tm st : Nat} {big : Bool} {D : List xLn} {I : List xIt} {o : xIt} (hp : p ≤ m) : xra t m big (m - p) (3, D, tm, st, I, o) = (match xmi t m tm p with
    | .error e => .error e
    | .ok (o', p') => xra t m big (m - p') (if o'.1 = 4 then 6 else 5, D, tm, st, I, o')) := by
  rcases Nat.lt_or_ge p m with q | q
  · unfold xmi
    rw [if_neg (by omega)]
    have S3 : xst (t p) p 3 D tm st I o = xsti (t p) p tm st D I := by
      unfold xst
      rw [if_neg (by decide), if_neg (by decide), if_neg (by decide), if_pos rfl]
    cases hs : xsm (t p) with
    | true =>
      have hb := xsm_b hs
      have hk : xkd (t p) = some 0 := by unfold xkd; rw [if_neg (by omega), if_neg (by omega), if_neg (by omega), if_pos hs]
      have e : xst (t p) p 3 D tm st I o = .ok (4, D, tm, st, I, (0, p, 1)) := by rw [S3]; unfold xsti; rw [hk]; simp
      have e1 : xrs t (m - p) p = xrs t (m - (p + 1)) (p + 1) := by
        rw [show m - p = m - (p + 1) + 1 by omega]
        rw [xrs, if_pos hs]
      have hw := xra_word (t := t) (m := m) (p0 := p) (tm := tm) (st := st) (big := big) (D := D) (I := I) _ (p + 1) rfl (by omega) (by omega) (by omega)
      rw [show p + 1 - p = 1 by omega] at hw
      rw [xra_step q e, hw, ← e1, if_pos rfl]
      have hbr := xrs_b t (m - (p + 1)) (p + 1)
      split
      · rfl
      · split
        · show _ = xra t m big _ (if (1 : Nat) = 4 then 6 else 5, _)
          rfl
        · show _ = xra t m big _ (if (0 : Nat) = 4 then 6 else 5, _)
          rfl
    | false =>
      rw [if_neg (by decide)]
      rcases Decidable.em (t p = 45) with e45 | e45
      · rw [if_pos e45]
        have hk : xkd (t p) = some 2 := by unfold xkd; rw [if_pos e45]
        refine xra_step q ?_
        rw [S3]; unfold xsti; rw [hk]; simp
      · rw [if_neg e45]
        rcases Decidable.em (t p = 64) with e64 | e64
        · rw [if_pos e64]
          have hk : xkd (t p) = some 3 := by unfold xkd; rw [if_neg e45, if_pos e64]
          refine xra_step q ?_
          rw [S3]; unfold xsti; rw [hk]; simp
        · rw [if_neg e64]
          rcases Decidable.em (t p = 63) with e63 | e63
          · have hk : xkd (t p) = some 4 := by unfold xkd; rw [if_neg e45, if_neg e64, if_pos e63]
            rcases Decidable.em (1 < tm) with ht | ht
            · rw [if_neg (fun w => w.2 ht)]
              refine xra_err q ?_
              rw [S3]; unfold xsti; rw [hk]; simp [ht]
            · rw [if_pos ⟨e63, ht⟩]
              refine xra_step q ?_
              rw [S3]; unfold xsti; rw [hk]; simp [ht]
          · rw [if_neg (fun w => e63 w.1)]
            have hk : xkd (t p) = none := by unfold xkd; rw [if_neg e45, if_neg e64, if_neg e63, if_neg (by rw [hs]; decide)]
            refine xra_err q ?_
            rw [S3]; unfold xsti; rw [hk]
  · have hpm : p = m := by omega
    subst hpm
    unfold xmi
    rw [if_pos (Nat.le_refl _), Nat.sub_self]
    unfold xra
    rw [if_pos (Or.inr (by decide))]
theorem m_isBeyond {n p : Nat} {t : Nat → Nat} (d : Nat) {S : xS} (hX : XC S) (hT : xTxM S n t) (hp : S.2.1 187 4 = nI p) (hpm : p ≤ min n 240) : xcall false d j_X12_isBeyond [.ref 187] S (some (.int (xB (decide (240 < n ∧ 240 ≤ p))))) S := by
  have hs := hT.1
  have hle := hT.2.1
  refine xcall_intro (ls := [.ref 187]) q_X12_isBeyond (by decide) rfl (Nat.le_of_ble_eq_true rfl) rfl ?_
  refine wp_aload_n dX12_isBeyond_0 rfl rfl (gv11_18 dX12_isBeyond_1 (xsh hX sh_187) hs (wp_sipush (v := nI 240) dX12_isBeyond_4 rfl ?_))
  refine wn_icmp_le dX12_isBeyond_7 rfl (by omega) (by omega) (fun c7 => ?_) (fun c7 => ?_)
  · exact wp_iconst (v := nI 0) dX12_isBeyond_24 rfl (wb_ret dX12_isBeyond_25 rfl (xB_of_f (decide_eq_false (by omega))) ⟨rfl, rfl⟩)
  · refine wp_aload_n dX12_isBeyond_10 rfl rfl (gv11_21 dX12_isBeyond_11 (xsh hX sh_187) hp (wp_sipush (v := nI 240) dX12_isBeyond_14 rfl ?_))
    refine wn_icmp_lt dX12_isBeyond_17 rfl (by omega) (by omega) (fun c17 => ?_) (fun c17 => ?_)
    · exact wp_iconst (v := nI 0) dX12_isBeyond_24 rfl (wb_ret dX12_isBeyond_25 rfl (xB_of_f (decide_eq_false (by omega))) ⟨rfl, rfl⟩)
    · exact wp_iconst (v := nI 1) dX12_isBeyond_20 rfl (wp_goto dX12_isBeyond_21 rfl (wb_ret dX12_isBeyond_25 rfl (xB_of_t (decide_eq_true (by omega))) ⟨rfl, rfl⟩))
theorem m_bad {n p : Nat} {t : Nat → Nat} (d : Nat) {S : xS} (hX : XC S) (hT : xTxM S n t) (hp : S.2.1 187 4 = nI p) (hpm : p ≤ min n 240) : xcall false (d + 1) j_X12_bad [.ref 187] S (some (.int (xB false))) (xSI (xSI S 187 9 (nI 1)) 187 10 (nI p)) := by
  have gb := m_isBeyond d hX hT hp hpm
  have gw := m_wrong 1 p d hX
  cases hb : decide (240 < n ∧ 240 ≤ p) with
  | true =>
    have e : p = 240 := by have := of_decide_eq_true hb; omega
    rw [hb] at gb
    subst e
    refine xcall_intro (ls := [.ref 187]) q_X12_bad (by decide) rfl (Nat.le_of_ble_eq_true rfl) rfl ?_
    refine wp_aload_n dX12_bad_0 rfl rfl (wp_iconst (v := nI 1) dX12_bad_1 rfl (wp_aload_n dX12_bad_2 rfl rfl (wp_iv1 dX12_bad_3 k11_192 q_X12_isBeyond (by decide) (xsh hX sh_187) (by decide) (Nat.le_of_ble_eq_true rfl) gb ?_)))
    refine wb_if_eq dX12_bad_6 rfl (fun c6 => absurd c6 (by decide)) (fun c6 => ?_)
    exact wp_sipush (v := nI 240) dX12_bad_9 rfl (wp_goto dX12_bad_12 rfl (wp_iv3 dX12_bad_19 k11_57 q_X12_wrong (by decide) (xsh hX sh_187) (by decide) (Nat.le_of_ble_eq_true rfl) gw (wb_ret dX12_bad_22 rfl rfl ⟨rfl, rfl⟩)))
  | false =>
    rw [hb] at gb
    refine xcall_intro (ls := [.ref 187]) q_X12_bad (by decide) rfl (Nat.le_of_ble_eq_true rfl) rfl ?_
    refine wp_aload_n dX12_bad_0 rfl rfl (wp_iconst (v := nI 1) dX12_bad_1 rfl (wp_aload_n dX12_bad_2 rfl rfl (wp_iv1 dX12_bad_3 k11_192 q_X12_isBeyond (by decide) (xsh hX sh_187) (by decide) (Nat.le_of_ble_eq_true rfl) gb ?_)))
    refine wb_if_eq dX12_bad_6 rfl (fun c6 => ?_) (fun c6 => absurd c6 (by decide))
    exact wp_aload_n dX12_bad_15 rfl rfl (gv11_21 dX12_bad_16 (xsh hX sh_187) hp (wp_iv3 dX12_bad_19 k11_57 q_X12_wrong (by decide) (xsh hX sh_187) (by decide) (Nat.le_of_ble_eq_true rfl) gw (wb_ret dX12_bad_22 rfl rfl ⟨rfl, rfl⟩)))
theorem mi_loop {n p0 k d : Nat} {tb : Bool} {x2 : Int32} {t : Nat → Nat} {Q : Option Value → xS → Prop} : ∀ (j p : Nat) (S : xS), min n 240 - p = j → p0 ≤ p → p ≤ min n 240 → p - p0 ≤ 12 → XC S → xTxM S n t → S.2.1 187 4 = nI p → (12 < xrs t (min n 240 - p) p - p0 → ∀ S', xFl (fun i k => i = 187 ∧ k = 4) S S' → Q (some (.int (xB false))) (xSI (xSI S' 187 9 (nI 2)) 187 10 (nI (p0 + 12)))) → (xrs t (min n 240 - p) p - p0 ≤ 12 → ∀ S', xFl (fun i k => i = 187 ∧ k = 4) S S' → S'.2.1 187 4 = nI (xrs t (min n 240 - p) p) → Wp false (d + 2) 11 cX12_item (some .boolean) false 103 [.ref 187, .int (xB tb), .int x2, .int (nI k), .int (nI (xrs t (min n 240 - p) p - p0))] [] S' Q) → Wp false (d + 2) 11 cX12_item (some .boolean) false 53 [.ref 187, .int (xB tb), .int x2, .int (nI k), .int (nI (p - p0))] [] S Q := by
  intro j
  induction j with
  | zero =>
    intro p S hj h1 h2 h3 hX hT hp k1 k2
    have e : xrs t (min n 240 - p) p = p := by rw [hj]; rfl
    rw [e] at k1 k2
    have gb := m_isBeyond (d + 1) hX hT hp h2
    have rf : xFl (fun i k => i = 187 ∧ k = 4) S S := xFl.rf S
    have hle := hT.2.1
    cases hb : decide (240 < n ∧ 240 ≤ p) with
    | true =>
      rw [hb] at gb
      refine wp_aload_n dX12_item_53 rfl rfl (wp_iv1 dX12_item_54 k11_192 q_X12_isBeyond (by decide) (xsh hX sh_187) (by decide) (Nat.le_of_ble_eq_true rfl) gb ?_)
      refine wb_if_ne dX12_item_57 rfl (fun c57 => ?_) (fun c57 => absurd c57 (by decide))
      exact k2 h3 S rf hp
    | false =>
      have hb' := of_decide_eq_false hb
      rw [hb] at gb
      have gp := m_peek_e (d + 1) hX hT hp (by omega) (by omega)
      have gs := m_isSmall_e (d + 1) S
      refine wp_aload_n dX12_item_53 rfl rfl (wp_iv1 dX12_item_54 k11_192 q_X12_isBeyond (by decide) (xsh hX sh_187) (by decide) (Nat.le_of_ble_eq_true rfl) gb ?_)
      refine wb_if_ne dX12_item_57 rfl (fun c57 => absurd c57 (by decide)) (fun c57 => ?_)
      refine wp_aload_n dX12_item_60 rfl rfl (wp_iv1 dX12_item_61 k11_24 q_X12_peek (by decide) (xsh hX sh_187) (by decide) (Nat.le_of_ble_eq_true rfl) gp (wp_is1 dX12_item_64 k11_37 q_X12_isSmall (by decide) (Nat.le_of_ble_eq_true rfl) gs ?_))
      refine wb_if_eq dX12_item_67 rfl (fun c67 => ?_) (fun c67 => absurd c67 (by decide))
      exact k2 h3 S rf hp
  | succ j ih =>
    intro p S hj h1 h2 h3 hX hT hp k1 k2
    have gb := m_isBeyond (d + 1) hX hT hp h2
    have rf : xFl (fun i k => i = 187 ∧ k = 4) S S := xFl.rf S
    have hle := hT.2.1
    rw [show decide (240 < n ∧ 240 ≤ p) = false from decide_eq_false (by omega)] at gb
    have gp := m_peek (d + 1) hX hT hp (by omega)
    have hc := (hT.2.2 p (by omega)).1
    have gs := m_isSmall (c := t p) (by omega) (d + 1) S
    cases hs : xsm (t p) with
    | false =>
      have e : xrs t (min n 240 - p) p = p := by rw [hj]; unfold xrs; rw [if_neg (by rw [hs]; decide)]
      rw [e] at k1 k2
      rw [hs] at gs
      refine wp_aload_n dX12_item_53 rfl rfl (wp_iv1 dX12_item_54 k11_192 q_X12_isBeyond (by decide) (xsh hX sh_187) (by decide) (Nat.le_of_ble_eq_true rfl) gb ?_)
      refine wb_if_ne dX12_item_57 rfl (fun c57 => absurd c57 (by decide)) (fun c57 => ?_)
      refine wp_aload_n dX12_item_60 rfl rfl (wp_iv1 dX12_item_61 k11_24 q_X12_peek (by decide) (xsh hX sh_187) (by decide) (Nat.le_of_ble_eq_true rfl) gp (wp_is1 dX12_item_64 k11_37 q_X12_isSmall (by decide) (Nat.le_of_ble_eq_true rfl) gs ?_))
      refine wb_if_eq dX12_item_67 rfl (fun c67 => ?_) (fun c67 => absurd c67 (by decide))
      exact k2 h3 S rf hp
    | true =>
      have e : xrs t (min n 240 - p) p = xrs t (min n 240 - (p + 1)) (p + 1) := by
        rw [hj, show min n 240 - (p + 1) = j by omega, xrs, if_pos hs]
      have hbr := xrs_b t (min n 240 - (p + 1)) (p + 1)
      rw [e] at k1 k2
      rw [hs] at gs
      rcases Nat.lt_or_ge (p - p0) 12 with q | q
      · have e1 : p - p0 + 1 = p + 1 - p0 := by omega
        have F1 : xFl (fun i k => i = 187 ∧ k = 4) S (xSI S 187 4 (nI (p + 1))) := (xFl.rf S).SI ⟨rfl, rfl⟩
        refine wp_aload_n dX12_item_53 rfl rfl (wp_iv1 dX12_item_54 k11_192 q_X12_isBeyond (by decide) (xsh hX sh_187) (by decide) (Nat.le_of_ble_eq_true rfl) gb ?_)
        refine wb_if_ne dX12_item_57 rfl (fun c57 => absurd c57 (by decide)) (fun c57 => ?_)
        refine wp_aload_n dX12_item_60 rfl rfl (wp_iv1 dX12_item_61 k11_24 q_X12_peek (by decide) (xsh hX sh_187) (by decide) (Nat.le_of_ble_eq_true rfl) gp (wp_is1 dX12_item_64 k11_37 q_X12_isSmall (by decide) (Nat.le_of_ble_eq_true rfl) gs ?_))
        refine wb_if_eq dX12_item_67 rfl (fun c67 => absurd c67 (by decide)) (fun c67 => ?_)
        refine wp_iload dX12_item_70 rfl (wp_bipush (v := nI 12) dX12_item_72 rfl ?_)
        refine wn_icmp_ne dX12_item_74 rfl (by omega) (by omega) (fun c74 => ?_) (fun c74 => absurd c74 (by omega))
        refine wp_iinc dX12_item_87 rfl (nI_1 _) ⟨Nat.le_of_ble_eq_true rfl, Or.inr rfl⟩ rfl (wp_aload_n dX12_item_90 rfl rfl (wp_dup dX12_item_91 rfl (gv11_21 dX12_item_92 (xsh hX sh_187) hp (wp_iconst (v := nI 1) dX12_item_95 rfl (wv_iadd dX12_item_96 (nI_add _ _) (p11_21 dX12_item_97 (xsh hX sh_187) (wp_goto dX12_item_100 rfl ?_)))))))
        rw [e1]
        exact ih (p + 1) (xSI S 187 4 (nI (p + 1))) (by omega) (by omega) (by omega) (by omega) (F1.XC hX) (hT.fr F1 (by omega) (fun k => by omega)) (xI_same _ _ _ _) (fun w S' f => k1 w S' (F1.tt f)) (fun w S' f h => k2 w S' (F1.tt f) h)
      · have e2 : p0 + 12 = p := by omega
        rw [e2] at k1
        have kk := k1 (by omega) S rf
        refine wp_aload_n dX12_item_53 rfl rfl (wp_iv1 dX12_item_54 k11_192 q_X12_isBeyond (by decide) (xsh hX sh_187) (by decide) (Nat.le_of_ble_eq_true rfl) gb ?_)
        refine wb_if_ne dX12_item_57 rfl (fun c57 => absurd c57 (by decide)) (fun c57 => ?_)
        refine wp_aload_n dX12_item_60 rfl rfl (wp_iv1 dX12_item_61 k11_24 q_X12_peek (by decide) (xsh hX sh_187) (by decide) (Nat.le_of_ble_eq_true rfl) gp (wp_is1 dX12_item_64 k11_37 q_X12_isSmall (by decide) (Nat.le_of_ble_eq_true rfl) gs ?_))
        refine wb_if_eq dX12_item_67 rfl (fun c67 => absurd c67 (by decide)) (fun c67 => ?_)
        refine wp_iload dX12_item_70 rfl (wp_bipush (v := nI 12) dX12_item_72 rfl ?_)
        refine wn_icmp_ne dX12_item_74 rfl (by omega) (by omega) (fun c74 => absurd c74 (by omega)) (fun c74 => ?_)
        exact wp_aload_n dX12_item_77 rfl rfl (wp_iconst (v := nI 2) dX12_item_78 rfl (wp_aload_n dX12_item_79 rfl rfl (gv11_21 dX12_item_80 (xsh hX sh_187) hp (wp_iv3 dX12_item_83 k11_57 q_X12_wrong (by decide) (xsh hX sh_187) (by decide) (Nat.le_of_ble_eq_true rfl) (m_wrong 2 _ (d + 1) hX) (wb_ret dX12_item_86 rfl rfl kk)))))
def xFI (q i k : Nat) : Prop := (i = 187 ∧ (k = 4 ∨ k = 9 ∨ k = 10 ∨ k = 39)) ∨ ((i = 198 ∨ i = 199 ∨ i = 200) ∧ k = 732 + q)
def xIO (q : Nat) (S S' : xS) (b : Bool) (X : Except (Nat × Nat) (xIt × Nat)) : Prop :=
  (∀ e z, X = .error (e, z) → b = false ∧ S'.2.1 187 9 = nI e ∧ S'.2.1 187 10 = nI z) ∧
  (∀ o p', X = .ok (o, p') → b = true ∧ S'.2.1 187 4 = nI p' ∧ S'.2.1 187 39 = nI (q + 1) ∧ S'.2.1 198 (732 + q) = nI o.1 ∧ S'.2.1 199 (732 + q) = nI o.2.1 ∧ S'.2.1 200 (732 + q) = nI o.2.2 ∧ S'.2.1 187 9 = S.2.1 187 9)
theorem mi_fin {n p q tm d : Nat} {tb : Bool} {x2 : Int32} {x4 : Value} {t : Nat → Nat} {S S2 : xS} (hq : q < 121) {o : xIt} {p' : Nat} {X : Except (Nat × Nat) (xIt × Nat)} (hR : X = .ok (o, p')) (hf : xFl (xFI q) S S2) (h4 : S2.2.1 187 4 = nI p') (h39 : S2.2.1 187 39 = nI q) (a1 : S2.2.1 198 (732 + q) = nI o.1) (a2 : S2.2.1 199 (732 + q) = nI o.2.1) (a3 : S2.2.1 200 (732 + q) = nI o.2.2) (h9 : S2.2.1 187 9 = S.2.1 187 9) (hX2 : XC S2) : Wp false (d + 2) 11 cX12_item (some .boolean) false 225 [.ref 187, .int (xB tb), .int x2, .int (nI (732 + q)), x4] [] S2 (fun r S' => ∃ b, r = some (.int (xB b)) ∧ xFl (xFI q) S S' ∧ xIO q S S' b X) := by
  have ff : xFl (xFI q) S (xSI S2 187 39 (nI (q + 1))) := hf.SI (Or.inl ⟨rfl, by omega⟩)
  have q1 : xIO q S (xSI S2 187 39 (nI (q + 1))) true X := ⟨fun e z h => (by rw [hR] at h; cases h), fun o' p2 h => (by rw [hR] at h; cases h; exact ⟨rfl, xi h4 (Or.inr (by decide)), xI_same _ _ _ _, xi a1 (Or.inl (by decide)), xi a2 (Or.inl (by decide)), xi a3 (Or.inl (by decide)), xi h9 (Or.inr (by decide))⟩)⟩
  exact wp_aload_n dX12_item_225 rfl rfl (wp_dup dX12_item_226 rfl (gv11_195 dX12_item_227 (xsh hX2 sh_187) h39 (wp_iconst (v := nI 1) dX12_item_230 rfl (wv_iadd dX12_item_231 (nI_add _ _) (p11_195 dX12_item_232 (xsh hX2 sh_187) (wp_iconst (v := nI 1) dX12_item_235 rfl (wb_ret dX12_item_236 rfl rfl ⟨true, rfl, ff, q1⟩)))))))
theorem m_item {n p q tm : Nat} {t : Nat → Nat} (d : Nat) {S : xS} (hX : XC S) (hT : xTxM S n t) (hp : S.2.1 187 4 = nI p) (hpm : p ≤ min n 240) (h39 : S.2.1 187 39 = nI q) (hq : q < 121) : ∃ b S', xcall false (d + 2) j_X12_item [.ref 187, .int (xB (decide (1 < tm)))] S (some (.int (xB b))) S' ∧ xFl (xFI q) S S' ∧ xIO q S S' b (xmi t (min n 240) tm p) := by
  have gb := m_isBeyond (d + 1) hX hT hp hpm
  have rf : xFl (xFI q) S S := xFl.rf S
  have hle := hT.2.1
  suffices key : ∃ r S', xcall false (d + 2) j_X12_item [.ref 187, .int (xB (decide (1 < tm)))] S r S' ∧ (∃ b, r = some (.int (xB b)) ∧ xFl (xFI q) S S' ∧ xIO q S S' b (xmi t (min n 240) tm p)) by
    obtain ⟨r, S', g, b, rfl, z⟩ := key
    exact ⟨b, S', g, z⟩
  refine xcall_some (ls := [.ref 187, .int (xB (decide (1 < tm))), .float 0, .float 0, .float 0]) q_X12_item (by decide) rfl (Nat.le_of_ble_eq_true rfl) rfl ?_
  rcases Nat.lt_or_ge p (min n 240) with hlt | hge
  · rw [show decide (240 < n ∧ 240 ≤ p) = false from decide_eq_false (by omega)] at gb
    have gp := m_peek (d + 1) hX hT hp (by omega)
    have hc := (hT.2.2 p (by omega)).1
    have F1 : xFl (xFI q) S (xSI (xSI S 199 (732 + q) (nI p)) 200 (732 + q) (nI 1)) := (rf.SI (Or.inr ⟨Or.inr (Or.inl rfl), rfl⟩)).SI (Or.inr ⟨Or.inr (Or.inr rfl), rfl⟩)
    have X1 := F1.XC hX
    have T1 : xTxM (xSI (xSI S 199 (732 + q) (nI p)) 200 (732 + q) (nI 1)) n t := hT.fr F1 (by unfold xFI; omega) (fun k => by unfold xFI; omega)
    have hpb : (xSI (xSI S 199 (732 + q) (nI p)) 200 (732 + q) (nI 1)).2.1 187 4 = nI p := xi (xi hp (Or.inl (by decide))) (Or.inl (by decide))
    have h39b : (xSI (xSI S 199 (732 + q) (nI p)) 200 (732 + q) (nI 1)).2.1 187 39 = nI q := xi (xi h39 (Or.inl (by decide))) (Or.inl (by decide))
    have h9b : (xSI (xSI S 199 (732 + q) (nI p)) 200 (732 + q) (nI 1)).2.1 187 9 = S.2.1 187 9 := xi (xi rfl (Or.inl (by decide))) (Or.inl (by decide))
    have a2b : (xSI (xSI S 199 (732 + q) (nI p)) 200 (732 + q) (nI 1)).2.1 199 (732 + q) = nI p := xi (xI_same _ _ _ _) (Or.inl (by decide))
    have a3b : (xSI (xSI S 199 (732 + q) (nI p)) 200 (732 + q) (nI 1)).2.1 200 (732 + q) = nI 1 := xI_same _ _ _ _
    have gs := m_isSmall (c := t p) (by omega) (d + 1) (xSI (xSI S 199 (732 + q) (nI p)) 200 (732 + q) (nI 1))
    cases hs : xsm (t p) with
    | true =>
      rw [hs] at gs
      refine wp_aload_n dX12_item_0 rfl rfl (wp_iv1 dX12_item_1 k11_192 q_X12_isBeyond (by decide) (xsh hX sh_187) (by decide) (Nat.le_of_ble_eq_true rfl) gb ?_)
      refine wb_if_eq dX12_item_4 rfl (fun c4 => ?_) (fun c4 => absurd c4 (by decide))
      refine wp_aload_n dX12_item_12 rfl rfl (wp_iv1 dX12_item_13 k11_24 q_X12_peek (by decide) (xsh hX sh_187) (by decide) (Nat.le_of_ble_eq_true rfl) gp (wp_istore_n dX12_item_16 ⟨Nat.le_of_ble_eq_true rfl, Or.inr rfl⟩ rfl (wp_sipush (v := nI 732) dX12_item_17 rfl (wp_aload_n dX12_item_20 rfl rfl (gv11_195 dX12_item_21 (xsh hX sh_187) h39 (wv_iadd dX12_item_24 (nI_add _ _) (wp_istore_n dX12_item_25 ⟨Nat.le_of_ble_eq_true rfl, Or.inr rfl⟩ rfl (wp_aload_n dX12_item_26 rfl rfl (g11_210 dX12_item_27 (xsh hX sh_187) (xrr hX r187_33) (wp_iload_n dX12_item_30 rfl (wp_aload_n dX12_item_31 rfl rfl (gv11_21 dX12_item_32 (xsh hX sh_187) hp (wn_iastore dX12_item_35 (xsh hX sh_199) rfl (by omega) (by decide) (wp_aload_n dX12_item_36 rfl rfl (g11_213 dX12_item_37 (xsh hX sh_187) (xrr hX r187_34) (wp_iload_n dX12_item_40 rfl (wp_iconst (v := nI 1) dX12_item_41 rfl (wn_iastore dX12_item_42 (xsh hX sh_200) rfl (by omega) (by decide) (wp_iload_n dX12_item_43 rfl (wp_is1 dX12_item_44 k11_37 q_X12_isSmall (by decide) (Nat.le_of_ble_eq_true rfl) gs ?_))))))))))))))))))))
      refine wb_if_eq dX12_item_47 rfl (fun c47 => absurd c47 (by decide)) (fun c47 => ?_)
      refine wp_iconst (v := nI 0) dX12_item_50 rfl (wp_istore dX12_item_51 ⟨Nat.le_of_ble_eq_true rfl, Or.inr rfl⟩ rfl ?_)
      refine wp_locals (ls' := [.ref 187, .int (xB (decide (1 < tm))), .int (nI (t p)), .int (nI (732 + q)), .int (nI (p - p))]) (by rw [Nat.sub_self]; rfl) ?_
      refine mi_loop (n := n) (t := t) _ p _ rfl (Nat.le_refl _) hpm (by omega) X1 T1 hpb (fun w S' f => ?_) (fun w S' f h4 => ?_)
      · have EX : xmi t (min n 240) tm p = .error (2, p + 12) := by
          unfold xmi
          rw [if_neg (by omega), if_pos hs, if_pos w]
        have ff : xFl (xFI q) S (xSI (xSI S' 187 9 (nI 2)) 187 10 (nI (p + 12))) := ((F1.tt (f.mono (fun i k h => Or.inl ⟨h.1, by omega⟩))).SI (Or.inl ⟨rfl, by omega⟩)).SI (Or.inl ⟨rfl, by omega⟩)
        exact ⟨false, rfl, ff, fun e z h => (by rw [EX] at h; cases h; exact ⟨rfl, xi (xI_same _ _ _ _) (Or.inr (by decide)), xI_same _ _ _ _⟩), fun o' p2 h => (by rw [EX] at h; cases h)⟩
      · have hbr := xrs_b t (min n 240 - p) p
        have X2 := f.XC X1
        have T2 : xTxM S' n t := T1.fr f (by omega) (fun k => by omega)
        have gb2 := m_isBeyond (d + 1) (S := xSI S' 200 (732 + q) (nI (xrs t (min n 240 - p) p - p))) X2 (T2.fr ((xFl.rf S').SI (P := fun i k => i = 200) (k := 732 + q) rfl) (by decide) (fun k => by decide)) (xi h4 (Or.inl (by decide))) (by omega)
        have T3 : xTxM (xSI S' 200 (732 + q) (nI (xrs t (min n 240 - p) p - p))) n t := T2.fr ((xFl.rf S').SI (P := fun i k => i = 200) (k := 732 + q) rfl) (by decide) (fun k => by decide)
        have F2 : xFl (xFI q) S (xSI S' 200 (732 + q) (nI (xrs t (min n 240 - p) p - p))) := (F1.tt (f.mono (fun i k h => Or.inl ⟨h.1, by omega⟩))).SI (Or.inr ⟨Or.inr (Or.inr rfl), rfl⟩)
        have c39 : S'.2.1 187 39 = nI q := f.i h39b (by omega)
        have c9 : S'.2.1 187 9 = S.2.1 187 9 := f.i h9b (by omega)
        have c2 : S'.2.1 199 (732 + q) = nI p := f.i a2b (by omega)
        rcases Decidable.em (xrs t (min n 240 - p) p < min n 240 ∧ t (xrs t (min n 240 - p) p) = 33) with h33 | h33
        · have EX : xmi t (min n 240) tm p = .ok ((1, p, xrs t (min n 240 - p) p - p), xrs t (min n 240 - p) p + 1) := by
            unfold xmi
            rw [if_neg (by omega), if_pos hs, if_neg (by omega), if_pos h33]
          rw [show decide (240 < n ∧ 240 ≤ xrs t (min n 240 - p) p) = false from decide_eq_false (by omega)] at gb2
          have gp2 := m_peek (d + 1) (S := xSI S' 200 (732 + q) (nI (xrs t (min n 240 - p) p - p))) X2 T3 (xi h4 (Or.inl (by decide))) (by omega)
          rw [h33.2] at gp2
          have F3 : xFl (xFI q) S (xSI (xSI (xSI S' 200 (732 + q) (nI (xrs t (min n 240 - p) p - p))) 198 (732 + q) (nI 1)) 187 4 (nI (xrs t (min n 240 - p) p + 1))) := (F2.SI (Or.inr ⟨Or.inl rfl, rfl⟩)).SI (Or.inl ⟨rfl, by omega⟩)
          refine wp_aload_n dX12_item_103 rfl rfl (g11_213 dX12_item_104 (xsh X2 sh_187) (xrr X2 r187_34) (wp_iload_n dX12_item_107 rfl (wp_iload dX12_item_108 rfl (wn_iastore dX12_item_110 (xsh X2 sh_200) rfl (by omega) (by decide) (wp_aload_n dX12_item_111 rfl rfl (g11_207 dX12_item_112 (xsh X2 sh_187) (xrr X2 r187_32) (wp_iload_n dX12_item_115 rfl (wp_aload_n dX12_item_116 rfl rfl (wp_iv1 dX12_item_117 k11_192 q_X12_isBeyond (by decide) (xsh X2 sh_187) (by decide) (Nat.le_of_ble_eq_true rfl) gb2 ?_)))))))))
          refine wb_if_ne dX12_item_120 rfl (fun c120 => absurd c120 (by decide)) (fun c120 => ?_)
          refine wp_aload_n dX12_item_123 rfl rfl (wp_iv1 dX12_item_124 k11_24 q_X12_peek (by decide) (xsh X2 sh_187) (by decide) (Nat.le_of_ble_eq_true rfl) gp2 (wp_bipush (v := nI 33) dX12_item_127 rfl ?_))
          refine wn_icmp_ne dX12_item_129 rfl (by omega) (by omega) (fun c129 => absurd c129 (by omega)) (fun c129 => ?_)
          refine wp_iconst (v := nI 1) dX12_item_132 rfl (wp_goto dX12_item_133 rfl (wn_iastore dX12_item_137 (xsh X2 sh_198) rfl (by omega) (by decide) (wp_aload_n dX12_item_138 rfl rfl (g11_207 dX12_item_139 (xsh X2 sh_187) (xrr X2 r187_32) (wp_iload_n dX12_item_142 rfl (wn_iaload dX12_item_143 (xsh X2 sh_198) rfl (by omega) (by decide) (xI_same _ _ _ _) (wp_iconst (v := nI 1) dX12_item_144 rfl ?_)))))))
          refine wn_icmp_ne dX12_item_145 rfl (by omega) (by omega) (fun c145 => absurd c145 (by omega)) (fun c145 => ?_)
          refine wp_aload_n dX12_item_148 rfl rfl (wp_dup dX12_item_149 rfl (gv11_21 dX12_item_150 (xsh X2 sh_187) (xi (xi h4 (Or.inl (by decide))) (Or.inl (by decide))) (wp_iconst (v := nI 1) dX12_item_153 rfl (wv_iadd dX12_item_154 (nI_add _ _) (p11_21 dX12_item_155 (xsh X2 sh_187) (wp_goto dX12_item_158 rfl ?_))))))
          refine mi_fin (n := n) (p := p) (tm := tm) (t := t) (S := S) (by omega) EX F3 (xI_same _ _ _ _) (xi (xi (xi c39 (Or.inl (by decide))) (Or.inl (by decide))) (Or.inr (by decide))) (xi (xI_same _ _ _ _) (Or.inl (by decide))) (xi (xi (xi c2 (Or.inl (by decide))) (Or.inl (by decide))) (Or.inl (by decide))) (xi (xi (xI_same _ _ _ _) (Or.inl (by decide))) (Or.inl (by decide))) (xi (xi (xi c9 (Or.inl (by decide))) (Or.inl (by decide))) (Or.inr (by decide))) X2
        · have EX : xmi t (min n 240) tm p = .ok ((0, p, xrs t (min n 240 - p) p - p), xrs t (min n 240 - p) p) := by
            unfold xmi
            rw [if_neg (by omega), if_pos hs, if_neg (by omega), if_neg h33]
          have F3 : xFl (xFI q) S (xSI (xSI S' 200 (732 + q) (nI (xrs t (min n 240 - p) p - p))) 198 (732 + q) (nI 0)) := F2.SI (Or.inr ⟨Or.inl rfl, rfl⟩)
          have fin {x4 : Value} : Wp false (d + 2) 11 cX12_item (some .boolean) false 225 [.ref 187, .int (xB (decide (1 < tm))), .int (nI (t p)), .int (nI (732 + q)), x4] [] (xSI (xSI S' 200 (732 + q) (nI (xrs t (min n 240 - p) p - p))) 198 (732 + q) (nI 0)) (fun r S' => ∃ b, r = some (.int (xB b)) ∧ xFl (xFI q) S S' ∧ xIO q S S' b (xmi t (min n 240) tm p)) :=
            mi_fin (n := n) (p := p) (tm := tm) (t := t) (S := S) (by omega) EX F3 (xi (xi h4 (Or.inl (by decide))) (Or.inl (by decide))) (xi (xi c39 (Or.inl (by decide))) (Or.inl (by decide))) (xI_same _ _ _ _) (xi (xi c2 (Or.inl (by decide))) (Or.inl (by decide))) (xi (xI_same _ _ _ _) (Or.inl (by decide))) (xi (xi c9 (Or.inl (by decide))) (Or.inl (by decide))) X2
          cases hb2 : decide (240 < n ∧ 240 ≤ xrs t (min n 240 - p) p) with
          | true =>
            rw [hb2] at gb2
            refine wp_aload_n dX12_item_103 rfl rfl (g11_213 dX12_item_104 (xsh X2 sh_187) (xrr X2 r187_34) (wp_iload_n dX12_item_107 rfl (wp_iload dX12_item_108 rfl (wn_iastore dX12_item_110 (xsh X2 sh_200) rfl (by omega) (by decide) (wp_aload_n dX12_item_111 rfl rfl (g11_207 dX12_item_112 (xsh X2 sh_187) (xrr X2 r187_32) (wp_iload_n dX12_item_115 rfl (wp_aload_n dX12_item_116 rfl rfl (wp_iv1 dX12_item_117 k11_192 q_X12_isBeyond (by decide) (xsh X2 sh_187) (by decide) (Nat.le_of_ble_eq_true rfl) gb2 ?_)))))))))
            refine wb_if_ne dX12_item_120 rfl (fun c120 => ?_) (fun c120 => absurd c120 (by decide))
            refine wp_iconst (v := nI 0) dX12_item_136 rfl (wn_iastore dX12_item_137 (xsh X2 sh_198) rfl (by omega) (by decide) (wp_aload_n dX12_item_138 rfl rfl (g11_207 dX12_item_139 (xsh X2 sh_187) (xrr X2 r187_32) (wp_iload_n dX12_item_142 rfl (wn_iaload dX12_item_143 (xsh X2 sh_198) rfl (by omega) (by decide) (xI_same _ _ _ _) (wp_iconst (v := nI 1) dX12_item_144 rfl ?_))))))
            refine wn_icmp_ne dX12_item_145 rfl (by omega) (by omega) (fun c145 => ?_) (fun c145 => absurd c145 (by omega))
            exact wp_goto dX12_item_158 rfl fin
          | false =>
            rw [hb2] at gb2
            have hb2' := of_decide_eq_false hb2
            rcases Nat.lt_or_ge (xrs t (min n 240 - p) p) (min n 240) with hl2 | hl2
            · have gp2 := m_peek (d + 1) (S := xSI S' 200 (732 + q) (nI (xrs t (min n 240 - p) p - p))) X2 T3 (xi h4 (Or.inl (by decide))) (by omega)
              have hc2 := (hT.2.2 (xrs t (min n 240 - p) p) (by omega)).1
              refine wp_aload_n dX12_item_103 rfl rfl (g11_213 dX12_item_104 (xsh X2 sh_187) (xrr X2 r187_34) (wp_iload_n dX12_item_107 rfl (wp_iload dX12_item_108 rfl (wn_iastore dX12_item_110 (xsh X2 sh_200) rfl (by omega) (by decide) (wp_aload_n dX12_item_111 rfl rfl (g11_207 dX12_item_112 (xsh X2 sh_187) (xrr X2 r187_32) (wp_iload_n dX12_item_115 rfl (wp_aload_n dX12_item_116 rfl rfl (wp_iv1 dX12_item_117 k11_192 q_X12_isBeyond (by decide) (xsh X2 sh_187) (by decide) (Nat.le_of_ble_eq_true rfl) gb2 ?_)))))))))
              refine wb_if_ne dX12_item_120 rfl (fun c120 => absurd c120 (by decide)) (fun c120 => ?_)
              refine wp_aload_n dX12_item_123 rfl rfl (wp_iv1 dX12_item_124 k11_24 q_X12_peek (by decide) (xsh X2 sh_187) (by decide) (Nat.le_of_ble_eq_true rfl) gp2 (wp_bipush (v := nI 33) dX12_item_127 rfl ?_))
              refine wn_icmp_ne dX12_item_129 rfl (by omega) (by omega) (fun c129 => ?_) (fun c129 => absurd c129 (fun w => h33 ⟨hl2, w⟩))
              refine wp_iconst (v := nI 0) dX12_item_136 rfl (wn_iastore dX12_item_137 (xsh X2 sh_198) rfl (by omega) (by decide) (wp_aload_n dX12_item_138 rfl rfl (g11_207 dX12_item_139 (xsh X2 sh_187) (xrr X2 r187_32) (wp_iload_n dX12_item_142 rfl (wn_iaload dX12_item_143 (xsh X2 sh_198) rfl (by omega) (by decide) (xI_same _ _ _ _) (wp_iconst (v := nI 1) dX12_item_144 rfl ?_))))))
              refine wn_icmp_ne dX12_item_145 rfl (by omega) (by omega) (fun c145 => ?_) (fun c145 => absurd c145 (by omega))
              exact wp_goto dX12_item_158 rfl fin
            · have gp2 := m_peek_e (d + 1) (S := xSI S' 200 (732 + q) (nI (xrs t (min n 240 - p) p - p))) X2 T3 (xi h4 (Or.inl (by decide))) (by omega) (by omega)
              refine wp_aload_n dX12_item_103 rfl rfl (g11_213 dX12_item_104 (xsh X2 sh_187) (xrr X2 r187_34) (wp_iload_n dX12_item_107 rfl (wp_iload dX12_item_108 rfl (wn_iastore dX12_item_110 (xsh X2 sh_200) rfl (by omega) (by decide) (wp_aload_n dX12_item_111 rfl rfl (g11_207 dX12_item_112 (xsh X2 sh_187) (xrr X2 r187_32) (wp_iload_n dX12_item_115 rfl (wp_aload_n dX12_item_116 rfl rfl (wp_iv1 dX12_item_117 k11_192 q_X12_isBeyond (by decide) (xsh X2 sh_187) (by decide) (Nat.le_of_ble_eq_true rfl) gb2 ?_)))))))))
              refine wb_if_ne dX12_item_120 rfl (fun c120 => absurd c120 (by decide)) (fun c120 => ?_)
              refine wp_aload_n dX12_item_123 rfl rfl (wp_iv1 dX12_item_124 k11_24 q_X12_peek (by decide) (xsh X2 sh_187) (by decide) (Nat.le_of_ble_eq_true rfl) gp2 (wp_bipush (v := nI 33) dX12_item_127 rfl ?_))
              refine wp_icmp_ne dX12_item_129 rfl (fun c129 => ?_) (fun c129 => absurd c129 (by decide))
              refine wp_iconst (v := nI 0) dX12_item_136 rfl (wn_iastore dX12_item_137 (xsh X2 sh_198) rfl (by omega) (by decide) (wp_aload_n dX12_item_138 rfl rfl (g11_207 dX12_item_139 (xsh X2 sh_187) (xrr X2 r187_32) (wp_iload_n dX12_item_142 rfl (wn_iaload dX12_item_143 (xsh X2 sh_198) rfl (by omega) (by decide) (xI_same _ _ _ _) (wp_iconst (v := nI 1) dX12_item_144 rfl ?_))))))
              refine wn_icmp_ne dX12_item_145 rfl (by omega) (by omega) (fun c145 => ?_) (fun c145 => absurd c145 (by omega))
              exact wp_goto dX12_item_158 rfl fin
    | false =>
      rw [hs] at gs
      have gbad := m_bad (d + 0) (S := xSI (xSI S 199 (732 + q) (nI p)) 200 (732 + q) (nI 1)) X1 T1 hpb hpm
      rcases Decidable.em (t p = 45) with e45 | e45
      · have EX : xmi t (min n 240) tm p = .ok ((2, p, 1), p + 1) := by
          unfold xmi
          rw [if_neg (by omega), if_neg (by rw [hs]; decide), if_pos e45]
        have F3 : xFl (xFI q) S (xSI (xSI (xSI (xSI S 199 (732 + q) (nI p)) 200 (732 + q) (nI 1)) 198 (732 + q) (nI 2)) 187 4 (nI (p + 1))) := (F1.SI (Or.inr ⟨Or.inl rfl, rfl⟩)).SI (Or.inl ⟨rfl, by omega⟩)
        refine wp_aload_n dX12_item_0 rfl rfl (wp_iv1 dX12_item_1 k11_192 q_X12_isBeyond (by decide) (xsh hX sh_187) (by decide) (Nat.le_of_ble_eq_true rfl) gb ?_)
        refine wb_if_eq dX12_item_4 rfl (fun c4 => ?_) (fun c4 => absurd c4 (by decide))
        refine wp_aload_n dX12_item_12 rfl rfl (wp_iv1 dX12_item_13 k11_24 q_X12_peek (by decide) (xsh hX sh_187) (by decide) (Nat.le_of_ble_eq_true rfl) gp (wp_istore_n dX12_item_16 ⟨Nat.le_of_ble_eq_true rfl, Or.inr rfl⟩ rfl (wp_sipush (v := nI 732) dX12_item_17 rfl (wp_aload_n dX12_item_20 rfl rfl (gv11_195 dX12_item_21 (xsh hX sh_187) h39 (wv_iadd dX12_item_24 (nI_add _ _) (wp_istore_n dX12_item_25 ⟨Nat.le_of_ble_eq_true rfl, Or.inr rfl⟩ rfl (wp_aload_n dX12_item_26 rfl rfl (g11_210 dX12_item_27 (xsh hX sh_187) (xrr hX r187_33) (wp_iload_n dX12_item_30 rfl (wp_aload_n dX12_item_31 rfl rfl (gv11_21 dX12_item_32 (xsh hX sh_187) hp (wn_iastore dX12_item_35 (xsh hX sh_199) rfl (by omega) (by decide) (wp_aload_n dX12_item_36 rfl rfl (g11_213 dX12_item_37 (xsh hX sh_187) (xrr hX r187_34) (wp_iload_n dX12_item_40 rfl (wp_iconst (v := nI 1) dX12_item_41 rfl (wn_iastore dX12_item_42 (xsh hX sh_200) rfl (by omega) (by decide) (wp_iload_n dX12_item_43 rfl (wp_is1 dX12_item_44 k11_37 q_X12_isSmall (by decide) (Nat.le_of_ble_eq_true rfl) gs ?_))))))))))))))))))))
        refine wb_if_eq dX12_item_47 rfl (fun c47 => ?_) (fun c47 => absurd c47 (by decide))
        refine wp_iload_n dX12_item_161 rfl (wp_bipush (v := nI 45) dX12_item_162 rfl ?_)
        refine wn_icmp_eq dX12_item_164 rfl (by omega) (by omega) (fun c164 => ?_) (fun c164 => absurd c164 (by omega))
        refine wp_aload_n dX12_item_188 rfl rfl (g11_207 dX12_item_189 (xsh hX sh_187) (xrr hX r187_32) (wp_iload_n dX12_item_192 rfl (wp_iload_n dX12_item_193 rfl (wp_bipush (v := nI 45) dX12_item_194 rfl ?_))))
        refine wn_icmp_ne dX12_item_196 rfl (by omega) (by omega) (fun c196 => absurd c196 (by omega)) (fun c196 => ?_)
        refine wp_iconst (v := nI 2) dX12_item_199 rfl (wp_goto dX12_item_200 rfl (wn_iastore dX12_item_214 (xsh hX sh_198) rfl (by omega) (by decide) (wp_aload_n dX12_item_215 rfl rfl (wp_dup dX12_item_216 rfl (gv11_21 dX12_item_217 (xsh hX sh_187) (xi (xi (xi hp (Or.inl (by decide))) (Or.inl (by decide))) (Or.inl (by decide))) (wp_iconst (v := nI 1) dX12_item_220 rfl (wv_iadd dX12_item_221 (nI_add _ _) (p11_21 dX12_item_222 (xsh hX sh_187) ?_))))))))
        refine mi_fin (n := n) (p := p) (tm := tm) (t := t) (S := S) (by omega) EX F3 (xI_same _ _ _ _) (xi (xi h39b (Or.inl (by decide))) (Or.inr (by decide))) (xi (xI_same _ _ _ _) (Or.inl (by decide))) (xi (xi a2b (Or.inl (by decide))) (Or.inl (by decide))) (xi (xi a3b (Or.inl (by decide))) (Or.inl (by decide))) (xi (xi h9b (Or.inl (by decide))) (Or.inr (by decide))) X1
      rcases Decidable.em (t p = 64) with e64 | e64
      · have EX : xmi t (min n 240) tm p = .ok ((3, p, 1), p + 1) := by
          unfold xmi
          rw [if_neg (by omega), if_neg (by rw [hs]; decide), if_neg e45, if_pos e64]
        have F3 : xFl (xFI q) S (xSI (xSI (xSI (xSI S 199 (732 + q) (nI p)) 200 (732 + q) (nI 1)) 198 (732 + q) (nI 3)) 187 4 (nI (p + 1))) := (F1.SI (Or.inr ⟨Or.inl rfl, rfl⟩)).SI (Or.inl ⟨rfl, by omega⟩)
        refine wp_aload_n dX12_item_0 rfl rfl (wp_iv1 dX12_item_1 k11_192 q_X12_isBeyond (by decide) (xsh hX sh_187) (by decide) (Nat.le_of_ble_eq_true rfl) gb ?_)
        refine wb_if_eq dX12_item_4 rfl (fun c4 => ?_) (fun c4 => absurd c4 (by decide))
        refine wp_aload_n dX12_item_12 rfl rfl (wp_iv1 dX12_item_13 k11_24 q_X12_peek (by decide) (xsh hX sh_187) (by decide) (Nat.le_of_ble_eq_true rfl) gp (wp_istore_n dX12_item_16 ⟨Nat.le_of_ble_eq_true rfl, Or.inr rfl⟩ rfl (wp_sipush (v := nI 732) dX12_item_17 rfl (wp_aload_n dX12_item_20 rfl rfl (gv11_195 dX12_item_21 (xsh hX sh_187) h39 (wv_iadd dX12_item_24 (nI_add _ _) (wp_istore_n dX12_item_25 ⟨Nat.le_of_ble_eq_true rfl, Or.inr rfl⟩ rfl (wp_aload_n dX12_item_26 rfl rfl (g11_210 dX12_item_27 (xsh hX sh_187) (xrr hX r187_33) (wp_iload_n dX12_item_30 rfl (wp_aload_n dX12_item_31 rfl rfl (gv11_21 dX12_item_32 (xsh hX sh_187) hp (wn_iastore dX12_item_35 (xsh hX sh_199) rfl (by omega) (by decide) (wp_aload_n dX12_item_36 rfl rfl (g11_213 dX12_item_37 (xsh hX sh_187) (xrr hX r187_34) (wp_iload_n dX12_item_40 rfl (wp_iconst (v := nI 1) dX12_item_41 rfl (wn_iastore dX12_item_42 (xsh hX sh_200) rfl (by omega) (by decide) (wp_iload_n dX12_item_43 rfl (wp_is1 dX12_item_44 k11_37 q_X12_isSmall (by decide) (Nat.le_of_ble_eq_true rfl) gs ?_))))))))))))))))))))
        refine wb_if_eq dX12_item_47 rfl (fun c47 => ?_) (fun c47 => absurd c47 (by decide))
        refine wp_iload_n dX12_item_161 rfl (wp_bipush (v := nI 45) dX12_item_162 rfl ?_)
        refine wn_icmp_eq dX12_item_164 rfl (by omega) (by omega) (fun c164 => absurd c164 (by omega)) (fun c164 => ?_)
        refine wp_iload_n dX12_item_167 rfl (wp_bipush (v := nI 64) dX12_item_168 rfl ?_)
        refine wn_icmp_eq dX12_item_170 rfl (by omega) (by omega) (fun c170 => ?_) (fun c170 => absurd c170 (by omega))
        refine wp_aload_n dX12_item_188 rfl rfl (g11_207 dX12_item_189 (xsh hX sh_187) (xrr hX r187_32) (wp_iload_n dX12_item_192 rfl (wp_iload_n dX12_item_193 rfl (wp_bipush (v := nI 45) dX12_item_194 rfl ?_))))
        refine wn_icmp_ne dX12_item_196 rfl (by omega) (by omega) (fun c196 => ?_) (fun c196 => absurd c196 (by omega))
        refine wp_iload_n dX12_item_203 rfl (wp_bipush (v := nI 64) dX12_item_204 rfl ?_)
        refine wn_icmp_ne dX12_item_206 rfl (by omega) (by omega) (fun c206 => absurd c206 (by omega)) (fun c206 => ?_)
        refine wp_iconst (v := nI 3) dX12_item_209 rfl (wp_goto dX12_item_210 rfl (wn_iastore dX12_item_214 (xsh hX sh_198) rfl (by omega) (by decide) (wp_aload_n dX12_item_215 rfl rfl (wp_dup dX12_item_216 rfl (gv11_21 dX12_item_217 (xsh hX sh_187) (xi (xi (xi hp (Or.inl (by decide))) (Or.inl (by decide))) (Or.inl (by decide))) (wp_iconst (v := nI 1) dX12_item_220 rfl (wv_iadd dX12_item_221 (nI_add _ _) (p11_21 dX12_item_222 (xsh hX sh_187) ?_))))))))
        refine mi_fin (n := n) (p := p) (tm := tm) (t := t) (S := S) (by omega) EX F3 (xI_same _ _ _ _) (xi (xi h39b (Or.inl (by decide))) (Or.inr (by decide))) (xi (xI_same _ _ _ _) (Or.inl (by decide))) (xi (xi a2b (Or.inl (by decide))) (Or.inl (by decide))) (xi (xi a3b (Or.inl (by decide))) (Or.inl (by decide))) (xi (xi h9b (Or.inl (by decide))) (Or.inr (by decide))) X1
      rcases Decidable.em (t p = 63) with e63 | e63
      · rcases Decidable.em (1 < tm) with ht | ht
        · have EX : xmi t (min n 240) tm p = .error (1, p) := by
            unfold xmi
            rw [if_neg (by omega), if_neg (by rw [hs]; decide), if_neg e45, if_neg e64, if_neg (fun w => w.2 ht)]
          have rfb : xFl (xFI q) S (xSI (xSI (xSI (xSI S 199 (732 + q) (nI p)) 200 (732 + q) (nI 1)) 187 9 (nI 1)) 187 10 (nI p)) := (F1.SI (Or.inl ⟨rfl, by omega⟩)).SI (Or.inl ⟨rfl, by omega⟩)
          have qb : xIO q S (xSI (xSI (xSI (xSI S 199 (732 + q) (nI p)) 200 (732 + q) (nI 1)) 187 9 (nI 1)) 187 10 (nI p)) false (xmi t (min n 240) tm p) := ⟨fun e z h => (by rw [EX] at h; cases h; exact ⟨rfl, xi (xI_same _ _ _ _) (Or.inr (by decide)), xI_same _ _ _ _⟩), fun o' p2 h => (by rw [EX] at h; cases h)⟩
          refine wp_aload_n dX12_item_0 rfl rfl (wp_iv1 dX12_item_1 k11_192 q_X12_isBeyond (by decide) (xsh hX sh_187) (by decide) (Nat.le_of_ble_eq_true rfl) gb ?_)
          refine wb_if_eq dX12_item_4 rfl (fun c4 => ?_) (fun c4 => absurd c4 (by decide))
          refine wp_aload_n dX12_item_12 rfl rfl (wp_iv1 dX12_item_13 k11_24 q_X12_peek (by decide) (xsh hX sh_187) (by decide) (Nat.le_of_ble_eq_true rfl) gp (wp_istore_n dX12_item_16 ⟨Nat.le_of_ble_eq_true rfl, Or.inr rfl⟩ rfl (wp_sipush (v := nI 732) dX12_item_17 rfl (wp_aload_n dX12_item_20 rfl rfl (gv11_195 dX12_item_21 (xsh hX sh_187) h39 (wv_iadd dX12_item_24 (nI_add _ _) (wp_istore_n dX12_item_25 ⟨Nat.le_of_ble_eq_true rfl, Or.inr rfl⟩ rfl (wp_aload_n dX12_item_26 rfl rfl (g11_210 dX12_item_27 (xsh hX sh_187) (xrr hX r187_33) (wp_iload_n dX12_item_30 rfl (wp_aload_n dX12_item_31 rfl rfl (gv11_21 dX12_item_32 (xsh hX sh_187) hp (wn_iastore dX12_item_35 (xsh hX sh_199) rfl (by omega) (by decide) (wp_aload_n dX12_item_36 rfl rfl (g11_213 dX12_item_37 (xsh hX sh_187) (xrr hX r187_34) (wp_iload_n dX12_item_40 rfl (wp_iconst (v := nI 1) dX12_item_41 rfl (wn_iastore dX12_item_42 (xsh hX sh_200) rfl (by omega) (by decide) (wp_iload_n dX12_item_43 rfl (wp_is1 dX12_item_44 k11_37 q_X12_isSmall (by decide) (Nat.le_of_ble_eq_true rfl) gs ?_))))))))))))))))))))
          refine wb_if_eq dX12_item_47 rfl (fun c47 => ?_) (fun c47 => absurd c47 (by decide))
          refine wp_iload_n dX12_item_161 rfl (wp_bipush (v := nI 45) dX12_item_162 rfl ?_)
          refine wn_icmp_eq dX12_item_164 rfl (by omega) (by omega) (fun c164 => absurd c164 (by omega)) (fun c164 => ?_)
          refine wp_iload_n dX12_item_167 rfl (wp_bipush (v := nI 64) dX12_item_168 rfl ?_)
          refine wn_icmp_eq dX12_item_170 rfl (by omega) (by omega) (fun c170 => absurd c170 (by omega)) (fun c170 => ?_)
          refine wp_iload_n dX12_item_173 rfl (wp_bipush (v := nI 63) dX12_item_174 rfl ?_)
          refine wn_icmp_ne dX12_item_176 rfl (by omega) (by omega) (fun c176 => absurd c176 (by omega)) (fun c176 => ?_)
          refine wp_iload_n dX12_item_179 rfl ?_
          refine wb_if_eq dX12_item_180 rfl (fun c180 => absurd c180 (by rw [decide_eq_true ht]; decide)) (fun c180 => ?_)
          exact wp_aload_n dX12_item_183 rfl rfl (wp_iv1 dX12_item_184 k11_204 q_X12_bad (by decide) (xsh hX sh_187) (by decide) (Nat.le_of_ble_eq_true rfl) gbad (wb_ret dX12_item_187 rfl rfl ⟨false, rfl, rfb, qb⟩))
        · have EX : xmi t (min n 240) tm p = .ok ((4, p, 1), p + 1) := by
            unfold xmi
            rw [if_neg (by omega), if_neg (by rw [hs]; decide), if_neg e45, if_neg e64, if_pos ⟨e63, ht⟩]
          have F3 : xFl (xFI q) S (xSI (xSI (xSI (xSI S 199 (732 + q) (nI p)) 200 (732 + q) (nI 1)) 198 (732 + q) (nI 4)) 187 4 (nI (p + 1))) := (F1.SI (Or.inr ⟨Or.inl rfl, rfl⟩)).SI (Or.inl ⟨rfl, by omega⟩)
          refine wp_aload_n dX12_item_0 rfl rfl (wp_iv1 dX12_item_1 k11_192 q_X12_isBeyond (by decide) (xsh hX sh_187) (by decide) (Nat.le_of_ble_eq_true rfl) gb ?_)
          refine wb_if_eq dX12_item_4 rfl (fun c4 => ?_) (fun c4 => absurd c4 (by decide))
          refine wp_aload_n dX12_item_12 rfl rfl (wp_iv1 dX12_item_13 k11_24 q_X12_peek (by decide) (xsh hX sh_187) (by decide) (Nat.le_of_ble_eq_true rfl) gp (wp_istore_n dX12_item_16 ⟨Nat.le_of_ble_eq_true rfl, Or.inr rfl⟩ rfl (wp_sipush (v := nI 732) dX12_item_17 rfl (wp_aload_n dX12_item_20 rfl rfl (gv11_195 dX12_item_21 (xsh hX sh_187) h39 (wv_iadd dX12_item_24 (nI_add _ _) (wp_istore_n dX12_item_25 ⟨Nat.le_of_ble_eq_true rfl, Or.inr rfl⟩ rfl (wp_aload_n dX12_item_26 rfl rfl (g11_210 dX12_item_27 (xsh hX sh_187) (xrr hX r187_33) (wp_iload_n dX12_item_30 rfl (wp_aload_n dX12_item_31 rfl rfl (gv11_21 dX12_item_32 (xsh hX sh_187) hp (wn_iastore dX12_item_35 (xsh hX sh_199) rfl (by omega) (by decide) (wp_aload_n dX12_item_36 rfl rfl (g11_213 dX12_item_37 (xsh hX sh_187) (xrr hX r187_34) (wp_iload_n dX12_item_40 rfl (wp_iconst (v := nI 1) dX12_item_41 rfl (wn_iastore dX12_item_42 (xsh hX sh_200) rfl (by omega) (by decide) (wp_iload_n dX12_item_43 rfl (wp_is1 dX12_item_44 k11_37 q_X12_isSmall (by decide) (Nat.le_of_ble_eq_true rfl) gs ?_))))))))))))))))))))
          refine wb_if_eq dX12_item_47 rfl (fun c47 => ?_) (fun c47 => absurd c47 (by decide))
          refine wp_iload_n dX12_item_161 rfl (wp_bipush (v := nI 45) dX12_item_162 rfl ?_)
          refine wn_icmp_eq dX12_item_164 rfl (by omega) (by omega) (fun c164 => absurd c164 (by omega)) (fun c164 => ?_)
          refine wp_iload_n dX12_item_167 rfl (wp_bipush (v := nI 64) dX12_item_168 rfl ?_)
          refine wn_icmp_eq dX12_item_170 rfl (by omega) (by omega) (fun c170 => absurd c170 (by omega)) (fun c170 => ?_)
          refine wp_iload_n dX12_item_173 rfl (wp_bipush (v := nI 63) dX12_item_174 rfl ?_)
          refine wn_icmp_ne dX12_item_176 rfl (by omega) (by omega) (fun c176 => absurd c176 (by omega)) (fun c176 => ?_)
          refine wp_iload_n dX12_item_179 rfl ?_
          refine wb_if_eq dX12_item_180 rfl (fun c180 => ?_) (fun c180 => absurd c180 (by rw [decide_eq_false ht]; decide))
          refine wp_aload_n dX12_item_188 rfl rfl (g11_207 dX12_item_189 (xsh hX sh_187) (xrr hX r187_32) (wp_iload_n dX12_item_192 rfl (wp_iload_n dX12_item_193 rfl (wp_bipush (v := nI 45) dX12_item_194 rfl ?_))))
          refine wn_icmp_ne dX12_item_196 rfl (by omega) (by omega) (fun c196 => ?_) (fun c196 => absurd c196 (by omega))
          refine wp_iload_n dX12_item_203 rfl (wp_bipush (v := nI 64) dX12_item_204 rfl ?_)
          refine wn_icmp_ne dX12_item_206 rfl (by omega) (by omega) (fun c206 => ?_) (fun c206 => absurd c206 (by omega))
          refine wp_iconst (v := nI 4) dX12_item_213 rfl (wn_iastore dX12_item_214 (xsh hX sh_198) rfl (by omega) (by decide) (wp_aload_n dX12_item_215 rfl rfl (wp_dup dX12_item_216 rfl (gv11_21 dX12_item_217 (xsh hX sh_187) (xi (xi (xi hp (Or.inl (by decide))) (Or.inl (by decide))) (Or.inl (by decide))) (wp_iconst (v := nI 1) dX12_item_220 rfl (wv_iadd dX12_item_221 (nI_add _ _) (p11_21 dX12_item_222 (xsh hX sh_187) ?_)))))))
          refine mi_fin (n := n) (p := p) (tm := tm) (t := t) (S := S) (by omega) EX F3 (xI_same _ _ _ _) (xi (xi h39b (Or.inl (by decide))) (Or.inr (by decide))) (xi (xI_same _ _ _ _) (Or.inl (by decide))) (xi (xi a2b (Or.inl (by decide))) (Or.inl (by decide))) (xi (xi a3b (Or.inl (by decide))) (Or.inl (by decide))) (xi (xi h9b (Or.inl (by decide))) (Or.inr (by decide))) X1
      · have EX : xmi t (min n 240) tm p = .error (1, p) := by
          unfold xmi
          rw [if_neg (by omega), if_neg (by rw [hs]; decide), if_neg e45, if_neg e64, if_neg (fun w => e63 w.1)]
        have rfb : xFl (xFI q) S (xSI (xSI (xSI (xSI S 199 (732 + q) (nI p)) 200 (732 + q) (nI 1)) 187 9 (nI 1)) 187 10 (nI p)) := (F1.SI (Or.inl ⟨rfl, by omega⟩)).SI (Or.inl ⟨rfl, by omega⟩)
        have qb : xIO q S (xSI (xSI (xSI (xSI S 199 (732 + q) (nI p)) 200 (732 + q) (nI 1)) 187 9 (nI 1)) 187 10 (nI p)) false (xmi t (min n 240) tm p) := ⟨fun e z h => (by rw [EX] at h; cases h; exact ⟨rfl, xi (xI_same _ _ _ _) (Or.inr (by decide)), xI_same _ _ _ _⟩), fun o' p2 h => (by rw [EX] at h; cases h)⟩
        refine wp_aload_n dX12_item_0 rfl rfl (wp_iv1 dX12_item_1 k11_192 q_X12_isBeyond (by decide) (xsh hX sh_187) (by decide) (Nat.le_of_ble_eq_true rfl) gb ?_)
        refine wb_if_eq dX12_item_4 rfl (fun c4 => ?_) (fun c4 => absurd c4 (by decide))
        refine wp_aload_n dX12_item_12 rfl rfl (wp_iv1 dX12_item_13 k11_24 q_X12_peek (by decide) (xsh hX sh_187) (by decide) (Nat.le_of_ble_eq_true rfl) gp (wp_istore_n dX12_item_16 ⟨Nat.le_of_ble_eq_true rfl, Or.inr rfl⟩ rfl (wp_sipush (v := nI 732) dX12_item_17 rfl (wp_aload_n dX12_item_20 rfl rfl (gv11_195 dX12_item_21 (xsh hX sh_187) h39 (wv_iadd dX12_item_24 (nI_add _ _) (wp_istore_n dX12_item_25 ⟨Nat.le_of_ble_eq_true rfl, Or.inr rfl⟩ rfl (wp_aload_n dX12_item_26 rfl rfl (g11_210 dX12_item_27 (xsh hX sh_187) (xrr hX r187_33) (wp_iload_n dX12_item_30 rfl (wp_aload_n dX12_item_31 rfl rfl (gv11_21 dX12_item_32 (xsh hX sh_187) hp (wn_iastore dX12_item_35 (xsh hX sh_199) rfl (by omega) (by decide) (wp_aload_n dX12_item_36 rfl rfl (g11_213 dX12_item_37 (xsh hX sh_187) (xrr hX r187_34) (wp_iload_n dX12_item_40 rfl (wp_iconst (v := nI 1) dX12_item_41 rfl (wn_iastore dX12_item_42 (xsh hX sh_200) rfl (by omega) (by decide) (wp_iload_n dX12_item_43 rfl (wp_is1 dX12_item_44 k11_37 q_X12_isSmall (by decide) (Nat.le_of_ble_eq_true rfl) gs ?_))))))))))))))))))))
        refine wb_if_eq dX12_item_47 rfl (fun c47 => ?_) (fun c47 => absurd c47 (by decide))
        refine wp_iload_n dX12_item_161 rfl (wp_bipush (v := nI 45) dX12_item_162 rfl ?_)
        refine wn_icmp_eq dX12_item_164 rfl (by omega) (by omega) (fun c164 => absurd c164 (by omega)) (fun c164 => ?_)
        refine wp_iload_n dX12_item_167 rfl (wp_bipush (v := nI 64) dX12_item_168 rfl ?_)
        refine wn_icmp_eq dX12_item_170 rfl (by omega) (by omega) (fun c170 => absurd c170 (by omega)) (fun c170 => ?_)
        refine wp_iload_n dX12_item_173 rfl (wp_bipush (v := nI 63) dX12_item_174 rfl ?_)
        refine wn_icmp_ne dX12_item_176 rfl (by omega) (by omega) (fun c176 => ?_) (fun c176 => absurd c176 (by omega))
        exact wp_aload_n dX12_item_183 rfl rfl (wp_iv1 dX12_item_184 k11_204 q_X12_bad (by decide) (xsh hX sh_187) (by decide) (Nat.le_of_ble_eq_true rfl) gbad (wb_ret dX12_item_187 rfl rfl ⟨false, rfl, rfb, qb⟩))
  · have EX : xmi t (min n 240) tm p = .error (1, p) := by unfold xmi; rw [if_pos hge]
    cases hb : decide (240 < n ∧ 240 ≤ p) with
    | true =>
      rw [hb] at gb
      have gbad := m_bad (d + 0) hX hT hp hpm
      have rfb : xFl (xFI q) S (xSI (xSI (S) 187 9 (nI 1)) 187 10 (nI p)) := (rf.SI (Or.inl ⟨rfl, by omega⟩)).SI (Or.inl ⟨rfl, by omega⟩)
      have qb : xIO q S (xSI (xSI (S) 187 9 (nI 1)) 187 10 (nI p)) false (xmi t (min n 240) tm p) := ⟨fun e z h => (by rw [EX] at h; cases h; exact ⟨rfl, xi (xI_same _ _ _ _) (Or.inr (by decide)), xI_same _ _ _ _⟩), fun o' p2 h => (by rw [EX] at h; cases h)⟩
      refine wp_aload_n dX12_item_0 rfl rfl (wp_iv1 dX12_item_1 k11_192 q_X12_isBeyond (by decide) (xsh hX sh_187) (by decide) (Nat.le_of_ble_eq_true rfl) gb ?_)
      refine wb_if_eq dX12_item_4 rfl (fun c4 => absurd c4 (by decide)) (fun c4 => ?_)
      exact wp_aload_n dX12_item_7 rfl rfl (wp_iv1 dX12_item_8 k11_204 q_X12_bad (by decide) (xsh hX sh_187) (by decide) (Nat.le_of_ble_eq_true rfl) gbad (wb_ret dX12_item_11 rfl rfl ⟨false, rfl, rfb, qb⟩))
    | false =>
      have hb' := of_decide_eq_false hb
      rw [hb] at gb
      have gp := m_peek_e (d + 1) hX hT hp (by omega) (by omega)
      have gs := m_isSmall_e (d + 1) (xSI (xSI S 199 (732 + q) (nI p)) 200 (732 + q) (nI 1))
      have F1 : xFl (xFI q) S (xSI (xSI S 199 (732 + q) (nI p)) 200 (732 + q) (nI 1)) := (rf.SI (Or.inr ⟨Or.inr (Or.inl rfl), rfl⟩)).SI (Or.inr ⟨Or.inr (Or.inr rfl), rfl⟩)
      have gbad := m_bad (d + 0) (S := xSI (xSI S 199 (732 + q) (nI p)) 200 (732 + q) (nI 1)) (F1.XC hX) (hT.fr F1 (by unfold xFI; omega) (fun k => by unfold xFI; omega)) (xi (xi hp (Or.inl (by decide))) (Or.inl (by decide))) hpm
      have rfb : xFl (xFI q) S (xSI (xSI (xSI (xSI S 199 (732 + q) (nI p)) 200 (732 + q) (nI 1)) 187 9 (nI 1)) 187 10 (nI p)) := (F1.SI (Or.inl ⟨rfl, by omega⟩)).SI (Or.inl ⟨rfl, by omega⟩)
      have qb : xIO q S (xSI (xSI (xSI (xSI S 199 (732 + q) (nI p)) 200 (732 + q) (nI 1)) 187 9 (nI 1)) 187 10 (nI p)) false (xmi t (min n 240) tm p) := ⟨fun e z h => (by rw [EX] at h; cases h; exact ⟨rfl, xi (xI_same _ _ _ _) (Or.inr (by decide)), xI_same _ _ _ _⟩), fun o' p2 h => (by rw [EX] at h; cases h)⟩
      refine wp_aload_n dX12_item_0 rfl rfl (wp_iv1 dX12_item_1 k11_192 q_X12_isBeyond (by decide) (xsh hX sh_187) (by decide) (Nat.le_of_ble_eq_true rfl) gb ?_)
      refine wb_if_eq dX12_item_4 rfl (fun c4 => ?_) (fun c4 => absurd c4 (by decide))
      refine wp_aload_n dX12_item_12 rfl rfl (wp_iv1 dX12_item_13 k11_24 q_X12_peek (by decide) (xsh hX sh_187) (by decide) (Nat.le_of_ble_eq_true rfl) gp (wp_istore_n dX12_item_16 ⟨Nat.le_of_ble_eq_true rfl, Or.inr rfl⟩ rfl (wp_sipush (v := nI 732) dX12_item_17 rfl (wp_aload_n dX12_item_20 rfl rfl (gv11_195 dX12_item_21 (xsh hX sh_187) h39 (wv_iadd dX12_item_24 (nI_add _ _) (wp_istore_n dX12_item_25 ⟨Nat.le_of_ble_eq_true rfl, Or.inr rfl⟩ rfl (wp_aload_n dX12_item_26 rfl rfl (g11_210 dX12_item_27 (xsh hX sh_187) (xrr hX r187_33) (wp_iload_n dX12_item_30 rfl (wp_aload_n dX12_item_31 rfl rfl (gv11_21 dX12_item_32 (xsh hX sh_187) hp (wn_iastore dX12_item_35 (xsh hX sh_199) rfl (by omega) (by decide) (wp_aload_n dX12_item_36 rfl rfl (g11_213 dX12_item_37 (xsh hX sh_187) (xrr hX r187_34) (wp_iload_n dX12_item_40 rfl (wp_iconst (v := nI 1) dX12_item_41 rfl (wn_iastore dX12_item_42 (xsh hX sh_200) rfl (by omega) (by decide) (wp_iload_n dX12_item_43 rfl (wp_is1 dX12_item_44 k11_37 q_X12_isSmall (by decide) (Nat.le_of_ble_eq_true rfl) gs ?_))))))))))))))))))))
      refine wb_if_eq dX12_item_47 rfl (fun c47 => ?_) (fun c47 => absurd c47 (by decide))
      refine wp_iload_n dX12_item_161 rfl (wp_bipush (v := nI 45) dX12_item_162 rfl ?_)
      refine wp_icmp_eq dX12_item_164 rfl (fun c164 => absurd c164 (by decide)) (fun c164 => ?_)
      refine wp_iload_n dX12_item_167 rfl (wp_bipush (v := nI 64) dX12_item_168 rfl ?_)
      refine wp_icmp_eq dX12_item_170 rfl (fun c170 => absurd c170 (by decide)) (fun c170 => ?_)
      refine wp_iload_n dX12_item_173 rfl (wp_bipush (v := nI 63) dX12_item_174 rfl ?_)
      refine wp_icmp_ne dX12_item_176 rfl (fun c176 => ?_) (fun c176 => absurd c176 (by decide))
      exact wp_aload_n dX12_item_183 rfl rfl (wp_iv1 dX12_item_184 k11_204 q_X12_bad (by decide) (xsh hX sh_187) (by decide) (Nat.le_of_ble_eq_true rfl) gbad (wb_ret dX12_item_187 rfl rfl ⟨false, rfl, rfb, qb⟩))
