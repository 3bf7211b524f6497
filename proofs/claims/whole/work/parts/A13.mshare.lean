/-! shares of the reference: isEven, mend, common, share -/
theorem xwys_le {c : xPx} {ex who : Nat} (ho : xzo c) (h8 : xgH (xzg c) ≤ 8) : xwys c ex who ≤ c.2.2.2.1.length ^ xgH (xzg c) := by
  unfold xwys
  split
  · exact Nat.le_refl _
  · exact xVw_le ho _ _ _ _ (by omega) (xgd_0 ho)
theorem xwys_lt {c : xPx} {ex who : Nat} (ho : xzo c) (h8 : xgH (xzg c) ≤ 8) : xwys c ex who ≤ 390625 := Nat.le_trans (xwys_le ho h8) (xpow_le ho.2.2.1.2.1 ho.2.2.1.1 h8)
theorem ie_loop {c : xPx} {ex d : Nat} {B : Nat → Bool} (ho : xzo c) (ha : xzal c = true) (h8 : xgH (xzg c) ≤ 8) (hex : ex ≤ 1000) : ∀ (j k : Nat) (S : xS), 1 ≤ k → k + j = xgP (xzg c) → (∀ q, q < k → xwys c ex q = xwys c ex 0) → XC S → xMpd S c ex → xMK S c ex B → Wp false (d + 6) 11 cX12_isEven (some .boolean) false 12 [.ref 187, .int (nI (xwys c ex 0)), .int (nI k)] [] S (fun r S' => ∃ b, r = some (.int (xB b)) ∧ xFl (fun i q => (i = 187 ∧ 61 ≤ q ∧ q ≤ 70) ∨ i = 216 ∨ i = 221) S S' ∧ (b = true ↔ (∀ k, k < xgP (xzg c) → xwys c ex k = xwys c ex 0))) := by
  have hP : xgP (xzg c) ≤ 12 := ho.g.2.1
  have hw0 := xwys_lt (ex := ex) (who := 0) ho h8
  intro j
  induction j with
  | zero =>
    intro k S h1 hk hq hX hD hB
    have k30 : S.2.1 187 30 = nI (xgP (xzg c)) := hD.2.2.2.2.2.2.2.2.1
    have hkk : k = xgP (xzg c) := by omega
    subst hkk
    have fin : ∃ b, some (Value.int (xB true)) = some (Value.int (xB b)) ∧ xFl (fun i q => (i = 187 ∧ 61 ≤ q ∧ q ≤ 70) ∨ i = 216 ∨ i = 221) S S ∧ (b = true ↔ (∀ k, k < xgP (xzg c) → xwys c ex k = xwys c ex 0)) := ⟨true, rfl, xFl.rf S, fun _ => hq, fun _ => rfl⟩
    refine wp_iload_n dX12_isEven_12 rfl (wp_aload_n dX12_isEven_13 rfl rfl (gv11_183 dX12_isEven_14 (xsh hX sh_187) k30 ?_))
    refine wn_icmp_ge dX12_isEven_17 rfl (by omega) (by omega) (fun c17 => ?_) (fun c17 => absurd c17 (by omega))
    exact wp_iconst (v := nI 1) dX12_isEven_37 rfl (wb_ret dX12_isEven_38 rfl rfl fin)
  | succ j ih =>
    intro k S h1 hk hq hX hD hB
    have k30 : S.2.1 187 30 = nI (xgP (xzg c)) := hD.2.2.2.2.2.2.2.2.1
    have hw := xwys_lt (ex := ex) (who := k) ho h8
    obtain ⟨S1, g1, f1⟩ := m_waysOf (who := k) (d + 1) ho ha h8 hex (by omega) hX hD hB
    have X1 := f1.XC hX
    rcases Decidable.em (xwys c ex k = xwys c ex 0) with w | w
    · have nx := (ih (k + 1) S1 (by omega) (by omega) (fun q h => by
        rcases Nat.lt_or_ge q k with z | z
        · exact hq q z
        · rw [show q = k by omega]; exact w) X1 (hD.fr ho f1 (fun i q h => by omega)) (hB.fr f1 (fun x h => by omega))).mono (Q' := (fun r S' => ∃ b, r = some (.int (xB b)) ∧ xFl (fun i q => (i = 187 ∧ 61 ≤ q ∧ q ≤ 70) ∨ i = 216 ∨ i = 221) S S' ∧ (b = true ↔ (∀ k, k < xgP (xzg c) → xwys c ex k = xwys c ex 0)))) (fun r S' z => by
        obtain ⟨b, z1, z2, z3⟩ := z
        exact ⟨b, z1, f1.tt z2, z3⟩)
      refine wp_iload_n dX12_isEven_12 rfl (wp_aload_n dX12_isEven_13 rfl rfl (gv11_183 dX12_isEven_14 (xsh hX sh_187) k30 ?_))
      refine wn_icmp_ge dX12_isEven_17 rfl (by omega) (by omega) (fun c17 => absurd c17 (by omega)) (fun c17 => ?_)
      refine wp_aload_n dX12_isEven_20 rfl rfl (wp_iload_n dX12_isEven_21 rfl (wp_iv2 dX12_isEven_22 k11_518 q_X12_waysOf (by decide) (xsh hX sh_187) (by decide) (Nat.le_of_ble_eq_true rfl) g1 (wp_iload_n dX12_isEven_25 rfl ?_)))
      refine wn_icmp_eq dX12_isEven_26 rfl (by omega) (by omega) (fun c26 => ?_) (fun c26 => absurd c26 (by omega))
      exact wp_iinc dX12_isEven_31 rfl (nI_1 _) ⟨Nat.le_of_ble_eq_true rfl, Or.inr rfl⟩ rfl (wp_goto dX12_isEven_34 rfl nx)
    · have fin : ∃ b, some (Value.int (xB false)) = some (Value.int (xB b)) ∧ xFl (fun i q => (i = 187 ∧ 61 ≤ q ∧ q ≤ 70) ∨ i = 216 ∨ i = 221) S S1 ∧ (b = true ↔ (∀ k, k < xgP (xzg c) → xwys c ex k = xwys c ex 0)) := ⟨false, rfl, f1, fun h => (by cases h), fun h => absurd (h k (by omega)) w⟩
      refine wp_iload_n dX12_isEven_12 rfl (wp_aload_n dX12_isEven_13 rfl rfl (gv11_183 dX12_isEven_14 (xsh hX sh_187) k30 ?_))
      refine wn_icmp_ge dX12_isEven_17 rfl (by omega) (by omega) (fun c17 => absurd c17 (by omega)) (fun c17 => ?_)
      refine wp_aload_n dX12_isEven_20 rfl rfl (wp_iload_n dX12_isEven_21 rfl (wp_iv2 dX12_isEven_22 k11_518 q_X12_waysOf (by decide) (xsh hX sh_187) (by decide) (Nat.le_of_ble_eq_true rfl) g1 (wp_iload_n dX12_isEven_25 rfl ?_)))
      refine wn_icmp_eq dX12_isEven_26 rfl (by omega) (by omega) (fun c26 => absurd c26 (by omega)) (fun c26 => ?_)
      exact wp_iconst (v := nI 0) dX12_isEven_29 rfl (wb_ret dX12_isEven_30 rfl rfl fin)
theorem m_isEven {c : xPx} {ex : Nat} (d : Nat) (ho : xzo c) (ha : xzal c = true) (h8 : xgH (xzg c) ≤ 8) (hex : ex ≤ 1000) {S : xS} (hX : XC S) (hD : xMpd S c ex) : ∃ b S', xcall false (d + 6) j_X12_isEven [.ref 187] S (some (.int (xB b))) S' ∧ xFl (fun i q => (i = 187 ∧ 61 ≤ q ∧ q ≤ 70) ∨ i = 216 ∨ i = 220 ∨ i = 221) S S' ∧ (b = true ↔ (∀ k, k < xgP (xzg c) → xwys c ex k = xwys c ex 0)) := by
  obtain ⟨S1, g1, f1, B, hB⟩ := m_mark (d + 0) ho ha h8 hex hX hD
  have X1 := f1.XC hX
  have D1 := hD.fr ho f1 (fun i q h => by omega)
  have hP1 : 1 ≤ xgP (xzg c) := ho.g.1
  obtain ⟨S2, g2, f2⟩ := m_waysOf (who := 0) (d + 1) ho ha h8 hex (by decide) X1 D1 hB
  have X2 := f2.XC X1
  have lp := ie_loop (d := d) (B := B) ho ha h8 hex (xgP (xzg c) - 1) 1 S2 (Nat.le_refl _) (by omega) (fun q h => by rw [show q = 0 by omega]) X2 (D1.fr ho f2 (fun i q h => by omega)) (hB.fr f2 (fun x h => by omega))
  obtain ⟨r, S', g3, b, rfl, z1, z2⟩ := xcall_some (al := false) (d := d + 6) (ls := [.ref 187, .float 0, .float 0]) (S := S) (as := [.ref 187]) q_X12_isEven (by decide) rfl (Nat.le_of_ble_eq_true rfl) rfl (P := (fun r S' => ∃ b, r = some (.int (xB b)) ∧ xFl (fun i q => (i = 187 ∧ 61 ≤ q ∧ q ≤ 70) ∨ i = 216 ∨ i = 221) S2 S' ∧ (b = true ↔ (∀ k, k < xgP (xzg c) → xwys c ex k = xwys c ex 0)))) (by
      exact wp_aload_n dX12_isEven_0 rfl rfl (wp_iv1 dX12_isEven_1 k11_503 q_X12_mark (by decide) (xsh hX sh_187) (by decide) (Nat.le_of_ble_eq_true rfl) g1 (wp_aload_n dX12_isEven_4 rfl rfl (wp_iconst (v := nI 0) dX12_isEven_5 rfl (wp_iv2 dX12_isEven_6 k11_518 q_X12_waysOf (by decide) (xsh X1 sh_187) (by decide) (Nat.le_of_ble_eq_true rfl) g2 (wp_istore_n dX12_isEven_9 ⟨Nat.le_of_ble_eq_true rfl, Or.inr rfl⟩ rfl (wp_iconst (v := nI 1) dX12_isEven_10 rfl (wp_istore_n dX12_isEven_11 ⟨Nat.le_of_ble_eq_true rfl, Or.inr rfl⟩ rfl lp))))))))
  exact ⟨b, S', g3, ((f1.mono (fun i q h => by omega)).tt (f2.mono (fun i q h => by omega))).tt (z1.mono (fun i q h => by omega)), z2⟩
theorem xMpd.ex {S : xS} {c : xPx} {e : Nat} (h : xMpd S c e) (ho : xzo c) (n : Nat) : xMpd (xSI S 187 59 (nI n)) c n := by
  have F : xFl (fun i k => i = 187 ∧ k = 59) S (xSI S 187 59 (nI n)) := (xFl.rf S).SI ⟨rfl, rfl⟩
  have h' : xMpd (xSI S 187 59 (S.2.1 187 59)) c e := by
    have F' : xFl (fun _ _ => False) S (xSI S 187 59 (S.2.1 187 59)) := ⟨rfl, rfl, fun a k _ => by
      rcases Decidable.em (a = 187 ∧ k = 59) with w | w
      · obtain ⟨rfl, rfl⟩ := w; exact xI_same _ _ _ _
      · exact xI_ne _ _ (by omega)⟩
    exact h.fr ho F' (fun i q _ w => w)
  obtain ⟨h1, h2, h3, h4, h5, h6, h7, h8, h9, h10, h11⟩ := h
  refine ⟨F.i h1 (by omega), F.i h2 (by omega), xI_same _ _ _ _, fun i hi => F.i (h4 i hi) (by omega), fun p hp => F.i (h5 p hp) (by omega), fun i hi => ?_, h7.fr F (fun i k h => by omega), ⟨fun i hi => F.i (h8.1 i hi) (by omega), F.i h8.2 (by omega)⟩, F.i h9 (by omega), F.i h10 (by omega), fun a ha => F.i (h11 a ha) (by omega)⟩
  have h6' := ho.1.2.2.2.2 _ (xmem_getD (d := 0) hi)
  refine (h6 i hi).fr F (fun n t L e => ?_) (fun i q hq => by unfold xFs at hq; omega)
  have := (h7 _ h6').2 n t L e
  exact ⟨this.2.2.2.2, this.2.2.2.1⟩
/-- the first RESTS that make it even -/
def xmnd (p : Nat → Bool) : Nat → Nat → Int32
  | 0, _ => -1
  | j + 1, n => if p n = true then nI n else xmnd p j (n + 1)
def xevn (c : xPx) (ex : Nat) : Bool := decide (∀ k, k < xgP (xzg c) → xwys c ex k = xwys c ex 0)
theorem men_loop {c : xPx} {d : Nat} (ho : xzo c) (ha : xzal c = true) (h8 : xgH (xzg c) ≤ 8) : ∀ (j n e : Nat) (S : xS), n + j = 41 → XC S → xMpd S c e → Wp false (d + 7) 11 cX12_mend (some .int) false 17 [.ref 187, .int (nI n)] [] S (fun r S' => r = some (.int (xmnd (xevn c) j n)) ∧ xFl (fun i k => (i = 187 ∧ (k = 0 ∨ (58 ≤ k ∧ k ≤ 70))) ∨ (212 ≤ i ∧ i ≤ 218) ∨ i = 220 ∨ i = 221) S S') := by
  intro j
  induction j with
  | zero =>
    intro n e S hn hX hD
    have hnn : n = 41 := by omega
    subst hnn
    refine wp_iload_n dX12_mend_17 rfl (wp_bipush (v := nI 40) dX12_mend_18 rfl ?_)
    refine wn_icmp_gt dX12_mend_20 rfl (by omega) (by omega) (fun c20 => ?_) (fun c20 => absurd c20 (by omega))
    exact wp_iconst (v := -1) dX12_mend_43 rfl (wp_ireturn dX12_mend_44 rfl rfl ⟨rfl, xFl.rf S⟩)
  | succ j ih =>
    intro n e S hn hX hD
    have F0 : xFl (fun i k => (i = 187 ∧ (k = 0 ∨ (58 ≤ k ∧ k ≤ 70))) ∨ (212 ≤ i ∧ i ≤ 218) ∨ i = 220 ∨ i = 221) S (xSI S 187 59 (nI n)) := (xFl.rf S).SI (by omega)
    have X0 := F0.XC hX
    have D0 := hD.ex ho n
    obtain ⟨b, S1, g1, f1, hb⟩ := m_isEven (d + 0) ho ha h8 (show n ≤ 1000 by omega) X0 D0
    have X1 := f1.XC X0
    have FF : xFl (fun i k => (i = 187 ∧ (k = 0 ∨ (58 ≤ k ∧ k ≤ 70))) ∨ (212 ≤ i ∧ i ≤ 218) ∨ i = 220 ∨ i = 221) S S1 := F0.tt (f1.mono (fun i q h => by omega))
    have eb : xevn c n = b := by
      unfold xevn
      cases b with
      | true => exact decide_eq_true (hb.mp rfl)
      | false => exact decide_eq_false (fun h => by have := hb.mpr h; cases this)
    rw [xmnd, eb]
    cases b with
    | true =>
      rw [if_pos rfl]
      refine wp_iload_n dX12_mend_17 rfl (wp_bipush (v := nI 40) dX12_mend_18 rfl ?_)
      refine wn_icmp_gt dX12_mend_20 rfl (by omega) (by omega) (fun c20 => absurd c20 (by omega)) (fun c20 => ?_)
      refine wp_aload_n dX12_mend_23 rfl rfl (wp_iload_n dX12_mend_24 rfl (p11_388 dX12_mend_25 (xsh hX sh_187) (wp_aload_n dX12_mend_28 rfl rfl (wp_iv1 dX12_mend_29 k11_524 q_X12_isEven (by decide) (xsh hX sh_187) (by decide) (Nat.le_of_ble_eq_true rfl) g1 ?_))))
      refine wb_if_eq dX12_mend_32 rfl (fun c32 => absurd c32 (by decide)) (fun c32 => ?_)
      exact wp_iload_n dX12_mend_35 rfl (wp_ireturn dX12_mend_36 rfl rfl ⟨rfl, FF⟩)
    | false =>
      rw [if_neg (by decide)]
      have nx := (ih (n + 1) n S1 (by omega) X1 (D0.fr ho f1 (fun i q h => by omega))).mono (Q' := (fun r S' => r = some (.int (xmnd (xevn c) j (n + 1))) ∧ xFl (fun i k => (i = 187 ∧ (k = 0 ∨ (58 ≤ k ∧ k ≤ 70))) ∨ (212 ≤ i ∧ i ≤ 218) ∨ i = 220 ∨ i = 221) S S')) (fun r S' z => ⟨z.1, FF.tt z.2⟩)
      refine wp_iload_n dX12_mend_17 rfl (wp_bipush (v := nI 40) dX12_mend_18 rfl ?_)
      refine wn_icmp_gt dX12_mend_20 rfl (by omega) (by omega) (fun c20 => absurd c20 (by omega)) (fun c20 => ?_)
      refine wp_aload_n dX12_mend_23 rfl rfl (wp_iload_n dX12_mend_24 rfl (p11_388 dX12_mend_25 (xsh hX sh_187) (wp_aload_n dX12_mend_28 rfl rfl (wp_iv1 dX12_mend_29 k11_524 q_X12_isEven (by decide) (xsh hX sh_187) (by decide) (Nat.le_of_ble_eq_true rfl) g1 ?_))))
      refine wb_if_eq dX12_mend_32 rfl (fun c32 => ?_) (fun c32 => absurd c32 (by decide))
      exact wp_iinc dX12_mend_37 rfl (nI_1 _) ⟨Nat.le_of_ble_eq_true rfl, Or.inr rfl⟩ rfl (wp_goto dX12_mend_40 rfl nx)
theorem m_mend_no {c : xPx} (d : Nat) (ho : xzo c) {S : xS} (h : xMS S c) (hno : ¬ (xzal c = true ∧ xgH (xzg c) ≤ 8)) : ∃ S', xcall false (d + 8) j_X12_mend [.ref 187] S (some (.int (-1))) S' ∧ xFl (fun i k => (i = 187 ∧ (k = 0 ∨ (58 ≤ k ∧ k ≤ 70))) ∨ (212 ≤ i ∧ i ≤ 218) ∨ i = 220 ∨ i = 221) S S' := by
  have hX := h.1
  have F0 : xFl (fun i k => i = 187 ∧ k = 0) S (xSI S 187 0 (nI 0)) := (xFl.rf S).SI ⟨rfl, rfl⟩
  have h0 := h.fr F0 (fun i q w => by omega)
  obtain ⟨b, S1, g1, f1, hb, hD⟩ := m_mayPlay (see := nI 0) (d + 1) ho h0
  have X1 := f1.XC h0.1
  have ppos := Nat.two_pow_pos (xgP (xzg c))
  have FA := (F0.mono (Q := (fun i k => (i = 187 ∧ (k = 0 ∨ (58 ≤ k ∧ k ≤ 70))) ∨ (212 ≤ i ∧ i ≤ 218) ∨ i = 220 ∨ i = 221)) (fun i k w => by omega)).tt (f1.mono (fun i k w => by omega))
  have hb0 : b = false := by
    cases b with
    | false => rfl
    | true => exact absurd ⟨(hb.mp rfl).1, (hb.mp rfl).2.1⟩ hno
  subst hb0
  refine ⟨_, ?_, FA⟩
  refine xcall_intro (ls := [.ref 187, .float 0]) q_X12_mend (by decide) rfl (Nat.le_of_ble_eq_true rfl) rfl ?_
  refine wp_aload_n dX12_mend_0 rfl rfl (wp_iconst (v := nI 0) dX12_mend_1 rfl (p11_1 dX12_mend_2 (xsh hX sh_187) (wp_aload_n dX12_mend_5 rfl rfl (wp_iconst (v := nI 0) dX12_mend_6 rfl (wp_iv2 dX12_mend_7 k11_509 q_X12_mayPlay (by decide) (xsh hX sh_187) (by decide) (Nat.le_of_ble_eq_true rfl) g1 ?_)))))
  refine wb_if_ne dX12_mend_10 rfl (fun c10 => absurd c10 (by decide)) (fun c10 => ?_)
  exact wp_iconst (v := -1) dX12_mend_13 rfl (wp_ireturn dX12_mend_14 rfl rfl ⟨rfl, rfl⟩)
theorem m_mend {c : xPx} (d : Nat) (ho : xzo c) {S : xS} (h : xMS S c) (ha : xzal c = true) (h8 : xgH (xzg c) ≤ 8) : ∃ S', xcall false (d + 8) j_X12_mend [.ref 187] S (some (.int (xmnd (xevn c) 41 0))) S' ∧ xFl (fun i k => (i = 187 ∧ (k = 0 ∨ (58 ≤ k ∧ k ≤ 70))) ∨ (212 ≤ i ∧ i ≤ 218) ∨ i = 220 ∨ i = 221) S S' := by
  have hX := h.1
  have F0 : xFl (fun i k => i = 187 ∧ k = 0) S (xSI S 187 0 (nI 0)) := (xFl.rf S).SI ⟨rfl, rfl⟩
  have h0 := h.fr F0 (fun i q w => by omega)
  obtain ⟨b, S1, g1, f1, hb, hD⟩ := m_mayPlay (see := nI 0) (d + 1) ho h0
  have X1 := f1.XC h0.1
  have ppos := Nat.two_pow_pos (xgP (xzg c))
  have FA := (F0.mono (Q := (fun i k => (i = 187 ∧ (k = 0 ∨ (58 ≤ k ∧ k ≤ 70))) ∨ (212 ≤ i ∧ i ≤ 218) ∨ i = 220 ∨ i = 221)) (fun i k w => by omega)).tt (f1.mono (fun i k w => by omega))
  have hb0 : b = true := hb.mpr ⟨ha, h8, 0, ppos, rfl⟩
  subst hb0
  have lp := men_loop (d := d + 1) ho ha h8 41 0 0 S1 rfl X1 (hD rfl)
  obtain ⟨r, S', g3, rfl, z⟩ := xcall_some (al := false) (d := d + 8) (ls := [.ref 187, .float 0]) (S := S) (as := [.ref 187]) q_X12_mend (by decide) rfl (Nat.le_of_ble_eq_true rfl) rfl (P := (fun r S' => r = some (.int (xmnd (xevn c) 41 0)) ∧ xFl (fun i k => (i = 187 ∧ (k = 0 ∨ (58 ≤ k ∧ k ≤ 70))) ∨ (212 ≤ i ∧ i ≤ 218) ∨ i = 220 ∨ i = 221) S1 S')) (by
      refine wp_aload_n dX12_mend_0 rfl rfl (wp_iconst (v := nI 0) dX12_mend_1 rfl (p11_1 dX12_mend_2 (xsh hX sh_187) (wp_aload_n dX12_mend_5 rfl rfl (wp_iconst (v := nI 0) dX12_mend_6 rfl (wp_iv2 dX12_mend_7 k11_509 q_X12_mayPlay (by decide) (xsh hX sh_187) (by decide) (Nat.le_of_ble_eq_true rfl) g1 ?_)))))
      refine wb_if_ne dX12_mend_10 rfl (fun c10 => ?_) (fun c10 => absurd c10 (by decide))
      exact wp_iconst (v := nI 0) dX12_mend_15 rfl (wp_istore_n dX12_mend_16 ⟨Nat.le_of_ble_eq_true rfl, Or.inr rfl⟩ rfl lp))
  exact ⟨S', g3, FA.tt z⟩
theorem co_loop {d : Nat} {x0 : Value} {x1 : Int32} {S : xS} : ∀ (j x y : Nat) (y4 : Value), y ≤ j → x < 2 ^ 30 → y < 2 ^ 30 → Wp false d 11 cX12_common (some .int) false 4 [x0, .int x1, .int (nI x), .int (nI y), y4] [] S (fun r S' => r = some (.int (nI (Nat.gcd x y))) ∧ S' = S) := by
  intro j
  induction j with
  | zero =>
    intro x y y4 hj hx hy
    have hyy : y = 0 := by omega
    subst hyy
    rw [Nat.gcd_zero_right]
    refine wp_iload_n dX12_common_4 rfl ?_
    refine wn_if_eq dX12_common_5 rfl (by omega) (fun c5 => ?_) (fun c5 => absurd c5 (by omega))
    exact wp_iload_n dX12_common_21 rfl (wp_ireturn dX12_common_22 rfl rfl ⟨rfl, rfl⟩)
  | succ j ih =>
    intro x y y4 hj hx hy
    rcases Nat.eq_zero_or_pos y with w | w
    · subst w
      rw [Nat.gcd_zero_right]
      refine wp_iload_n dX12_common_4 rfl ?_
      refine wn_if_eq dX12_common_5 rfl (by omega) (fun c5 => ?_) (fun c5 => absurd c5 (by omega))
      exact wp_iload_n dX12_common_21 rfl (wp_ireturn dX12_common_22 rfl rfl ⟨rfl, rfl⟩)
    · have hm := Nat.mod_lt x w
      have nx := ih y (x % y) (.int (nI (x % y))) (by omega) hy (by omega)
      rw [show Nat.gcd y (x % y) = Nat.gcd x y by rw [Nat.gcd_comm y, ← Nat.gcd_rec, Nat.gcd_comm]] at nx
      refine wp_iload_n dX12_common_4 rfl ?_
      refine wn_if_eq dX12_common_5 rfl (by omega) (fun c5 => absurd c5 (by omega)) (fun c5 => ?_)
      exact wp_iload_n dX12_common_8 rfl (wp_iload_n dX12_common_9 rfl (wv_irem dX12_common_10 (nI_n0 (by omega) (by omega)) (pk_rem (by omega) (by omega) (by omega)) (wp_istore dX12_common_11 ⟨Nat.le_of_ble_eq_true rfl, Or.inr rfl⟩ rfl (wp_iload_n dX12_common_13 rfl (wp_istore_n dX12_common_14 ⟨Nat.le_of_ble_eq_true rfl, Or.inr rfl⟩ rfl (wp_iload dX12_common_15 rfl (wp_istore_n dX12_common_17 ⟨Nat.le_of_ble_eq_true rfl, Or.inr rfl⟩ rfl (wp_goto dX12_common_18 rfl nx))))))))
theorem m_common {x y : Nat} (d : Nat) (hx : x < 2 ^ 30) (hy : y < 2 ^ 30) {S : xS} : xcall false d j_X12_common [.int (nI x), .int (nI y)] S (some (.int (nI (Nat.gcd x y)))) S := by
  refine xcall_intro (ls := [.int (nI x), .int (nI y), .float 0, .float 0, .float 0]) q_X12_common (by decide) rfl (Nat.le_of_ble_eq_true rfl) rfl ?_
  exact wp_iload_n dX12_common_0 rfl (wp_istore_n dX12_common_1 ⟨Nat.le_of_ble_eq_true rfl, Or.inr rfl⟩ rfl (wp_iload_n dX12_common_2 rfl (wp_istore_n dX12_common_3 ⟨Nat.le_of_ble_eq_true rfl, Or.inr rfl⟩ rfl (co_loop y x y _ (Nat.le_refl _) hx hy))))
theorem m_throwsIf (b : Bool) (d : Nat) {S : xS} (hX : XC S) : xcall false d j_X12_throwsIf [.ref 187, .int (xB b)] S (some (.int (xB b))) (xSI S 187 0 (nI (if b = true then 1 else 0))) := by
  cases b with
  | true =>
    refine xcall_intro (ls := [.ref 187, .int (xB true)]) q_X12_throwsIf (by decide) rfl (Nat.le_of_ble_eq_true rfl) rfl ?_
    refine wp_aload_n dX12_throwsIf_0 rfl rfl (wp_iload_n dX12_throwsIf_1 rfl ?_)
    refine wb_if_eq dX12_throwsIf_2 rfl (fun c2 => absurd c2 (by decide)) (fun c2 => ?_)
    exact wp_iconst (v := nI 1) dX12_throwsIf_5 rfl (wp_goto dX12_throwsIf_6 rfl (p11_1 dX12_throwsIf_10 (xsh hX sh_187) (wp_iload_n dX12_throwsIf_13 rfl (wb_ret dX12_throwsIf_14 rfl rfl ⟨rfl, rfl⟩))))
  | false =>
    refine xcall_intro (ls := [.ref 187, .int (xB false)]) q_X12_throwsIf (by decide) rfl (Nat.le_of_ble_eq_true rfl) rfl ?_
    refine wp_aload_n dX12_throwsIf_0 rfl rfl (wp_iload_n dX12_throwsIf_1 rfl ?_)
    refine wb_if_eq dX12_throwsIf_2 rfl (fun c2 => ?_) (fun c2 => absurd c2 (by decide))
    exact wp_iconst (v := nI 0) dX12_throwsIf_9 rfl (p11_1 dX12_throwsIf_10 (xsh hX sh_187) (wp_iload_n dX12_throwsIf_13 rfl (wb_ret dX12_throwsIf_14 rfl rfl ⟨rfl, rfl⟩)))
theorem m_share_no {c : xPx} {who wh : Int32} (d : Nat) (ho : xzo c) {S : xS} (h : xMS S c) (hno : ¬ (xzal c = true ∧ xgH (xzg c) ≤ 8 ∧ (∃ p, p < xgP (xzg c) ∧ who = nI p) ∧ (wh = nI 0 ∨ wh = nI 1))) : ∃ S', xcall false (d + 7) j_X12_share [.ref 187, .int who, .int wh] S (some (.int (nI 0))) S' ∧ xFl (fun i k => (i = 187 ∧ (k = 0 ∨ (58 ≤ k ∧ k ≤ 70))) ∨ (212 ≤ i ∧ i ≤ 218) ∨ i = 220 ∨ i = 221) S S' ∧ S'.2.1 187 0 = nI 1 := by
  have hX := h.1
  obtain ⟨b, S1, g1, f1, hb, hD⟩ := m_mayPlay (see := nI 0) (d + 0) ho h
  have X1 := f1.XC hX
  have ppos := Nat.two_pow_pos (xgP (xzg c))
  have hP : c.2.2.1.length ≤ 12 := ho.g.2.1
  have k30 := h.2.2.2.2.1.2.1
  have done : ∀ S2, XC S2 → xFl (fun i k => (i = 187 ∧ (k = 0 ∨ (58 ≤ k ∧ k ≤ 70))) ∨ (212 ≤ i ∧ i ≤ 218) ∨ i = 220 ∨ i = 221) S S2 → Wp false (d + 7) 11 cX12_share (some .int) false 30 [.ref 187, .int who, .int wh, .float 0, .float 0, .float 0] [.ref 187] S2 (fun r S' => r = some (.int (nI 0)) ∧ xFl (fun i k => (i = 187 ∧ (k = 0 ∨ (58 ≤ k ∧ k ≤ 70))) ∨ (212 ≤ i ∧ i ≤ 218) ∨ i = 220 ∨ i = 221) S S' ∧ S'.2.1 187 0 = nI 1) := by
    intro S2 X2 F2
    have gt := m_throwsIf true (d + 6) X2
    have F3 : xFl (fun i k => (i = 187 ∧ (k = 0 ∨ (58 ≤ k ∧ k ≤ 70))) ∨ (212 ≤ i ∧ i ≤ 218) ∨ i = 220 ∨ i = 221) S (xSI S2 187 0 (nI 1)) := F2.SI (by omega)
    refine wp_iconst (v := nI 1) dX12_share_30 rfl (wp_goto dX12_share_31 rfl (wp_iv2 dX12_share_35 k11_251 q_X12_throwsIf (by decide) (xsh X2 sh_187) (by decide) (Nat.le_of_ble_eq_true rfl) gt ?_))
    refine wb_if_eq dX12_share_38 rfl (fun c38 => absurd c38 (by decide)) (fun c38 => ?_)
    exact wp_iconst (v := nI 0) dX12_share_41 rfl (wp_ireturn dX12_share_42 rfl rfl ⟨rfl, F3, xI_same _ _ _ _⟩)
  have dn0 := done S hX (xFl.rf S)
  obtain ⟨r, S', g2, rfl, z⟩ := xcall_some (al := false) (d := d + 7) (ls := [.ref 187, .int who, .int wh, .float 0, .float 0, .float 0]) (S := S) (as := [.ref 187, .int who, .int wh]) q_X12_share (by decide) rfl (Nat.le_of_ble_eq_true rfl) rfl (P := (fun r S' => r = some (.int (nI 0)) ∧ xFl (fun i k => (i = 187 ∧ (k = 0 ∨ (58 ≤ k ∧ k ≤ 70))) ∨ (212 ≤ i ∧ i ≤ 218) ∨ i = 220 ∨ i = 221) S S' ∧ S'.2.1 187 0 = nI 1)) (by
    rcases Decidable.em (who < 0) with w | w
    · skip
      refine wp_aload_n dX12_share_0 rfl rfl (wp_iload_n dX12_share_1 rfl ?_)
      refine wp_if_lt dX12_share_2 rfl (fun c2 => ?_) (fun c2 => absurd c2 (not_not_intro w))
      exact dn0
    · obtain ⟨p, hp, rfl⟩ := nI_of w
      rcases Nat.lt_or_ge p c.2.2.1.length with w2 | w2
      · rcases Decidable.em (wh < 0) with w3 | w3
        · skip
          refine wp_aload_n dX12_share_0 rfl rfl (wp_iload_n dX12_share_1 rfl ?_)
          refine wn_if_lt dX12_share_2 rfl (by omega) ?_
          refine wp_iload_n dX12_share_5 rfl (wp_aload_n dX12_share_6 rfl rfl (gv11_183 dX12_share_7 (xsh hX sh_187) k30 ?_))
          refine wn_icmp_ge dX12_share_10 rfl (by omega) (by omega) (fun c10 => absurd c10 (by omega)) (fun c10 => ?_)
          refine wp_iload_n dX12_share_13 rfl ?_
          refine wp_if_lt dX12_share_14 rfl (fun c14 => ?_) (fun c14 => absurd c14 (not_not_intro w3))
          exact dn0
        · obtain ⟨q, hq, rfl⟩ := nI_of w3
          rcases Nat.lt_or_ge 1 q with w4 | w4
          · skip
            refine wp_aload_n dX12_share_0 rfl rfl (wp_iload_n dX12_share_1 rfl ?_)
            refine wn_if_lt dX12_share_2 rfl (by omega) ?_
            refine wp_iload_n dX12_share_5 rfl (wp_aload_n dX12_share_6 rfl rfl (gv11_183 dX12_share_7 (xsh hX sh_187) k30 ?_))
            refine wn_icmp_ge dX12_share_10 rfl (by omega) (by omega) (fun c10 => absurd c10 (by omega)) (fun c10 => ?_)
            refine wp_iload_n dX12_share_13 rfl ?_
            refine wn_if_lt dX12_share_14 rfl (by omega) ?_
            refine wp_iload_n dX12_share_17 rfl (wp_iconst (v := nI 1) dX12_share_18 rfl ?_)
            refine wn_icmp_gt dX12_share_19 rfl (by omega) (by omega) (fun c19 => ?_) (fun c19 => absurd c19 (by omega))
            exact dn0
          · have hb0 : b = false := by
              cases b with
              | false => rfl
              | true => exact absurd ⟨(hb.mp rfl).1, (hb.mp rfl).2.1, ⟨p, w2, rfl⟩, by rcases (show q = 0 ∨ q = 1 by omega) with e | e <;> rw [e] <;> simp⟩ hno
            subst hb0
            have dn1 := done S1 X1 (f1.mono (fun i q h => by omega))
            refine wp_aload_n dX12_share_0 rfl rfl (wp_iload_n dX12_share_1 rfl ?_)
            refine wn_if_lt dX12_share_2 rfl (by omega) ?_
            refine wp_iload_n dX12_share_5 rfl (wp_aload_n dX12_share_6 rfl rfl (gv11_183 dX12_share_7 (xsh hX sh_187) k30 ?_))
            refine wn_icmp_ge dX12_share_10 rfl (by omega) (by omega) (fun c10 => absurd c10 (by omega)) (fun c10 => ?_)
            refine wp_iload_n dX12_share_13 rfl ?_
            refine wn_if_lt dX12_share_14 rfl (by omega) ?_
            refine wp_iload_n dX12_share_17 rfl (wp_iconst (v := nI 1) dX12_share_18 rfl ?_)
            refine wn_icmp_gt dX12_share_19 rfl (by omega) (by omega) (fun c19 => absurd c19 (by omega)) (fun c19 => ?_)
            refine wp_aload_n dX12_share_22 rfl rfl (wp_iconst (v := nI 0) dX12_share_23 rfl (wp_iv2 dX12_share_24 k11_509 q_X12_mayPlay (by decide) (xsh hX sh_187) (by decide) (Nat.le_of_ble_eq_true rfl) g1 ?_))
            refine wb_if_ne dX12_share_27 rfl (fun c27 => absurd c27 (by decide)) (fun c27 => ?_)
            exact dn1
      · skip
        refine wp_aload_n dX12_share_0 rfl rfl (wp_iload_n dX12_share_1 rfl ?_)
        refine wn_if_lt dX12_share_2 rfl (by omega) ?_
        refine wp_iload_n dX12_share_5 rfl (wp_aload_n dX12_share_6 rfl rfl (gv11_183 dX12_share_7 (xsh hX sh_187) k30 ?_))
        refine wn_icmp_ge dX12_share_10 rfl (by omega) (by omega) (fun c10 => ?_) (fun c10 => absurd c10 (by omega))
        exact dn0)
  exact ⟨S', g2, z⟩
theorem m_share {c : xPx} {p w : Nat} (d : Nat) (ho : xzo c) {S : xS} (h : xMS S c) (ha : xzal c = true) (h8 : xgH (xzg c) ≤ 8) (hp : p < xgP (xzg c)) (hw : w ≤ 1) : ∃ S', xcall false (d + 7) j_X12_share [.ref 187, .int (nI p), .int (nI w)] S (some (.int (nI (if w = 0 then xwys c 0 p / Nat.gcd (xwys c 0 p) (c.2.2.2.1.length ^ xgH (xzg c)) else c.2.2.2.1.length ^ xgH (xzg c) / Nat.gcd (xwys c 0 p) (c.2.2.2.1.length ^ xgH (xzg c)))))) S' ∧ xFl (fun i k => (i = 187 ∧ (k = 0 ∨ (58 ≤ k ∧ k ≤ 70))) ∨ (212 ≤ i ∧ i ≤ 218) ∨ i = 220 ∨ i = 221) S S' ∧ S'.2.1 187 0 = nI 0 := by
  have hX := h.1
  obtain ⟨b, S1, g1, f1, hb, hD⟩ := m_mayPlay (see := nI 0) (d + 0) ho h
  have X1 := f1.XC hX
  have ppos := Nat.two_pow_pos (xgP (xzg c))
  have hP : c.2.2.1.length ≤ 12 := ho.g.2.1
  have hp' : p < c.2.2.1.length := hp
  have k30 := h.2.2.2.2.1.2.1
  have hb0 : b = true := hb.mpr ⟨ha, h8, 0, ppos, rfl⟩
  subst hb0
  have D1 := hD rfl
  have gt := m_throwsIf false (d + 6) X1
  have F2 : xFl (fun i k => i = 187 ∧ k = 0) S1 (xSI S1 187 0 (nI 0)) := (xFl.rf S1).SI ⟨rfl, rfl⟩
  have X2 := F2.XC X1
  have D2 := D1.fr ho F2 (fun i q h => by omega)
  obtain ⟨S3, g3, f3, B, hB⟩ := m_mark (d + 1) ho ha h8 (show 0 ≤ 1000 by decide) X2 D2
  have X3 := f3.XC X2
  have D3 := D2.fr ho f3 (fun i q h => by omega)
  obtain ⟨S4, g4, f4⟩ := m_waysOf (who := p) (d + 2) ho ha h8 (show 0 ≤ 1000 by decide) (by omega) X3 D3 hB
  have X4 := f4.XC X3
  have D4 := D3.fr ho f4 (fun i q h => by omega)
  have k31 := D4.2.2.2.2.2.2.2.2.2.1
  have k60 := D4.1
  have gp := m_power (v := c.2.2.2.1.length) (n := xgH (xzg c)) (d + 6) (by omega) (S := S4)
  have w1 := xwys_lt (ex := 0) (who := p) ho h8
  have w2 := xpow_le ho.2.2.1.2.1 ho.2.2.1.1 h8
  have w3 : 0 < c.2.2.2.1.length ^ xgH (xzg c) := Nat.pow_pos ho.2.2.1.1
  have gc := m_common (x := xwys c 0 p) (y := c.2.2.2.1.length ^ xgH (xzg c)) (d + 6) (by omega) (by omega) (S := S4)
  have gpos := Nat.gcd_pos_of_pos_right (xwys c 0 p) w3
  have gle := Nat.le_of_dvd w3 (Nat.gcd_dvd_right (xwys c 0 p) (c.2.2.2.1.length ^ xgH (xzg c)))
  refine ⟨S4, ?_, (((f1.mono (fun i q h => by omega)).tt (F2.mono (fun i q h => by omega))).tt (f3.mono (fun i q h => by omega))).tt (f4.mono (fun i q h => by omega)), f4.i (f3.i (xI_same _ _ _ _) (by omega)) (by omega)⟩
  rcases (show w = 0 ∨ w = 1 by omega) with rfl | rfl
  · rw [if_pos rfl]
    refine xcall_intro (ls := [.ref 187, .int (nI p), .int (nI 0), .float 0, .float 0, .float 0]) q_X12_share (by decide) rfl (Nat.le_of_ble_eq_true rfl) rfl ?_
    refine wp_aload_n dX12_share_0 rfl rfl (wp_iload_n dX12_share_1 rfl ?_)
    refine wn_if_lt dX12_share_2 rfl (by omega) ?_
    refine wp_iload_n dX12_share_5 rfl (wp_aload_n dX12_share_6 rfl rfl (gv11_183 dX12_share_7 (xsh hX sh_187) k30 ?_))
    refine wn_icmp_ge dX12_share_10 rfl (by omega) (by omega) (fun c10 => absurd c10 (by omega)) (fun c10 => ?_)
    refine wp_iload_n dX12_share_13 rfl ?_
    refine wn_if_lt dX12_share_14 rfl (by omega) ?_
    refine wp_iload_n dX12_share_17 rfl (wp_iconst (v := nI 1) dX12_share_18 rfl ?_)
    refine wn_icmp_gt dX12_share_19 rfl (by omega) (by omega) (fun c19 => absurd c19 (by omega)) (fun c19 => ?_)
    refine wp_aload_n dX12_share_22 rfl rfl (wp_iconst (v := nI 0) dX12_share_23 rfl (wp_iv2 dX12_share_24 k11_509 q_X12_mayPlay (by decide) (xsh hX sh_187) (by decide) (Nat.le_of_ble_eq_true rfl) g1 ?_))
    refine wb_if_ne dX12_share_27 rfl (fun c27 => ?_) (fun c27 => absurd c27 (by decide))
    refine wp_iconst (v := nI 0) dX12_share_34 rfl (wp_iv2 dX12_share_35 k11_251 q_X12_throwsIf (by decide) (xsh X1 sh_187) (by decide) (Nat.le_of_ble_eq_true rfl) gt ?_)
    refine wb_if_eq dX12_share_38 rfl (fun c38 => ?_) (fun c38 => absurd c38 (by decide))
    refine wp_aload_n dX12_share_43 rfl rfl (wp_iv1 dX12_share_44 k11_503 q_X12_mark (by decide) (xsh X2 sh_187) (by decide) (Nat.le_of_ble_eq_true rfl) g3 (wp_aload_n dX12_share_47 rfl rfl (wp_iload_n dX12_share_48 rfl (wp_iv2 dX12_share_49 k11_518 q_X12_waysOf (by decide) (xsh X3 sh_187) (by decide) (Nat.le_of_ble_eq_true rfl) g4 (wp_istore_n dX12_share_52 ⟨Nat.le_of_ble_eq_true rfl, Or.inr rfl⟩ rfl (wp_aload_n dX12_share_53 rfl rfl (gv11_189 dX12_share_54 (xsh X4 sh_187) k31 (wp_aload_n dX12_share_57 rfl rfl (gv11_391 dX12_share_58 (xsh X4 sh_187) k60 (wp_is2 dX12_share_61 k11_515 q_X12_power (by decide) (Nat.le_of_ble_eq_true rfl) gp (wp_istore dX12_share_64 ⟨Nat.le_of_ble_eq_true rfl, Or.inr rfl⟩ rfl (wp_iload_n dX12_share_66 rfl (wp_iload dX12_share_67 rfl (wp_is2 dX12_share_69 k11_521 q_X12_common (by decide) (Nat.le_of_ble_eq_true rfl) gc (wp_istore dX12_share_72 ⟨Nat.le_of_ble_eq_true rfl, Or.inr rfl⟩ rfl (wp_iload_n dX12_share_74 rfl ?_))))))))))))))))
    refine wn_if_ne dX12_share_75 rfl (by omega) (fun c75 => absurd c75 (by omega)) (fun c75 => ?_)
    exact wp_iload_n dX12_share_78 rfl (wp_iload dX12_share_79 rfl (wv_idiv dX12_share_81 (nI_n0 (by omega) (by omega)) (pk_div (by omega) (by omega) (by omega)) (wp_goto dX12_share_82 rfl (wp_ireturn dX12_share_90 rfl rfl ⟨rfl, rfl⟩))))
  · rw [if_neg (by decide)]
    refine xcall_intro (ls := [.ref 187, .int (nI p), .int (nI 1), .float 0, .float 0, .float 0]) q_X12_share (by decide) rfl (Nat.le_of_ble_eq_true rfl) rfl ?_
    refine wp_aload_n dX12_share_0 rfl rfl (wp_iload_n dX12_share_1 rfl ?_)
    refine wn_if_lt dX12_share_2 rfl (by omega) ?_
    refine wp_iload_n dX12_share_5 rfl (wp_aload_n dX12_share_6 rfl rfl (gv11_183 dX12_share_7 (xsh hX sh_187) k30 ?_))
    refine wn_icmp_ge dX12_share_10 rfl (by omega) (by omega) (fun c10 => absurd c10 (by omega)) (fun c10 => ?_)
    refine wp_iload_n dX12_share_13 rfl ?_
    refine wn_if_lt dX12_share_14 rfl (by omega) ?_
    refine wp_iload_n dX12_share_17 rfl (wp_iconst (v := nI 1) dX12_share_18 rfl ?_)
    refine wn_icmp_gt dX12_share_19 rfl (by omega) (by omega) (fun c19 => absurd c19 (by omega)) (fun c19 => ?_)
    refine wp_aload_n dX12_share_22 rfl rfl (wp_iconst (v := nI 0) dX12_share_23 rfl (wp_iv2 dX12_share_24 k11_509 q_X12_mayPlay (by decide) (xsh hX sh_187) (by decide) (Nat.le_of_ble_eq_true rfl) g1 ?_))
    refine wb_if_ne dX12_share_27 rfl (fun c27 => ?_) (fun c27 => absurd c27 (by decide))
    refine wp_iconst (v := nI 0) dX12_share_34 rfl (wp_iv2 dX12_share_35 k11_251 q_X12_throwsIf (by decide) (xsh X1 sh_187) (by decide) (Nat.le_of_ble_eq_true rfl) gt ?_)
    refine wb_if_eq dX12_share_38 rfl (fun c38 => ?_) (fun c38 => absurd c38 (by decide))
    refine wp_aload_n dX12_share_43 rfl rfl (wp_iv1 dX12_share_44 k11_503 q_X12_mark (by decide) (xsh X2 sh_187) (by decide) (Nat.le_of_ble_eq_true rfl) g3 (wp_aload_n dX12_share_47 rfl rfl (wp_iload_n dX12_share_48 rfl (wp_iv2 dX12_share_49 k11_518 q_X12_waysOf (by decide) (xsh X3 sh_187) (by decide) (Nat.le_of_ble_eq_true rfl) g4 (wp_istore_n dX12_share_52 ⟨Nat.le_of_ble_eq_true rfl, Or.inr rfl⟩ rfl (wp_aload_n dX12_share_53 rfl rfl (gv11_189 dX12_share_54 (xsh X4 sh_187) k31 (wp_aload_n dX12_share_57 rfl rfl (gv11_391 dX12_share_58 (xsh X4 sh_187) k60 (wp_is2 dX12_share_61 k11_515 q_X12_power (by decide) (Nat.le_of_ble_eq_true rfl) gp (wp_istore dX12_share_64 ⟨Nat.le_of_ble_eq_true rfl, Or.inr rfl⟩ rfl (wp_iload_n dX12_share_66 rfl (wp_iload dX12_share_67 rfl (wp_is2 dX12_share_69 k11_521 q_X12_common (by decide) (Nat.le_of_ble_eq_true rfl) gc (wp_istore dX12_share_72 ⟨Nat.le_of_ble_eq_true rfl, Or.inr rfl⟩ rfl (wp_iload_n dX12_share_74 rfl ?_))))))))))))))))
    refine wn_if_ne dX12_share_75 rfl (by omega) (fun c75 => ?_) (fun c75 => absurd c75 (by omega))
    exact wp_iload dX12_share_85 rfl (wp_iload dX12_share_87 rfl (wv_idiv dX12_share_89 (nI_n0 (by omega) (by omega)) (pk_div (by omega) (by omega) (by omega)) (wp_ireturn dX12_share_90 rfl rfl ⟨rfl, rfl⟩)))
