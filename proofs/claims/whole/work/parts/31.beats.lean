/-! BEATS: small methods of both sides -/
def xmemb (l : List Nat) (c : Nat) : Bool := decide (c ∈ l)
theorem xmemb_yes {l : List Nat} {c i : Nat} (hi : i < l.length) (h : l.getD i 0 = c) : xmemb l c = true := by
  rw [List.getD_eq_getElem?_getD, List.getElem?_eq_getElem hi] at h
  have e : l[i] = c := h
  exact decide_eq_true (e ▸ List.getElem_mem hi)
theorem xmemb_no {l : List Nat} {c : Nat} (h : ∀ i, i < l.length → l.getD i 0 ≠ c) : xmemb l c = false := by
  refine decide_eq_false (fun hm => ?_)
  obtain ⟨i, hi, e⟩ := List.getElem_of_mem hm
  exact h i hi (by rw [List.getD_eq_getElem?_getD, List.getElem?_eq_getElem hi]; exact e)
theorem xget_lt {l : List Nat} {B i : Nat} (h : ∀ x ∈ l, 97 ≤ x ∧ x < B) (hi : i < l.length) : l.getD i 0 < B := by
  rw [List.getD_eq_getElem?_getD, List.getElem?_eq_getElem hi]
  exact (h _ (List.getElem_mem hi)).2
/-- which of so many BEATS is the strong one -/
def xstrong (st b : Nat) : Nat := if st = 0 ∨ b < 2 then 0 else if st = 1 then 1 else b - 1
theorem among_loop {S : xS} {b mx c d : Nat} {l : List Nat} (hsb : S.1[b]? = some (20, mx)) (hmx : mx < 100) (hl : l.length ≤ mx) (hc : c < 2 ^ 31) (hr : ∀ i, i < l.length → S.2.1 b i = nI (l.getD i 0)) (hB : ∀ x ∈ l, 97 ≤ x ∧ x < 2 ^ 24) : ∀ (j i : Nat), i + j = l.length → (∀ k, k < i → l.getD k 0 ≠ c) → Wp false d 7 cX8_isAmong (some .boolean) false 2 [.ref b, .int (nI l.length), .int (nI c), .int (nI i)] [] S (fun r S' => r = some (.int (xB (xmemb l c))) ∧ S' = S) := by
  intro j
  induction j with
  | zero =>
    intro i hi hn
    refine wp_iload_n dX8_isAmong_2 rfl (wp_iload_n dX8_isAmong_3 rfl ?_)
    refine wn_icmp_ge dX8_isAmong_4 rfl (by omega) (by omega) (fun c4 => ?_) (fun c4 => absurd c4 (by omega))
    exact wp_iconst (v := nI 0) dX8_isAmong_28 rfl (wb_ret dX8_isAmong_29 rfl (xB_of_f (xmemb_no (fun k hk => hn k (by omega)))) ⟨rfl, rfl⟩)
  | succ j ih =>
    intro i hi hn
    have hlt := xget_lt hB (show i < l.length by omega)
    refine wp_iload_n dX8_isAmong_2 rfl (wp_iload_n dX8_isAmong_3 rfl ?_)
    refine wn_icmp_ge dX8_isAmong_4 rfl (by omega) (by omega) (fun c4 => absurd c4 (by omega)) (fun c4 => ?_)
    refine wp_iload_n dX8_isAmong_7 rfl (wp_aload_n dX8_isAmong_8 rfl rfl (wv_alen dX8_isAmong_9 hsb ⟨by decide, by decide⟩ rfl ?_))
    refine wn_icmp_ge dX8_isAmong_10 rfl (by omega) (by omega) (fun c10 => absurd c10 (by omega)) (fun c10 => ?_)
    refine wp_aload_n dX8_isAmong_13 rfl rfl (wp_iload_n dX8_isAmong_14 rfl (wn_iaload dX8_isAmong_15 hsb rfl (by omega) (by omega) (hr i (by omega)) (wp_iload_n dX8_isAmong_16 rfl ?_)))
    refine wn_icmp_ne dX8_isAmong_17 rfl (by omega) (by omega) (fun c17 => ?_) (fun c17 => ?_)
    · refine wp_iinc dX8_isAmong_22 rfl (nI_1 _) ⟨Nat.le_of_ble_eq_true rfl, Or.inr rfl⟩ rfl (wp_goto dX8_isAmong_25 rfl ?_)
      refine ih (i + 1) (by omega) (fun k hk => ?_)
      rcases Nat.lt_or_ge k i with q | q
      · exact hn k q
      · rw [show k = i by omega]; exact c17
    · exact wp_iconst (v := nI 1) dX8_isAmong_20 rfl (wb_ret dX8_isAmong_21 rfl (xB_of_t (xmemb_yes (by omega) c17)) ⟨rfl, rfl⟩)
theorem c_isAmong {S : xS} {b mx c : Nat} {l : List Nat} (d : Nat) (hsb : S.1[b]? = some (20, mx)) (hmx : mx < 100) (hl : l.length ≤ mx) (hc : c < 2 ^ 31) (hr : ∀ i, i < l.length → S.2.1 b i = nI (l.getD i 0)) (hB : ∀ x ∈ l, 97 ≤ x ∧ x < 2 ^ 24) : xcall false d j_X8_isAmong [.ref b, .int (nI l.length), .int (nI c)] S (some (.int (xB (xmemb l c)))) S := by
  refine xcall_intro (ls := [.ref b, .int (nI l.length), .int (nI c), .float 0]) q_X8_isAmong (by decide) rfl (Nat.le_of_ble_eq_true rfl) rfl ?_
  exact wp_iconst (v := nI 0) dX8_isAmong_0 rfl (wp_istore_n dX8_isAmong_1 ⟨Nat.le_of_ble_eq_true rfl, Or.inr rfl⟩ rfl (among_loop hsb hmx hl hc hr hB l.length 0 (by omega) (fun k hk => absurd hk (Nat.not_lt_zero k))))
theorem c_strongOf {a b c k : Nat} {v : xTg} (d : Nat) (htg : xTgC a b c) {S : xS} (hX : XC S) (hV : xTgV a b c S v) (hk : k < 2 ^ 31) : xcall false d j_X8_strongOf [.ref a, .int (nI k)] S (some (.int (nI (xstrong v.2.2.2 k)))) S := by
  obtain ⟨ha, hb, hc, ra, rc⟩ := htg.sh hX
  obtain ⟨v1, v2, v3, v4, v5⟩ := hV
  refine xcall_intro (ls := [.ref a, .int (nI k)]) q_X8_strongOf (by decide) rfl (Nat.le_of_ble_eq_true rfl) rfl ?_
  refine wp_aload_n dX8_strongOf_0 rfl rfl (gv7_29 dX8_strongOf_1 ha v4 ?_)
  refine wn_if_eq dX8_strongOf_4 rfl (by omega) (fun c4 => ?_) (fun c4 => ?_)
  · exact wp_iconst (v := nI 0) dX8_strongOf_12 rfl (wp_ireturn dX8_strongOf_13 rfl rfl ⟨xret (by unfold xstrong; rw [if_pos (Or.inl c4)]), rfl⟩)
  · refine wp_iload_n dX8_strongOf_7 rfl (wp_iconst (v := nI 2) dX8_strongOf_8 rfl ?_)
    refine wn_icmp_ge dX8_strongOf_9 rfl (by omega) (by omega) (fun c9 => ?_) (fun c9 => ?_)
    · refine wp_aload_n dX8_strongOf_14 rfl rfl (gv7_29 dX8_strongOf_15 ha v4 (wp_iconst (v := nI 1) dX8_strongOf_18 rfl ?_))
      refine wn_icmp_ne dX8_strongOf_19 rfl (by omega) (by omega) (fun c19 => ?_) (fun c19 => ?_)
      · exact wp_iload_n dX8_strongOf_26 rfl (wp_iconst (v := nI 1) dX8_strongOf_27 rfl (wv_isub dX8_strongOf_28 (pk_sub (by omega)) (wp_ireturn dX8_strongOf_29 rfl rfl ⟨xret (by unfold xstrong; rw [if_neg (by omega), if_neg c19]), rfl⟩)))
      · exact wp_iconst (v := nI 1) dX8_strongOf_22 rfl (wp_goto dX8_strongOf_23 rfl (wp_ireturn dX8_strongOf_29 rfl rfl ⟨xret (by unfold xstrong; rw [if_neg (by omega), if_pos c19]), rfl⟩))
    · exact wp_iconst (v := nI 0) dX8_strongOf_12 rfl (wp_ireturn dX8_strongOf_13 rfl rfl ⟨xret (by unfold xstrong; rw [if_pos (Or.inr c9)]), rfl⟩)
theorem m_strongOf {k : Nat} {v : xTg} (d : Nat) {S : xS} (hX : XC S) (hV : xTgM S v) (hk : k < 2 ^ 31) (hk1 : 1 ≤ k) : xcall false d j_X12_strongOf [.ref 187, .int (nI k)] S (some (.int (nI (xstrong v.2.2.2 k)))) S := by
  obtain ⟨v1, v2, v3, v4, v5⟩ := hV
  refine xcall_intro (ls := [.ref 187, .int (nI k)]) q_X12_strongOf (by decide) rfl (Nat.le_of_ble_eq_true rfl) rfl ?_
  refine wp_aload_n dX12_strongOf_0 rfl rfl (gv11_100 dX12_strongOf_1 (xsh hX sh_187) v4 ?_)
  refine wn_if_ne dX12_strongOf_4 rfl (by omega) (fun c4 => ?_) (fun c4 => ?_)
  · refine wp_aload_n dX12_strongOf_11 rfl rfl (gv11_100 dX12_strongOf_12 (xsh hX sh_187) v4 (wp_iconst (v := nI 1) dX12_strongOf_15 rfl ?_))
    refine wn_icmp_ne dX12_strongOf_16 rfl (by omega) (by omega) (fun c16 => ?_) (fun c16 => ?_)
    · exact wp_iload_n dX12_strongOf_32 rfl (wp_iconst (v := nI 1) dX12_strongOf_33 rfl (wv_isub dX12_strongOf_34 (pk_sub (by omega)) (wp_ireturn dX12_strongOf_35 rfl rfl ⟨xret (by unfold xstrong; split <;> (try split) <;> omega), rfl⟩)))
    · refine wp_iload_n dX12_strongOf_19 rfl (wp_iconst (v := nI 1) dX12_strongOf_20 rfl ?_)
      refine wn_icmp_le dX12_strongOf_21 rfl (by omega) (by omega) (fun c21 => ?_) (fun c21 => ?_)
      · exact wp_iconst (v := nI 0) dX12_strongOf_28 rfl (wp_goto dX12_strongOf_29 rfl (wp_ireturn dX12_strongOf_35 rfl rfl ⟨xret (by unfold xstrong; rw [if_pos (by omega)]), rfl⟩))
      · exact wp_iconst (v := nI 1) dX12_strongOf_24 rfl (wp_goto dX12_strongOf_25 rfl (wp_ireturn dX12_strongOf_35 rfl rfl ⟨xret (by unfold xstrong; rw [if_neg (by omega), if_pos c16]), rfl⟩))
  · exact wp_iconst (v := nI 0) dX12_strongOf_7 rfl (wp_goto dX12_strongOf_8 rfl (wp_ireturn dX12_strongOf_35 rfl rfl ⟨xret (by unfold xstrong; rw [if_pos (Or.inl c4)]), rfl⟩))
theorem m_isVowel {v : xTg} {x c : Nat} (d : Nat) {S : xS} (hX : XC S) (hV : xTgM S v) (hx : x < 1904) (hv : S.2.1 195 x = nI c) (hc : xsm c = true) : xcall false d j_X12_isVowel [.ref 187, .int (nI x)] S (some (.int (xB (v.1.testBit (c - 97))))) S := by
  obtain ⟨v1, v2, v3, v4, v5⟩ := hV
  have hb := xsm_b hc
  refine xcall_intro (ls := [.ref 187, .int (nI x)]) q_X12_isVowel (by decide) rfl (Nat.le_of_ble_eq_true rfl) rfl ?_
  refine wp_aload_n dX12_isVowel_0 rfl rfl (gv11_91 dX12_isVowel_1 (xsh hX sh_187) v1.1 (wp_aload_n dX12_isVowel_4 rfl rfl (g11_150 dX12_isVowel_5 (xsh hX sh_187) (xrr hX r187_27) (wp_iload_n dX12_isVowel_8 rfl (wn_baload dX12_isVowel_9 (xsh hX sh_195) (Or.inl rfl) (by omega) (by decide) hv (wp_bipush (v := nI 97) dX12_isVowel_10 rfl (wv_isub dX12_isVowel_12 (pk_sub (by omega)) (wp_ishr dX12_isVowel_13 (wp_iconst (v := nI 1) dX12_isVowel_14 rfl (wv_iand dX12_isVowel_15 (xbit v.1 (c - 97) (by omega) (by omega)) (wp_iconst (v := nI 1) dX12_isVowel_16 rfl ?_)))))))))))
  refine wp_icmp_ne dX12_isVowel_17 rfl (fun c17 => ?_) (fun c17 => ?_)
  · exact wp_iconst (v := nI 0) dX12_isVowel_24 rfl (wb_ret dX12_isVowel_25 rfl (xB_of_f (by cases hz : v.1.testBit (c - 97); rfl; rw [hz] at c17; exact absurd rfl c17)) ⟨rfl, rfl⟩)
  · exact wp_iconst (v := nI 1) dX12_isVowel_20 rfl (wp_goto dX12_isVowel_21 rfl (wb_ret dX12_isVowel_25 rfl (xB_of_t (by cases hz : v.1.testBit (c - 97); rw [hz] at c17; exact absurd c17 (by decide); rfl)) ⟨rfl, rfl⟩))
theorem pair_loop {v : xTg} {S : xS} {x c0 c1 d : Nat} (hX : XC S) (hV : xTgM S v) (hx : x + 1 < 1904) (h0 : S.2.1 195 x = nI c0) (h1 : S.2.1 195 (x + 1) = nI c1) (hc0 : c0 < 256) (hc1 : c1 < 256) : ∀ (j i : Nat) (b : Bool), i + j = v.2.1.length → (b = true ↔ ∃ q, q < i ∧ v.2.1.getD q 0 = c0 * 2 ^ 8 + c1) → Wp false d 11 cX12_isPair (some .boolean) false 4 [.ref 187, .int (nI x), .int (xB b), .int (nI i)] [] S (fun r S' => r = some (.int (xB (xmemb v.2.1 (c0 * 2 ^ 8 + c1)))) ∧ S' = S) := by
  obtain ⟨v1, v2, v3, v4, v5⟩ := hV
  have hl := v2.2.1
  intro j
  induction j with
  | zero =>
    intro i b hi hb
    have e : b = xmemb v.2.1 (c0 * 2 ^ 8 + c1) := by
      cases b with
      | true =>
        obtain ⟨q, q1, q2⟩ := hb.mp rfl
        exact (xmemb_yes (by omega) q2).symm
      | false =>
        refine (xmemb_no (fun q hq e => ?_)).symm
        have := hb.mpr ⟨q, by omega, e⟩
        cases this
    subst e
    refine wp_iload_n dX12_isPair_4 rfl (wp_aload_n dX12_isPair_5 rfl rfl (gv11_94 dX12_isPair_6 (xsh hX sh_187) v2.1 ?_))
    refine wn_icmp_ge dX12_isPair_9 rfl (by omega) (by omega) (fun c9 => ?_) (fun c9 => absurd c9 (by omega))
    exact wp_iload_n dX12_isPair_55 rfl (wb_ret dX12_isPair_56 rfl rfl ⟨rfl, rfl⟩)
  | succ j ih =>
    intro i b hi hb
    have hlt := xget_lt v2.2.2.2 (show i < v.2.1.length by omega)
    have t48 (b' : Bool) (hb' : b' = true ↔ ∃ q, q < i + 1 ∧ v.2.1.getD q 0 = c0 * 2 ^ 8 + c1) : Wp false d 11 cX12_isPair (some .boolean) false 48 [.ref 187, .int (nI x), .int (xB b), .int (nI i)] [.int (xB b')] S (fun r S' => r = some (.int (xB (xmemb v.2.1 (c0 * 2 ^ 8 + c1)))) ∧ S' = S) := by
      exact wp_istore_n dX12_isPair_48 ⟨Nat.le_of_ble_eq_true rfl, Or.inr rfl⟩ rfl (wp_iinc dX12_isPair_49 rfl (nI_1 _) ⟨Nat.le_of_ble_eq_true rfl, Or.inr rfl⟩ rfl (wp_goto dX12_isPair_52 rfl (ih (i + 1) b' (by omega) hb')))
    refine wp_iload_n dX12_isPair_4 rfl (wp_aload_n dX12_isPair_5 rfl rfl (gv11_94 dX12_isPair_6 (xsh hX sh_187) v2.1 ?_))
    refine wn_icmp_ge dX12_isPair_9 rfl (by omega) (by omega) (fun c9 => absurd c9 (by omega)) (fun c9 => ?_)
    refine wp_iload_n dX12_isPair_12 rfl ?_
    refine wb_if_ne dX12_isPair_13 rfl (fun c13 => ?_) (fun c13 => ?_)
    · exact wp_iconst (v := nI 1) dX12_isPair_43 rfl (wp_goto dX12_isPair_44 rfl (t48 true ⟨fun _ => (hb.mp c13).elim (fun q hq => ⟨q, by omega, hq.2⟩), fun _ => rfl⟩))
    · refine wp_aload_n dX12_isPair_16 rfl rfl (g11_103 dX12_isPair_17 (xsh hX sh_187) (xrr hX r187_21) (wp_iload_n dX12_isPair_20 rfl (wn_iaload dX12_isPair_21 (xsh hX sh_189) rfl (by omega) (by decide) (v2.2.2.1 i (by omega)) (wp_aload_n dX12_isPair_22 rfl rfl (g11_150 dX12_isPair_23 (xsh hX sh_187) (xrr hX r187_27) (wp_iload_n dX12_isPair_26 rfl (wn_baload dX12_isPair_27 (xsh hX sh_195) (Or.inl rfl) (by omega) (by decide) h0 (wp_bipush (v := nI 8) dX12_isPair_28 rfl (wp_ishl dX12_isPair_30 (wp_aload_n dX12_isPair_31 rfl rfl (g11_150 dX12_isPair_32 (xsh hX sh_187) (xrr hX r187_27) (wp_iload_n dX12_isPair_35 rfl (wp_iconst (v := nI 1) dX12_isPair_36 rfl (wv_iadd dX12_isPair_37 (nI_add _ _) (wn_baload dX12_isPair_38 (xsh hX sh_195) (Or.inl rfl) (by omega) (by decide) h1 (wv_ior dX12_isPair_39 (xshor (by omega) hc1) ?_))))))))))))))))
      refine wn_icmp_ne dX12_isPair_40 rfl (by omega) (by omega) (fun c40 => ?_) (fun c40 => ?_)
      · exact wp_iconst (v := nI 0) dX12_isPair_47 rfl (t48 false ⟨fun e => (by cases e), fun ⟨q, q1, q2⟩ => (by
          rcases Nat.lt_or_ge q i with w | w
          · rw [← c13]; exact hb.mpr ⟨q, w, q2⟩
          · exact absurd (by rw [show i = q by omega]; exact q2) c40)⟩)
      · exact wp_iconst (v := nI 1) dX12_isPair_43 rfl (wp_goto dX12_isPair_44 rfl (t48 true ⟨fun _ => ⟨i, by omega, c40⟩, fun _ => rfl⟩))
theorem m_isPair {v : xTg} {S : xS} {x c0 c1 : Nat} (d : Nat) (hX : XC S) (hV : xTgM S v) (hx : x + 1 < 1904) (h0 : S.2.1 195 x = nI c0) (h1 : S.2.1 195 (x + 1) = nI c1) (hc0 : c0 < 256) (hc1 : c1 < 256) : xcall false d j_X12_isPair [.ref 187, .int (nI x)] S (some (.int (xB (xmemb v.2.1 (c0 * 2 ^ 8 + c1))))) S := by
  refine xcall_intro (ls := [.ref 187, .int (nI x), .float 0, .float 0]) q_X12_isPair (by decide) rfl (Nat.le_of_ble_eq_true rfl) rfl ?_
  exact wp_iconst (v := nI 0) dX12_isPair_0 rfl (wp_istore_n dX12_isPair_1 ⟨Nat.le_of_ble_eq_true rfl, Or.inr rfl⟩ rfl (wp_iconst (v := nI 0) dX12_isPair_2 rfl (wp_istore_n dX12_isPair_3 ⟨Nat.le_of_ble_eq_true rfl, Or.inr rfl⟩ rfl (pair_loop hX hV hx h0 h1 hc0 hc1 v.2.1.length 0 false (by omega) ⟨fun e => (by cases e), fun ⟨q, q1, _⟩ => absurd q1 (Nat.not_lt_zero q)⟩))))
