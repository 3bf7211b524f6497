/-! mixed of the class: bestCut, mixture, the call -/
/-- the better of the one kept and a new one: the first least -/
def xbs {β : Type} (m : Option (Nat × β)) (c : Nat × β) : Option (Nat × β) := match m with
  | none => some c
  | some x => if c.1 < x.1 then some c else some x
def xjn {β : Type} (x y : Option (Nat × β)) : Option (Nat × β) := match y with
  | none => x
  | some c => xbs x c
theorem xbs_L {β : Type} {x c : Nat × β} (h : c.1 < x.1) : xbs (some x) c = some c := if_pos h
theorem xbs_G {β : Type} {x c : Nat × β} (h : x.1 ≤ c.1) : xbs (some x) c = some x := if_neg (Nat.not_lt.mpr h)
theorem xjn_bs {β : Type} (x y : Option (Nat × β)) (c : Nat × β) : xjn x (xbs y c) = xbs (xjn x y) c := by
  cases y with
  | none => rfl
  | some d =>
    rcases Nat.lt_or_ge c.1 d.1 with w | w
    · rw [xbs_L w]
      cases x with
      | none => exact (xbs_L w).symm
      | some e =>
        show xbs (some e) c = xbs (xbs (some e) d) c
        rcases Nat.lt_or_ge d.1 e.1 with w2 | w2
        · rw [xbs_L w2, xbs_L w, xbs_L (Nat.lt_trans w w2)]
        · rw [xbs_G w2]
    · rw [xbs_G w]
      cases x with
      | none => exact (xbs_G w).symm
      | some e =>
        show xbs (some e) d = xbs (xbs (some e) d) c
        rcases Nat.lt_or_ge d.1 e.1 with w2 | w2
        · rw [xbs_L w2, xbs_G w]
        · rw [xbs_G w2, xbs_G (Nat.le_trans w2 w)]
/-- the best cut among the first k, with its CHANGES -/
def xcu (c : Nat → Nat) : Nat → Option (Nat × Nat)
  | 0 => none
  | k + 1 => xbs (xcu c k) (c (k + 1), k + 1)
theorem xcu_b (c : Nat → Nat) : ∀ (k v q : Nat), xcu c k = some (v, q) → v = c q ∧ 1 ≤ q ∧ q ≤ k
  | 0, v, q, e => by cases e
  | k + 1, v, q, e => by
    rw [xcu] at e
    cases h : xcu c k with
    | none => rw [h] at e; cases e; exact ⟨rfl, by omega, by omega⟩
    | some x =>
      rw [h] at e
      rcases Nat.lt_or_ge (c (k + 1)) x.1 with w | w
      · rw [xbs_L (c := (c (k + 1), k + 1)) w] at e; cases e; exact ⟨rfl, by omega, by omega⟩
      · rw [xbs_G (c := (c (k + 1), k + 1)) w] at e
        cases e
        have := xcu_b c k v q h
        exact ⟨this.1, this.2.1, by omega⟩
def xqc : Option (Nat × Nat) → Int32
  | none => -1
  | some x => nI x.2
def xahn (σ : xSv) (s t i : Nat) : Nat := match σ t, σ s with
  | some (_, t1, L1), some (_, t2, L2) => xah t1 L1 t2 L2 i
  | _, _ => 0
def xbhn (σ : xSv) (s t i : Nat) : Nat := match σ t, σ s with
  | some (_, t1, L1), some (_, t2, L2) => xbh t1 L1 t2 L2 i
  | _, _ => 0
theorem xahn_le (σ : xSv) (s t i : Nat) : xahn σ s t i ≤ 1000000 := by
  unfold xahn
  split
  · exact xah_le _ _ _ _ _
  · omega
theorem xbhn_le (σ : xSv) (s t i : Nat) : xbhn σ s t i ≤ 1000000 := by
  unfold xbhn
  split
  · exact xbh_le _ _ _ _ _
  · omega
/-- the CHANGES of a mixture: a's part up to the cut, b's behind it -/
def xmc (σ : xSv) (s n a b q : Nat) : Nat := xahn σ s a q + xbhn σ s b (n - q)
theorem xmc_le (σ : xSv) (s n a b q : Nat) : xmc σ s n a b q ≤ 2000000 := by
  have := xahn_le σ s a q
  have := xbhn_le σ s b (n - q)
  unfold xmc
  omega
/-- the candidate of a pair; the rows of candidates -/
def xcd (el : Nat → Bool) (c : Nat → Nat → Nat → Nat) (n a b : Nat) : Option (Nat × Nat × Nat × Nat) := if a ≠ b ∧ el a = true ∧ el b = true then (xcu (c a b) (n - 1)).map (fun x => (x.1, a, b, x.2)) else none
def xmj (el : Nat → Bool) (c : Nat → Nat → Nat → Nat) (n a : Nat) (acc : Option (Nat × Nat × Nat × Nat)) : Nat → Option (Nat × Nat × Nat × Nat)
  | 0 => acc
  | b + 1 => xjn (xmj el c n a acc b) (xcd el c n a b)
def xmo (el : Nat → Bool) (c : Nat → Nat → Nat → Nat) (n : Nat) : Nat → Option (Nat × Nat × Nat × Nat)
  | 0 => none
  | a + 1 => xmj el c n a (xmo el c n a) 6
/-- what is kept is small -/
def xkb (x : Option (Nat × Nat × Nat × Nat)) : Prop := ∀ v a b q, x = some (v, a, b, q) → v ≤ 2000000 ∧ a < 6 ∧ b < 6 ∧ q ≤ 16
theorem xkb_bs {x : Option (Nat × Nat × Nat × Nat)} {c : Nat × Nat × Nat × Nat} (h : xkb x) (hc : xkb (some c)) : xkb (xbs x c) := by
  cases x with
  | none => exact hc
  | some e =>
    rcases Nat.lt_or_ge c.1 e.1 with w | w
    · rw [xbs_L w]; exact hc
    · rw [xbs_G w]; exact h
theorem xkb_jn {x y : Option (Nat × Nat × Nat × Nat)} (h : xkb x) (hy : xkb y) : xkb (xjn x y) := by
  cases y with
  | none => exact h
  | some c => exact xkb_bs h hy
theorem xkb_cd {el : Nat → Bool} {c : Nat → Nat → Nat → Nat} {n a b : Nat} (hc : ∀ a b q, c a b q ≤ 2000000) (hn : n ≤ 16) (ha : a < 6) (hb : b < 6) : xkb (xcd el c n a b) := by
  intro v a' b' q e
  unfold xcd at e
  split at e
  · cases h : xcu (c a b) (n - 1) with
    | none => rw [h] at e; cases e
    | some x =>
      rw [h] at e
      cases e
      have := xcu_b (c a b) (n - 1) x.1 x.2 h
      have := hc a b x.2
      exact ⟨by omega, ha, hb, by omega⟩
  · cases e
theorem xkb_mi {el : Nat → Bool} {c : Nat → Nat → Nat → Nat} {n a : Nat} {acc : Option (Nat × Nat × Nat × Nat)} (hc : ∀ a b q, c a b q ≤ 2000000) (hn : n ≤ 16) (ha : a < 6) (h : xkb acc) : ∀ b, b ≤ 6 → xkb (xmj el c n a acc b)
  | 0, _ => h
  | b + 1, hb => xkb_jn (xkb_mi hc hn ha h b (by omega)) (xkb_cd hc hn ha (by omega))
theorem xkb_mo {el : Nat → Bool} {c : Nat → Nat → Nat → Nat} {n : Nat} (hc : ∀ a b q, c a b q ≤ 2000000) (hn : n ≤ 16) : ∀ a, a ≤ 6 → xkb (xmo el c n a)
  | 0, _ => fun v a b q e => by cases e
  | a + 1, ha => xkb_mi hc hn (by omega) (xkb_mo hc hn a (by omega)) 6 (by omega)
def xq0 : Option (Nat × Nat × Nat × Nat) → Int32
  | none => -1
  | some x => nI x.1
def xq1 : Option (Nat × Nat × Nat × Nat) → Int32
  | none => -1
  | some x => nI x.2.1
def xq2 : Option (Nat × Nat × Nat × Nat) → Int32
  | none => -1
  | some x => nI x.2.2.1
def xq3 : Option (Nat × Nat × Nat × Nat) → Int32
  | none => -1
  | some x => nI x.2.2.2
/-- what mixed answers -/
def xmx (x : Option (Nat × Nat × Nat × Nat)) (w : Nat) : Int32 := if w = 0 then xq0 x else if w = 1 then xq1 x else if w = 2 then xq2 x else xq3 x
/-- the rows of the first k slots that are elders are reckoned -/
def xAB (S : xS) (el : Nat → Bool) (ah bh : Nat → Nat → Nat) (n k : Nat) : Prop := ∀ t, t < k → el t = true → ∀ i, i ≤ n → S.2.1 (173 + t) i = nI (ah t i) ∧ S.2.1 (180 + t) i = nI (bh t (n - i))
theorem c_mixtureCost {el : Nat → Bool} {ah bh : Nat → Nat → Nat} {n : Nat} (ha1 : ∀ t i, ah t i ≤ 1000000) (hb1 : ∀ t i, bh t i ≤ 1000000) (hn : n ≤ 16) {a b q : Nat} (d : Nat) (ha : a < 6) (hb : b < 6) (hq : q ≤ n) (ea : el a = true) (eb : el b = true) {S : xS} (hX : XC S) (hA : xAB S el ah bh n 6) : xcall false (d + 1) j_X0_mixtureCost [.ref 133, .int (nI a), .int (nI b), .int (nI q)] S (some (.int (nI (ah a q + bh b (n - q))))) S := by
  have ga := c_isSlot (nI a) d S
  have gb := c_isSlot (nI b) d S
  rw [xsl_n (by omega), decide_eq_true ha] at ga
  rw [xsl_n (by omega), decide_eq_true hb] at gb
  have r1 := r172_a hX ha
  have s1 := s172_a hX ha
  have r2 := r179_a hX hb
  have s2 := s179_a hX hb
  have v1 := (hA a ha ea q hq).1
  have v2 := (hA b hb eb q hq).2
  refine xcall_intro (ls := [.ref 133, .int (nI a), .int (nI b), .int (nI q)]) q_X0_mixtureCost (by decide) rfl (Nat.le_of_ble_eq_true rfl) rfl ?_
  refine wp_iload_n dX0_mixtureCost_0 rfl (wp_is1 dX0_mixtureCost_1 k0_82 q_X11_isSlot (by decide) (Nat.le_of_ble_eq_true rfl) ga ?_)
  refine wb_if_eq dX0_mixtureCost_4 rfl (fun c4 => absurd c4 (by decide)) (fun c4 => ?_)
  refine wp_iload_n dX0_mixtureCost_7 rfl (wp_is1 dX0_mixtureCost_8 k0_82 q_X11_isSlot (by decide) (Nat.le_of_ble_eq_true rfl) gb ?_)
  refine wb_if_eq dX0_mixtureCost_11 rfl (fun c11 => absurd c11 (by decide)) (fun c11 => ?_)
  refine wp_iload_n dX0_mixtureCost_14 rfl ?_
  refine wn_if_lt dX0_mixtureCost_15 rfl (by omega) ?_
  refine wp_iload_n dX0_mixtureCost_18 rfl (wp_bipush (v := nI 16) dX0_mixtureCost_19 rfl ?_)
  refine wn_icmp_le dX0_mixtureCost_21 rfl (by omega) (by omega) (fun c21 => ?_) (fun c21 => absurd c21 (by omega))
  exact wp_aload_n dX0_mixtureCost_26 rfl rfl (g0_32 dX0_mixtureCost_27 (xsh hX sh_133) (xrr hX r133_5) (wp_iload_n dX0_mixtureCost_30 rfl (wn_aaload dX0_mixtureCost_31 (xsh hX sh_172) (Or.inr (Or.inr rfl)) (by omega) (by decide) r1 (wp_iload_n dX0_mixtureCost_32 rfl (wn_iaload dX0_mixtureCost_33 s1 rfl (by omega) (by decide) v1 (wp_aload_n dX0_mixtureCost_34 rfl rfl (g0_35 dX0_mixtureCost_35 (xsh hX sh_133) (xrr hX r133_6) (wp_iload_n dX0_mixtureCost_38 rfl (wn_aaload dX0_mixtureCost_39 (xsh hX sh_179) (Or.inr (Or.inr rfl)) (by omega) (by decide) r2 (wp_iload_n dX0_mixtureCost_40 rfl (wn_iaload dX0_mixtureCost_41 s2 rfl (by omega) (by decide) v2 (wv_iadd dX0_mixtureCost_42 (nI_add _ _) (wp_ireturn dX0_mixtureCost_43 rfl rfl ⟨rfl, rfl⟩)))))))))))))
theorem bc_loop {el : Nat → Bool} {ah bh : Nat → Nat → Nat} {n : Nat} (ha1 : ∀ t i, ah t i ≤ 1000000) (hb1 : ∀ t i, bh t i ≤ 1000000) (hn : n ≤ 16) {a b : Nat} {d : Nat} (ha : a < 6) (hb : b < 6) (ea : el a = true) (eb : el b = true) {S : xS} (hX : XC S) (hA : xAB S el ah bh n 6) : ∀ (r k : Nat), k + r = n - 1 → Wp false (d + 2) 0 cX0_bestCut (some .int) false 6 [.ref 133, .int (nI a), .int (nI b), .int (nI n), .int (xqc (xcu (fun q => ah a q + bh b (n - q)) k)), .int (nI (k + 1))] [] S (fun r S' => r = some (.int (xqc (xcu (fun q => ah a q + bh b (n - q)) (n - 1)))) ∧ S' = S) := by
  intro r
  induction r with
  | zero =>
    intro k hk
    have hkk : k = n - 1 := by omega
    subst hkk
    refine wp_iload dX0_bestCut_6 rfl (wp_iload_n dX0_bestCut_8 rfl ?_)
    refine wn_icmp_ge dX0_bestCut_9 rfl (by omega) (by omega) (fun c9 => ?_) (fun c9 => absurd c9 (by omega))
    exact wp_iload dX0_bestCut_47 rfl (wp_ireturn dX0_bestCut_49 rfl rfl ⟨rfl, rfl⟩)
  | succ r ih =>
    intro k hk
    have nx := ih (k + 1) (by omega)
    have g1 := c_mixtureCost ha1 hb1 hn (q := k + 1) (d + 0) ha hb (by omega) ea eb hX hA
    have b1 := ha1 a (k + 1)
    have b2 := hb1 b (n - (k + 1))
    cases e : xcu (fun q => ah a q + bh b (n - q)) k with
    | none =>
      rw [xcu, e] at nx
      refine wp_iload dX0_bestCut_6 rfl (wp_iload_n dX0_bestCut_8 rfl ?_)
      refine wn_icmp_ge dX0_bestCut_9 rfl (by omega) (by omega) (fun c9 => absurd c9 (by omega)) (fun c9 => ?_)
      refine wp_iload dX0_bestCut_12 rfl (wp_iconst (v := -1) dX0_bestCut_14 rfl ?_)
      refine wp_icmp_eq dX0_bestCut_15 rfl (fun c15 => ?_) (fun c15 => absurd c15 (not_not_intro rfl))
      exact wp_iload dX0_bestCut_37 rfl (wp_istore dX0_bestCut_39 ⟨Nat.le_of_ble_eq_true rfl, Or.inr rfl⟩ rfl (wp_iinc dX0_bestCut_41 rfl (nI_1 _) ⟨Nat.le_of_ble_eq_true rfl, Or.inr rfl⟩ rfl (wp_goto dX0_bestCut_44 rfl nx)))
    | some x =>
      obtain ⟨v, q⟩ := x
      obtain ⟨q1, q2, q3⟩ := xcu_b (fun q => ah a q + bh b (n - q)) k v q e
      have q1' : v = ah a q + bh b (n - q) := q1
      have g2 := c_mixtureCost ha1 hb1 hn (q := q) (d + 0) ha hb (by omega) ea eb hX hA
      have b3 := ha1 a q
      have b4 := hb1 b (n - q)
      rcases Nat.lt_or_ge (ah a (k + 1) + bh b (n - (k + 1))) v with w | w
      · rw [xcu, e, xbs_L (c := ((fun q => ah a q + bh b (n - q)) (k + 1), k + 1)) w] at nx
        refine wp_iload dX0_bestCut_6 rfl (wp_iload_n dX0_bestCut_8 rfl ?_)
        refine wn_icmp_ge dX0_bestCut_9 rfl (by omega) (by omega) (fun c9 => absurd c9 (by omega)) (fun c9 => ?_)
        refine wp_iload dX0_bestCut_12 rfl (wp_iconst (v := -1) dX0_bestCut_14 rfl ?_)
        refine wp_icmp_eq dX0_bestCut_15 rfl (fun c15 => absurd c15 (nI_m1 (show q < 2 ^ 31 by omega))) (fun c15 => ?_)
        refine wp_aload_n dX0_bestCut_18 rfl rfl (wp_iload_n dX0_bestCut_19 rfl (wp_iload_n dX0_bestCut_20 rfl (wp_iload dX0_bestCut_21 rfl (wp_iv4 dX0_bestCut_23 k0_93 q_X0_mixtureCost (by decide) (xsh hX sh_133) (by decide) (Nat.le_of_ble_eq_true rfl) g1 (wp_aload_n dX0_bestCut_26 rfl rfl (wp_iload_n dX0_bestCut_27 rfl (wp_iload_n dX0_bestCut_28 rfl (wp_iload dX0_bestCut_29 rfl (wp_iv4 dX0_bestCut_31 k0_93 q_X0_mixtureCost (by decide) (xsh hX sh_133) (by decide) (Nat.le_of_ble_eq_true rfl) g2 ?_)))))))))
        refine wn_icmp_ge dX0_bestCut_34 rfl (by omega) (by omega) (fun c34 => absurd c34 (by omega)) (fun c34 => ?_)
        exact wp_iload dX0_bestCut_37 rfl (wp_istore dX0_bestCut_39 ⟨Nat.le_of_ble_eq_true rfl, Or.inr rfl⟩ rfl (wp_iinc dX0_bestCut_41 rfl (nI_1 _) ⟨Nat.le_of_ble_eq_true rfl, Or.inr rfl⟩ rfl (wp_goto dX0_bestCut_44 rfl nx)))
      · rw [xcu, e, xbs_G (c := ((fun q => ah a q + bh b (n - q)) (k + 1), k + 1)) w] at nx
        refine wp_iload dX0_bestCut_6 rfl (wp_iload_n dX0_bestCut_8 rfl ?_)
        refine wn_icmp_ge dX0_bestCut_9 rfl (by omega) (by omega) (fun c9 => absurd c9 (by omega)) (fun c9 => ?_)
        refine wp_iload dX0_bestCut_12 rfl (wp_iconst (v := -1) dX0_bestCut_14 rfl ?_)
        refine wp_icmp_eq dX0_bestCut_15 rfl (fun c15 => absurd c15 (nI_m1 (show q < 2 ^ 31 by omega))) (fun c15 => ?_)
        refine wp_aload_n dX0_bestCut_18 rfl rfl (wp_iload_n dX0_bestCut_19 rfl (wp_iload_n dX0_bestCut_20 rfl (wp_iload dX0_bestCut_21 rfl (wp_iv4 dX0_bestCut_23 k0_93 q_X0_mixtureCost (by decide) (xsh hX sh_133) (by decide) (Nat.le_of_ble_eq_true rfl) g1 (wp_aload_n dX0_bestCut_26 rfl rfl (wp_iload_n dX0_bestCut_27 rfl (wp_iload_n dX0_bestCut_28 rfl (wp_iload dX0_bestCut_29 rfl (wp_iv4 dX0_bestCut_31 k0_93 q_X0_mixtureCost (by decide) (xsh hX sh_133) (by decide) (Nat.le_of_ble_eq_true rfl) g2 ?_)))))))))
        refine wn_icmp_ge dX0_bestCut_34 rfl (by omega) (by omega) (fun c34 => ?_) (fun c34 => absurd c34 (by omega))
        exact wp_iinc dX0_bestCut_41 rfl (nI_1 _) ⟨Nat.le_of_ble_eq_true rfl, Or.inr rfl⟩ rfl (wp_goto dX0_bestCut_44 rfl nx)
theorem c_bestCut {el : Nat → Bool} {ah bh : Nat → Nat → Nat} {n : Nat} (ha1 : ∀ t i, ah t i ≤ 1000000) (hb1 : ∀ t i, bh t i ≤ 1000000) (hn : n ≤ 16) {a b : Nat} (d : Nat) (ha : a < 6) (hb : b < 6) (ea : el a = true) (eb : el b = true) {S : xS} (hX : XC S) (hA : xAB S el ah bh n 6) (hn1 : 1 ≤ n) : xcall false (d + 2) j_X0_bestCut [.ref 133, .int (nI a), .int (nI b), .int (nI n)] S (some (.int (xqc (xcu (fun q => ah a q + bh b (n - q)) (n - 1))))) S := by
  refine xcall_intro (ls := [.ref 133, .int (nI a), .int (nI b), .int (nI n), .float 0, .float 0]) q_X0_bestCut (by decide) rfl (Nat.le_of_ble_eq_true rfl) rfl ?_
  exact wp_iconst (v := -1) dX0_bestCut_0 rfl (wp_istore dX0_bestCut_1 ⟨Nat.le_of_ble_eq_true rfl, Or.inr rfl⟩ rfl (wp_iconst (v := nI 1) dX0_bestCut_3 rfl (wp_istore dX0_bestCut_4 ⟨Nat.le_of_ble_eq_true rfl, Or.inr rfl⟩ rfl (bc_loop ha1 hb1 hn ha hb ea eb hX hA (n - 1) 0 (Nat.zero_add _)))))
theorem mx_in {ρ : Nat → Nat} {σ : xSv} {δ : Nat → Int32} {s n : Nat} {w a d : Nat} (hr : xro ρ) (hs : s < 6) (hσ : σ s ≠ none) (hn1 : 1 ≤ n) (hn : n ≤ 16) (ha : a < 6) {S : xS} (hX : XC S) (hS : xSl S ρ σ) (hD : xDC S ρ σ δ) (hL : S.2.1 (ρ s) 7 = nI n) (hA : xAB S (xel σ δ s) (xahn σ s) (xbhn σ s) n 6) {Q : Option Value → xS → Prop} (K : ∀ y8 y9 y10, Wp false (d + 3) 10 cX11_mixture (some .int) false 138 [.ref 0, .ref (ρ s), .int (nI w), .int (xq0 (xmj (xel σ δ s) (xmc σ s n) n a (xmo (xel σ δ s) (xmc σ s n) n a) 6)), .int (xq1 (xmj (xel σ δ s) (xmc σ s n) n a (xmo (xel σ δ s) (xmc σ s n) n a) 6)), .int (xq2 (xmj (xel σ δ s) (xmc σ s n) n a (xmo (xel σ δ s) (xmc σ s n) n a) 6)), .int (xq3 (xmj (xel σ δ s) (xmc σ s n) n a (xmo (xel σ δ s) (xmc σ s n) n a) 6)), .int (nI a), y8, y9, y10] [] S Q) : ∀ (r b : Nat) (y9 y10 : Value), b + r = 6 → Wp false (d + 3) 10 cX11_mixture (some .int) false 24 [.ref 0, .ref (ρ s), .int (nI w), .int (xq0 (xmj (xel σ δ s) (xmc σ s n) n a (xmo (xel σ δ s) (xmc σ s n) n a) b)), .int (xq1 (xmj (xel σ δ s) (xmc σ s n) n a (xmo (xel σ δ s) (xmc σ s n) n a) b)), .int (xq2 (xmj (xel σ δ s) (xmc σ s n) n a (xmo (xel σ δ s) (xmc σ s n) n a) b)), .int (xq3 (xmj (xel σ δ s) (xmc σ s n) n a (xmo (xel σ δ s) (xmc σ s n) n a) b)), .int (nI a), .int (nI b), y9, y10] [] S Q := by
  intro r
  have hc := ((hr.1 s (by omega)).sh hX).1
  induction r with
  | zero =>
    intro b y9 y10 hb
    have hbb : b = 6 := by omega
    subst hbb
    refine wp_iload dX11_mixture_24 rfl (wp_bipush (v := nI 6) dX11_mixture_26 rfl ?_)
    refine wn_icmp_ge dX11_mixture_28 rfl (by omega) (by omega) (fun c28 => ?_) (fun c28 => absurd c28 (by omega))
    exact K _ _ _
  | succ r ih =>
    intro b y9 y10 hb
    have nx := fun y9 y10 => ih (b + 1) y9 y10 (by omega)
    have ga := c_elderIn (t := a) d hr hs hσ ha hX hS hD
    have gb := c_elderIn (t := b) d hr hs hσ (by omega) hX hS hD
    have ek : (xmj (xel σ δ s) (xmc σ s n) n a (xmo (xel σ δ s) (xmc σ s n) n a) (b + 1)) = xjn (xmj (xel σ δ s) (xmc σ s n) n a (xmo (xel σ δ s) (xmc σ s n) n a) b) (xcd (xel σ δ s) (xmc σ s n) n a b) := by rw [xmj]
    rw [ek] at nx
    rcases Decidable.em (a = b) with eab | eab
    · rw [show xcd (xel σ δ s) (xmc σ s n) n a b = none from if_neg (fun w => w.1 eab)] at nx
      refine wp_iload dX11_mixture_24 rfl (wp_bipush (v := nI 6) dX11_mixture_26 rfl ?_)
      refine wn_icmp_ge dX11_mixture_28 rfl (by omega) (by omega) (fun c28 => absurd c28 (by omega)) (fun c28 => ?_)
      refine wp_iload dX11_mixture_31 rfl (wp_iload dX11_mixture_33 rfl ?_)
      refine wn_icmp_eq dX11_mixture_35 rfl (by omega) (by omega) (fun c35 => ?_) (fun c35 => absurd c35 (by omega))
      exact wp_iinc dX11_mixture_132 rfl (nI_1 _) ⟨Nat.le_of_ble_eq_true rfl, Or.inr rfl⟩ rfl (wp_goto dX11_mixture_135 rfl (nx _ _))
    cases ea : xel σ δ s a with
    | false =>
      rw [show xcd (xel σ δ s) (xmc σ s n) n a b = none from if_neg (fun w => by rw [ea] at w; exact absurd w.2.1 (by decide))] at nx
      rw [ea, if_neg (by decide)] at ga
      refine wp_iload dX11_mixture_24 rfl (wp_bipush (v := nI 6) dX11_mixture_26 rfl ?_)
      refine wn_icmp_ge dX11_mixture_28 rfl (by omega) (by omega) (fun c28 => absurd c28 (by omega)) (fun c28 => ?_)
      refine wp_iload dX11_mixture_31 rfl (wp_iload dX11_mixture_33 rfl ?_)
      refine wn_icmp_eq dX11_mixture_35 rfl (by omega) (by omega) (fun c35 => absurd c35 (by omega)) (fun c35 => ?_)
      exact wp_aload_n dX11_mixture_38 rfl rfl (wp_iload dX11_mixture_39 rfl (wp_aload_n dX11_mixture_41 rfl rfl (wp_iv3 dX11_mixture_42 k10_283 q_X11_elderIn (by decide) (xsh hX sh_0) (by decide) (Nat.le_of_ble_eq_true rfl) ga (wp_ifnull_N dX11_mixture_45 rfl (wp_iinc dX11_mixture_132 rfl (nI_1 _) ⟨Nat.le_of_ble_eq_true rfl, Or.inr rfl⟩ rfl (wp_goto dX11_mixture_135 rfl (nx _ _)))))))
    | true =>
      rw [ea, if_pos rfl] at ga
      cases eb : xel σ δ s b with
      | false =>
        rw [show xcd (xel σ δ s) (xmc σ s n) n a b = none from if_neg (fun w => by rw [eb] at w; exact absurd w.2.2 (by decide))] at nx
        rw [eb, if_neg (by decide)] at gb
        refine wp_iload dX11_mixture_24 rfl (wp_bipush (v := nI 6) dX11_mixture_26 rfl ?_)
        refine wn_icmp_ge dX11_mixture_28 rfl (by omega) (by omega) (fun c28 => absurd c28 (by omega)) (fun c28 => ?_)
        refine wp_iload dX11_mixture_31 rfl (wp_iload dX11_mixture_33 rfl ?_)
        refine wn_icmp_eq dX11_mixture_35 rfl (by omega) (by omega) (fun c35 => absurd c35 (by omega)) (fun c35 => ?_)
        exact wp_aload_n dX11_mixture_38 rfl rfl (wp_iload dX11_mixture_39 rfl (wp_aload_n dX11_mixture_41 rfl rfl (wp_iv3 dX11_mixture_42 k10_283 q_X11_elderIn (by decide) (xsh hX sh_0) (by decide) (Nat.le_of_ble_eq_true rfl) ga (wp_ifnull_R dX11_mixture_45 rfl (wp_aload_n dX11_mixture_48 rfl rfl (wp_iload dX11_mixture_49 rfl (wp_aload_n dX11_mixture_51 rfl rfl (wp_iv3 dX11_mixture_52 k10_283 q_X11_elderIn (by decide) (xsh hX sh_0) (by decide) (Nat.le_of_ble_eq_true rfl) gb (wp_ifnull_N dX11_mixture_55 rfl (wp_iinc dX11_mixture_132 rfl (nI_1 _) ⟨Nat.le_of_ble_eq_true rfl, Or.inr rfl⟩ rfl (wp_goto dX11_mixture_135 rfl (nx _ _))))))))))))
      | true =>
        rw [eb, if_pos rfl] at gb
        have ec : xcd (xel σ δ s) (xmc σ s n) n a b = (xcu (xmc σ s n a b) (n - 1)).map (fun x => (x.1, a, b, x.2)) := if_pos ⟨eab, ea, eb⟩
        rw [ec] at nx
        have gc := c_bestCut (xahn_le σ s) (xbhn_le σ s) hn d ha (show b < 6 by omega) ea eb hX hA hn1
        change xcall false (d + 2) j_X0_bestCut [.ref 133, .int (nI a), .int (nI b), .int (nI n)] S (some (.int (xqc (xcu (xmc σ s n a b) (n - 1))))) S at gc
        cases ei : xcu (xmc σ s n a b) (n - 1) with
        | none =>
          rw [ei] at gc nx
          refine wp_iload dX11_mixture_24 rfl (wp_bipush (v := nI 6) dX11_mixture_26 rfl ?_)
          refine wn_icmp_ge dX11_mixture_28 rfl (by omega) (by omega) (fun c28 => absurd c28 (by omega)) (fun c28 => ?_)
          refine wp_iload dX11_mixture_31 rfl (wp_iload dX11_mixture_33 rfl ?_)
          refine wn_icmp_eq dX11_mixture_35 rfl (by omega) (by omega) (fun c35 => absurd c35 (by omega)) (fun c35 => ?_)
          refine wp_aload_n dX11_mixture_38 rfl rfl (wp_iload dX11_mixture_39 rfl (wp_aload_n dX11_mixture_41 rfl rfl (wp_iv3 dX11_mixture_42 k10_283 q_X11_elderIn (by decide) (xsh hX sh_0) (by decide) (Nat.le_of_ble_eq_true rfl) ga (wp_ifnull_R dX11_mixture_45 rfl (wp_aload_n dX11_mixture_48 rfl rfl (wp_iload dX11_mixture_49 rfl (wp_aload_n dX11_mixture_51 rfl rfl (wp_iv3 dX11_mixture_52 k10_283 q_X11_elderIn (by decide) (xsh hX sh_0) (by decide) (Nat.le_of_ble_eq_true rfl) gb (wp_ifnull_R dX11_mixture_55 rfl (wp_aload_n dX11_mixture_58 rfl rfl (g10_86 dX11_mixture_59 (xsh hX sh_0) (xrr hX r0_16) (wp_iload dX11_mixture_62 rfl (wp_iload dX11_mixture_64 rfl (wp_aload_n dX11_mixture_66 rfl rfl (gv10_355 dX11_mixture_67 hc hL (wp_iv4 dX11_mixture_70 k10_358 q_X0_bestCut (by decide) (xsh hX sh_133) (by decide) (Nat.le_of_ble_eq_true rfl) gc (wp_istore dX11_mixture_73 ⟨Nat.le_of_ble_eq_true rfl, Or.inr rfl⟩ rfl (wp_iload dX11_mixture_75 rfl (wp_iconst (v := -1) dX11_mixture_77 rfl ?_)))))))))))))))))))
          refine wp_icmp_ne dX11_mixture_78 rfl (fun c78 => absurd c78 (fun h => h rfl)) (fun c78 => ?_)
          refine wp_iconst (v := -1) dX11_mixture_81 rfl (wp_goto dX11_mixture_82 rfl (wp_istore dX11_mixture_98 ⟨Nat.le_of_ble_eq_true rfl, Or.inr rfl⟩ rfl (wp_iload dX11_mixture_100 rfl (wp_iconst (v := -1) dX11_mixture_102 rfl ?_))))
          refine wp_icmp_eq dX11_mixture_103 rfl (fun c103 => ?_) (fun c103 => absurd c103 (not_not_intro rfl))
          exact wp_iinc dX11_mixture_132 rfl (nI_1 _) ⟨Nat.le_of_ble_eq_true rfl, Or.inr rfl⟩ rfl (wp_goto dX11_mixture_135 rfl (nx _ _))
        | some x =>
          obtain ⟨v, q⟩ := x
          rw [ei] at gc nx
          obtain ⟨q1, q2, q3⟩ := xcu_b (xmc σ s n a b) (n - 1) v q ei
          have gm := c_mixtureCost (xahn_le σ s) (xbhn_le σ s) hn (q := q) (d + 1) ha (show b < 6 by omega) (by omega) ea eb hX hA
          change xcall false (d + 1 + 1) j_X0_mixtureCost [.ref 133, .int (nI a), .int (nI b), .int (nI q)] S (some (.int (nI (xmc σ s n a b q)))) S at gm
          rw [← q1] at gm
          have vb := xmc_le σ s n a b q
          have q1' : nI v ≠ -1 := nI_m1 (by omega)
          cases em : (xmj (xel σ δ s) (xmc σ s n) n a (xmo (xel σ δ s) (xmc σ s n) n a) b) with
          | none =>
            rw [em] at nx
            refine wp_iload dX11_mixture_24 rfl (wp_bipush (v := nI 6) dX11_mixture_26 rfl ?_)
            refine wn_icmp_ge dX11_mixture_28 rfl (by omega) (by omega) (fun c28 => absurd c28 (by omega)) (fun c28 => ?_)
            refine wp_iload dX11_mixture_31 rfl (wp_iload dX11_mixture_33 rfl ?_)
            refine wn_icmp_eq dX11_mixture_35 rfl (by omega) (by omega) (fun c35 => absurd c35 (by omega)) (fun c35 => ?_)
            refine wp_aload_n dX11_mixture_38 rfl rfl (wp_iload dX11_mixture_39 rfl (wp_aload_n dX11_mixture_41 rfl rfl (wp_iv3 dX11_mixture_42 k10_283 q_X11_elderIn (by decide) (xsh hX sh_0) (by decide) (Nat.le_of_ble_eq_true rfl) ga (wp_ifnull_R dX11_mixture_45 rfl (wp_aload_n dX11_mixture_48 rfl rfl (wp_iload dX11_mixture_49 rfl (wp_aload_n dX11_mixture_51 rfl rfl (wp_iv3 dX11_mixture_52 k10_283 q_X11_elderIn (by decide) (xsh hX sh_0) (by decide) (Nat.le_of_ble_eq_true rfl) gb (wp_ifnull_R dX11_mixture_55 rfl (wp_aload_n dX11_mixture_58 rfl rfl (g10_86 dX11_mixture_59 (xsh hX sh_0) (xrr hX r0_16) (wp_iload dX11_mixture_62 rfl (wp_iload dX11_mixture_64 rfl (wp_aload_n dX11_mixture_66 rfl rfl (gv10_355 dX11_mixture_67 hc hL (wp_iv4 dX11_mixture_70 k10_358 q_X0_bestCut (by decide) (xsh hX sh_133) (by decide) (Nat.le_of_ble_eq_true rfl) gc (wp_istore dX11_mixture_73 ⟨Nat.le_of_ble_eq_true rfl, Or.inr rfl⟩ rfl (wp_iload dX11_mixture_75 rfl (wp_iconst (v := -1) dX11_mixture_77 rfl ?_)))))))))))))))))))
            refine wp_icmp_ne dX11_mixture_78 rfl (fun c78 => ?_) (fun c78 => absurd c78 (nI_m1 (show q < 2 ^ 31 by omega)))
            refine wp_aload_n dX11_mixture_85 rfl rfl (g10_86 dX11_mixture_86 (xsh hX sh_0) (xrr hX r0_16) (wp_iload dX11_mixture_89 rfl (wp_iload dX11_mixture_91 rfl (wp_iload dX11_mixture_93 rfl (wp_iv4 dX11_mixture_95 k10_361 q_X0_mixtureCost (by decide) (xsh hX sh_133) (by decide) (Nat.le_of_ble_eq_true rfl) gm (wp_istore dX11_mixture_98 ⟨Nat.le_of_ble_eq_true rfl, Or.inr rfl⟩ rfl (wp_iload dX11_mixture_100 rfl (wp_iconst (v := -1) dX11_mixture_102 rfl ?_))))))))
            refine wp_icmp_eq dX11_mixture_103 rfl (fun c103 => absurd c103 q1') (fun c103 => ?_)
            refine wp_iload_n dX11_mixture_106 rfl (wp_iconst (v := -1) dX11_mixture_107 rfl ?_)
            refine wp_icmp_eq dX11_mixture_108 rfl (fun c108 => ?_) (fun c108 => absurd c108 (not_not_intro rfl))
            exact wp_iload dX11_mixture_117 rfl (wp_istore_n dX11_mixture_119 ⟨Nat.le_of_ble_eq_true rfl, Or.inr rfl⟩ rfl (wp_iload dX11_mixture_120 rfl (wp_istore dX11_mixture_122 ⟨Nat.le_of_ble_eq_true rfl, Or.inr rfl⟩ rfl (wp_iload dX11_mixture_124 rfl (wp_istore dX11_mixture_126 ⟨Nat.le_of_ble_eq_true rfl, Or.inr rfl⟩ rfl (wp_iload dX11_mixture_128 rfl (wp_istore dX11_mixture_130 ⟨Nat.le_of_ble_eq_true rfl, Or.inr rfl⟩ rfl (wp_iinc dX11_mixture_132 rfl (nI_1 _) ⟨Nat.le_of_ble_eq_true rfl, Or.inr rfl⟩ rfl (wp_goto dX11_mixture_135 rfl (nx _ _))))))))))
          | some z =>
            obtain ⟨v', a', b', q'⟩ := z
            have kb := xkb_mi (el := xel σ δ s) (fun a b q => xmc_le σ s n a b q) hn ha (xkb_mo (el := xel σ δ s) (fun a b q => xmc_le σ s n a b q) hn a (by omega)) b (by omega) v' a' b' q' em
            have kb1 := kb.1
            rw [em] at nx
            rcases Nat.lt_or_ge v v' with wv | wv
            · change (∀ y9 y10, Wp false (d + 3) 10 cX11_mixture (some .int) false 24 [.ref 0, .ref (ρ s), .int (nI w), .int (xq0 (xbs (some (v', a', b', q')) (v, a, b, q))), .int (xq1 (xbs (some (v', a', b', q')) (v, a, b, q))), .int (xq2 (xbs (some (v', a', b', q')) (v, a, b, q))), .int (xq3 (xbs (some (v', a', b', q')) (v, a, b, q))), .int (nI a), .int (nI (b + 1)), y9, y10] [] S Q) at nx
              rw [xbs_L (c := (v, a, b, q)) (x := (v', a', b', q')) wv] at nx
              have w' : xq0 (some (v', a', b', q')) = nI v' := rfl
              refine wp_iload dX11_mixture_24 rfl (wp_bipush (v := nI 6) dX11_mixture_26 rfl ?_)
              refine wn_icmp_ge dX11_mixture_28 rfl (by omega) (by omega) (fun c28 => absurd c28 (by omega)) (fun c28 => ?_)
              refine wp_iload dX11_mixture_31 rfl (wp_iload dX11_mixture_33 rfl ?_)
              refine wn_icmp_eq dX11_mixture_35 rfl (by omega) (by omega) (fun c35 => absurd c35 (by omega)) (fun c35 => ?_)
              refine wp_aload_n dX11_mixture_38 rfl rfl (wp_iload dX11_mixture_39 rfl (wp_aload_n dX11_mixture_41 rfl rfl (wp_iv3 dX11_mixture_42 k10_283 q_X11_elderIn (by decide) (xsh hX sh_0) (by decide) (Nat.le_of_ble_eq_true rfl) ga (wp_ifnull_R dX11_mixture_45 rfl (wp_aload_n dX11_mixture_48 rfl rfl (wp_iload dX11_mixture_49 rfl (wp_aload_n dX11_mixture_51 rfl rfl (wp_iv3 dX11_mixture_52 k10_283 q_X11_elderIn (by decide) (xsh hX sh_0) (by decide) (Nat.le_of_ble_eq_true rfl) gb (wp_ifnull_R dX11_mixture_55 rfl (wp_aload_n dX11_mixture_58 rfl rfl (g10_86 dX11_mixture_59 (xsh hX sh_0) (xrr hX r0_16) (wp_iload dX11_mixture_62 rfl (wp_iload dX11_mixture_64 rfl (wp_aload_n dX11_mixture_66 rfl rfl (gv10_355 dX11_mixture_67 hc hL (wp_iv4 dX11_mixture_70 k10_358 q_X0_bestCut (by decide) (xsh hX sh_133) (by decide) (Nat.le_of_ble_eq_true rfl) gc (wp_istore dX11_mixture_73 ⟨Nat.le_of_ble_eq_true rfl, Or.inr rfl⟩ rfl (wp_iload dX11_mixture_75 rfl (wp_iconst (v := -1) dX11_mixture_77 rfl ?_)))))))))))))))))))
              refine wp_icmp_ne dX11_mixture_78 rfl (fun c78 => ?_) (fun c78 => absurd c78 (nI_m1 (show q < 2 ^ 31 by omega)))
              refine wp_aload_n dX11_mixture_85 rfl rfl (g10_86 dX11_mixture_86 (xsh hX sh_0) (xrr hX r0_16) (wp_iload dX11_mixture_89 rfl (wp_iload dX11_mixture_91 rfl (wp_iload dX11_mixture_93 rfl (wp_iv4 dX11_mixture_95 k10_361 q_X0_mixtureCost (by decide) (xsh hX sh_133) (by decide) (Nat.le_of_ble_eq_true rfl) gm (wp_istore dX11_mixture_98 ⟨Nat.le_of_ble_eq_true rfl, Or.inr rfl⟩ rfl (wp_iload dX11_mixture_100 rfl (wp_iconst (v := -1) dX11_mixture_102 rfl ?_))))))))
              refine wp_icmp_eq dX11_mixture_103 rfl (fun c103 => absurd c103 q1') (fun c103 => ?_)
              refine wp_iload_n dX11_mixture_106 rfl (wp_iconst (v := -1) dX11_mixture_107 rfl ?_)
              refine wp_icmp_eq dX11_mixture_108 rfl (fun c108 => absurd c108 (nI_m1 (show v' < 2 ^ 31 by omega))) (fun c108 => ?_)
              refine wp_iload dX11_mixture_111 rfl (wp_iload_n dX11_mixture_113 rfl ?_)
              refine wn_icmp_ge dX11_mixture_114 rfl (by omega) (by omega) (fun c114 => absurd c114 (by omega)) (fun c114 => ?_)
              exact wp_iload dX11_mixture_117 rfl (wp_istore_n dX11_mixture_119 ⟨Nat.le_of_ble_eq_true rfl, Or.inr rfl⟩ rfl (wp_iload dX11_mixture_120 rfl (wp_istore dX11_mixture_122 ⟨Nat.le_of_ble_eq_true rfl, Or.inr rfl⟩ rfl (wp_iload dX11_mixture_124 rfl (wp_istore dX11_mixture_126 ⟨Nat.le_of_ble_eq_true rfl, Or.inr rfl⟩ rfl (wp_iload dX11_mixture_128 rfl (wp_istore dX11_mixture_130 ⟨Nat.le_of_ble_eq_true rfl, Or.inr rfl⟩ rfl (wp_iinc dX11_mixture_132 rfl (nI_1 _) ⟨Nat.le_of_ble_eq_true rfl, Or.inr rfl⟩ rfl (wp_goto dX11_mixture_135 rfl (nx _ _))))))))))
            · change (∀ y9 y10, Wp false (d + 3) 10 cX11_mixture (some .int) false 24 [.ref 0, .ref (ρ s), .int (nI w), .int (xq0 (xbs (some (v', a', b', q')) (v, a, b, q))), .int (xq1 (xbs (some (v', a', b', q')) (v, a, b, q))), .int (xq2 (xbs (some (v', a', b', q')) (v, a, b, q))), .int (xq3 (xbs (some (v', a', b', q')) (v, a, b, q))), .int (nI a), .int (nI (b + 1)), y9, y10] [] S Q) at nx
              rw [xbs_G (c := (v, a, b, q)) (x := (v', a', b', q')) wv] at nx
              refine wp_iload dX11_mixture_24 rfl (wp_bipush (v := nI 6) dX11_mixture_26 rfl ?_)
              refine wn_icmp_ge dX11_mixture_28 rfl (by omega) (by omega) (fun c28 => absurd c28 (by omega)) (fun c28 => ?_)
              refine wp_iload dX11_mixture_31 rfl (wp_iload dX11_mixture_33 rfl ?_)
              refine wn_icmp_eq dX11_mixture_35 rfl (by omega) (by omega) (fun c35 => absurd c35 (by omega)) (fun c35 => ?_)
              refine wp_aload_n dX11_mixture_38 rfl rfl (wp_iload dX11_mixture_39 rfl (wp_aload_n dX11_mixture_41 rfl rfl (wp_iv3 dX11_mixture_42 k10_283 q_X11_elderIn (by decide) (xsh hX sh_0) (by decide) (Nat.le_of_ble_eq_true rfl) ga (wp_ifnull_R dX11_mixture_45 rfl (wp_aload_n dX11_mixture_48 rfl rfl (wp_iload dX11_mixture_49 rfl (wp_aload_n dX11_mixture_51 rfl rfl (wp_iv3 dX11_mixture_52 k10_283 q_X11_elderIn (by decide) (xsh hX sh_0) (by decide) (Nat.le_of_ble_eq_true rfl) gb (wp_ifnull_R dX11_mixture_55 rfl (wp_aload_n dX11_mixture_58 rfl rfl (g10_86 dX11_mixture_59 (xsh hX sh_0) (xrr hX r0_16) (wp_iload dX11_mixture_62 rfl (wp_iload dX11_mixture_64 rfl (wp_aload_n dX11_mixture_66 rfl rfl (gv10_355 dX11_mixture_67 hc hL (wp_iv4 dX11_mixture_70 k10_358 q_X0_bestCut (by decide) (xsh hX sh_133) (by decide) (Nat.le_of_ble_eq_true rfl) gc (wp_istore dX11_mixture_73 ⟨Nat.le_of_ble_eq_true rfl, Or.inr rfl⟩ rfl (wp_iload dX11_mixture_75 rfl (wp_iconst (v := -1) dX11_mixture_77 rfl ?_)))))))))))))))))))
              refine wp_icmp_ne dX11_mixture_78 rfl (fun c78 => ?_) (fun c78 => absurd c78 (nI_m1 (show q < 2 ^ 31 by omega)))
              refine wp_aload_n dX11_mixture_85 rfl rfl (g10_86 dX11_mixture_86 (xsh hX sh_0) (xrr hX r0_16) (wp_iload dX11_mixture_89 rfl (wp_iload dX11_mixture_91 rfl (wp_iload dX11_mixture_93 rfl (wp_iv4 dX11_mixture_95 k10_361 q_X0_mixtureCost (by decide) (xsh hX sh_133) (by decide) (Nat.le_of_ble_eq_true rfl) gm (wp_istore dX11_mixture_98 ⟨Nat.le_of_ble_eq_true rfl, Or.inr rfl⟩ rfl (wp_iload dX11_mixture_100 rfl (wp_iconst (v := -1) dX11_mixture_102 rfl ?_))))))))
              refine wp_icmp_eq dX11_mixture_103 rfl (fun c103 => absurd c103 q1') (fun c103 => ?_)
              refine wp_iload_n dX11_mixture_106 rfl (wp_iconst (v := -1) dX11_mixture_107 rfl ?_)
              refine wp_icmp_eq dX11_mixture_108 rfl (fun c108 => absurd c108 (nI_m1 (show v' < 2 ^ 31 by omega))) (fun c108 => ?_)
              refine wp_iload dX11_mixture_111 rfl (wp_iload_n dX11_mixture_113 rfl ?_)
              refine wn_icmp_ge dX11_mixture_114 rfl (by omega) (by omega) (fun c114 => ?_) (fun c114 => absurd c114 (by omega))
              exact wp_iinc dX11_mixture_132 rfl (nI_1 _) ⟨Nat.le_of_ble_eq_true rfl, Or.inr rfl⟩ rfl (wp_goto dX11_mixture_135 rfl (nx _ _))
theorem mx_out {ρ : Nat → Nat} {σ : xSv} {δ : Nat → Int32} {s n : Nat} {w d : Nat} (hw : w ≤ 3) (hr : xro ρ) (hs : s < 6) (hσ : σ s ≠ none) (hn1 : 1 ≤ n) (hn : n ≤ 16) {S : xS} (hX : XC S) (hS : xSl S ρ σ) (hD : xDC S ρ σ δ) (hL : S.2.1 (ρ s) 7 = nI n) (hA : xAB S (xel σ δ s) (xahn σ s) (xbhn σ s) n 6) : ∀ (r a : Nat) (y8 y9 y10 : Value), a + r = 6 → Wp false (d + 3) 10 cX11_mixture (some .int) false 14 [.ref 0, .ref (ρ s), .int (nI w), .int (xq0 (xmo (xel σ δ s) (xmc σ s n) n a)), .int (xq1 (xmo (xel σ δ s) (xmc σ s n) n a)), .int (xq2 (xmo (xel σ δ s) (xmc σ s n) n a)), .int (xq3 (xmo (xel σ δ s) (xmc σ s n) n a)), .int (nI a), y8, y9, y10] [] S (fun r S' => r = some (.int (xmx (xmo (xel σ δ s) (xmc σ s n) n 6) w)) ∧ S' = S) := by
  intro r
  have hc := ((hr.1 s (by omega)).sh hX).1
  induction r with
  | zero =>
    intro a y8 y9 y10 ha
    have haa : a = 6 := by omega
    subst haa
    rcases (show w = 0 ∨ w = 1 ∨ w = 2 ∨ w = 3 by omega) with rfl | rfl | rfl | rfl
    · refine wp_iload dX11_mixture_14 rfl (wp_bipush (v := nI 6) dX11_mixture_16 rfl ?_)
      refine wn_icmp_ge dX11_mixture_18 rfl (by omega) (by omega) (fun c18 => ?_) (fun c18 => absurd c18 (by omega))
      exact wp_iload_n dX11_mixture_144 rfl (wp_table_in dX11_mixture_145 (by decide) rfl rfl (wp_iload_n dX11_mixture_172 rfl (wp_ireturn dX11_mixture_173 rfl rfl ⟨rfl, rfl⟩)))
    · refine wp_iload dX11_mixture_14 rfl (wp_bipush (v := nI 6) dX11_mixture_16 rfl ?_)
      refine wn_icmp_ge dX11_mixture_18 rfl (by omega) (by omega) (fun c18 => ?_) (fun c18 => absurd c18 (by omega))
      exact wp_iload_n dX11_mixture_144 rfl (wp_table_in dX11_mixture_145 (by decide) rfl rfl (wp_iload dX11_mixture_174 rfl (wp_ireturn dX11_mixture_176 rfl rfl ⟨rfl, rfl⟩)))
    · refine wp_iload dX11_mixture_14 rfl (wp_bipush (v := nI 6) dX11_mixture_16 rfl ?_)
      refine wn_icmp_ge dX11_mixture_18 rfl (by omega) (by omega) (fun c18 => ?_) (fun c18 => absurd c18 (by omega))
      exact wp_iload_n dX11_mixture_144 rfl (wp_table_in dX11_mixture_145 (by decide) rfl rfl (wp_iload dX11_mixture_177 rfl (wp_ireturn dX11_mixture_179 rfl rfl ⟨rfl, rfl⟩)))
    · refine wp_iload dX11_mixture_14 rfl (wp_bipush (v := nI 6) dX11_mixture_16 rfl ?_)
      refine wn_icmp_ge dX11_mixture_18 rfl (by omega) (by omega) (fun c18 => ?_) (fun c18 => absurd c18 (by omega))
      exact wp_iload_n dX11_mixture_144 rfl (wp_table_out dX11_mixture_145 (Or.inr (by decide)) rfl (wp_iload dX11_mixture_180 rfl (wp_ireturn dX11_mixture_182 rfl rfl ⟨rfl, rfl⟩)))
  | succ r ih =>
    intro a y8 y9 y10 ha
    refine wp_iload dX11_mixture_14 rfl (wp_bipush (v := nI 6) dX11_mixture_16 rfl ?_)
    refine wn_icmp_ge dX11_mixture_18 rfl (by omega) (by omega) (fun c18 => absurd c18 (by omega)) (fun c18 => ?_)
    refine wp_iconst (v := nI 0) dX11_mixture_21 rfl (wp_istore dX11_mixture_22 ⟨Nat.le_of_ble_eq_true rfl, Or.inr rfl⟩ rfl ?_)
    refine mx_in hr hs hσ hn1 hn (show a < 6 by omega) hX hS hD hL hA (fun y8 y9 y10 => ?_) 6 0 _ _ rfl
    exact wp_iinc dX11_mixture_138 rfl (nI_1 _) ⟨Nat.le_of_ble_eq_true rfl, Or.inr rfl⟩ rfl (wp_goto dX11_mixture_141 rfl (ih (a + 1) _ _ _ (by omega)))
theorem c_mixture {ρ : Nat → Nat} {σ : xSv} {δ : Nat → Int32} {s n : Nat} {w : Nat} (d : Nat) (hw : w ≤ 3) (hr : xro ρ) (hs : s < 6) (hσ : σ s ≠ none) (hn1 : 1 ≤ n) (hn : n ≤ 16) {S : xS} (hX : XC S) (hS : xSl S ρ σ) (hD : xDC S ρ σ δ) (hL : S.2.1 (ρ s) 7 = nI n) (hA : xAB S (xel σ δ s) (xahn σ s) (xbhn σ s) n 6) : xcall false (d + 3) j_X11_mixture [.ref 0, .ref (ρ s), .int (nI w)] S (some (.int (xmx (xmo (xel σ δ s) (xmc σ s n) n 6) w))) S := by
  refine xcall_intro (ls := [.ref 0, .ref (ρ s), .int (nI w), .float 0, .float 0, .float 0, .float 0, .float 0, .float 0, .float 0, .float 0]) q_X11_mixture (by decide) rfl (Nat.le_of_ble_eq_true rfl) rfl ?_
  exact wp_iconst (v := -1) dX11_mixture_0 rfl (wp_istore_n dX11_mixture_1 ⟨Nat.le_of_ble_eq_true rfl, Or.inr rfl⟩ rfl (wp_iconst (v := -1) dX11_mixture_2 rfl (wp_istore dX11_mixture_3 ⟨Nat.le_of_ble_eq_true rfl, Or.inr rfl⟩ rfl (wp_iconst (v := -1) dX11_mixture_5 rfl (wp_istore dX11_mixture_6 ⟨Nat.le_of_ble_eq_true rfl, Or.inr rfl⟩ rfl (wp_iconst (v := -1) dX11_mixture_8 rfl (wp_istore dX11_mixture_9 ⟨Nat.le_of_ble_eq_true rfl, Or.inr rfl⟩ rfl (wp_iconst (v := nI 0) dX11_mixture_11 rfl (wp_istore dX11_mixture_12 ⟨Nat.le_of_ble_eq_true rfl, Or.inr rfl⟩ rfl (mx_out hw hr hs hσ hn1 hn hX hS hD hL hA 6 0 _ _ _ rfl))))))))))
