/-! COUNTING of the class: sayLine, sayAll, reckon -/
theorem xsay_ge (nm : Nat → Nat) (ct : xIt → Nat) : ∀ (I : List xIt) (p : Nat), p ≤ xsay nm ct I p
  | [], p => Nat.le_refl _
  | o :: r, p => by
    rw [xsay]
    exact Nat.le_trans (Nat.le_add_right _ _) (xsay_ge nm ct r _)
theorem xrp_ge {f : Nat → Nat} (h : ∀ p, p ≤ f p) : ∀ (n p : Nat), p ≤ xrp f n p
  | 0, p => Nat.le_refl _
  | n + 1, p => Nat.le_trans (h p) (xrp_ge h n (f p))
theorem xsaL_ge (nm : Nat → Nat) (ct : xIt → Nat) : ∀ (L : List xLn) (p : Nat), p ≤ xsaL nm ct L p
  | [], p => Nat.le_refl _
  | ln :: r, p => Nat.le_trans (xrp_ge (xsay_ge nm ct ln.2.2) ln.1 p) (xsaL_ge nm ct r _)
theorem xsg_ge (nm : Nat → Nat) : ∀ (l : List Nat) (p : Nat), p ≤ xsg nm l p
  | [], p => Nat.le_refl _
  | x :: r, p => by
    rw [xsg]
    split
    · omega
    · have := xsg_ge nm r (p + x + nm (p + x))
      omega
/-- what a name counts at a place -/
def xnm (bt : Bool) (nb : Nat → Nat) (f : Bool) (R : List Nat) (p : Nat) : Nat := if bt = true then nb (xow f (xha R p)) else 1
theorem xnm_or (bt : Bool) (nb : Nat → Nat) (f : Bool) (R : List Nat) : bt = true ∨ ∀ p, xnm bt nb f R p = 1 := by
  cases bt with
  | true => exact Or.inl rfl
  | false => exact Or.inr (fun p => rfl)
theorem xgp_F (ct : xIt → Nat) : ∀ (I : List xIt) (g : Nat), (xgp ct false I g).length = 1
  | [], g => rfl
  | o :: r, g => by
    rw [xgp, if_neg (fun w => absurd w.2 (by decide))]
    exact xgp_F ct r _
theorem xrp_1 {nm : Nat → Nat} {ct : xIt → Nat} {bt : Bool} {I : List xIt} (h : bt = true ∨ ∀ p, nm p = 1) (h1 : (xgp ct bt I 0).length = 1) : ∀ (n p : Nat), xrp (xsay nm ct I) n p = p + (xgp ct bt I 0).getD 0 0 * n
  | 0, p => rfl
  | n + 1, p => by
    have e := xsg_gp (ct := ct) h I 0 p
    have e2 : xsg nm (xgp ct bt I 0) p = p + (xgp ct bt I 0).getD 0 0 := by
      obtain ⟨x, hx⟩ := List.length_eq_one_iff.mp h1
      rw [hx, xsg, if_pos rfl]
      rfl
    rw [Nat.add_zero] at e
    rw [xrp, xrp_1 h h1 n, ← e, e2, Nat.mul_succ]
    omega
def xNb (S : xS) (nb : Nat → Nat) (P : Nat) : Prop := ∀ p, p < P → S.2.1 77 p = nI (nb p)
theorem sl_loop {g : xRg} {c : Nat} {R G : List Nat} {nb : Nat → Nat} {b : Nat} {d : Nat} {x2 : Value} {x4 : Int32} (hg : xgo g) (hco : xCo c) (hr1 : 1 ≤ R.length) (hr2 : R.length ≤ 24) (hr3 : ∀ p, xha R p < xgH g) (hb : b + G.length ≤ 136) {S : xS} (hX : XC S) (hR : xRC S g) (hl : xRl S R) (hN : xNb S nb (xgP g)) (hG : ∀ k, k < G.length → S.2.1 (c + 1) (b + k) = nI (G.getD k 0)) : ∀ (j k p : Nat), k + j = G.length → xsg (xnm true nb (xgf g) R) (G.drop k) p ≤ 2 ^ 29 → Wp false (d + 1) 4 cX4_sayLine (some .int) false 7 [.ref 74, .ref c, x2, .int (nI (b + G.length)), .int x4, .int (nI p), .int (nI (b + k))] [] S (fun r S' => r = some (.int (nI (xsg (xnm true nb (xgf g) R) (G.drop k) p))) ∧ S' = S) := by
  obtain ⟨q1, q2, q3⟩ := hg.H
  obtain ⟨hc, hc1, hc2, hc3, rc0, rc1, rc2⟩ := hco.sh hX
  intro j
  induction j with
  | zero =>
    intro k p hk hB
    have hkk : k = G.length := by omega
    subst hkk
    rw [List.drop_length, xsg]
    refine wp_iload dX4_sayLine_7 rfl (wp_iload_n dX4_sayLine_9 rfl ?_)
    refine wn_icmp_ge dX4_sayLine_10 rfl (by omega) (by omega) (fun c10 => ?_) (fun c10 => absurd c10 (by omega))
    exact wp_iload dX4_sayLine_57 rfl (wp_ireturn dX4_sayLine_59 rfl rfl ⟨rfl, rfl⟩)
  | succ j ih =>
    intro k p hk hB
    have ed := xdrop_s 0 G k (by omega)
    rw [ed, xsg] at hB ⊢
    have gg := c_gapAt (d + 0) hco (show b + k < 136 by omega) hX (hG k (by omega))
    rcases Nat.lt_or_ge (k + 1) G.length with w | w
    · have hne : ¬ (G.drop (k + 1) = []) := fun e => by
        have := congrArg List.length e
        rw [List.length_drop] at this
        have h0 : ([] : List Nat).length = 0 := rfl
        omega
      rw [if_neg hne] at hB ⊢
      have hge := xsg_ge (xnm true nb (xgf g) R) (G.drop (k + 1)) (p + G.getD k 0 + (xnm true nb (xgf g) R) (p + G.getD k 0))
      have gh := c_handAt (p := p + G.getD k 0) (d + 0) hr1 hr2 (by omega) hX hl
      have h3 := hr3 (p + G.getD k 0)
      have go := c_ownerOf (h := xha R (p + G.getD k 0)) (d + 0) (by omega) hX hR
      have hw := xow_lt h3
      have gb := c_beatsOfName (d + 0) hg hw hX hR (hN _ hw)
      have ih2 := ih (k + 1) (p + G.getD k 0 + (xnm true nb (xgf g) R) (p + G.getD k 0)) (by omega) hB
      refine wp_iload dX4_sayLine_7 rfl (wp_iload_n dX4_sayLine_9 rfl ?_)
      refine wn_icmp_ge dX4_sayLine_10 rfl (by omega) (by omega) (fun c10 => absurd c10 (by omega)) (fun c10 => ?_)
      refine wp_iload dX4_sayLine_13 rfl (wp_aload_n dX4_sayLine_15 rfl rfl (wp_iload dX4_sayLine_16 rfl (wp_iv2 dX4_sayLine_18 k4_177 q_X1_gapAt (by decide) hc (by decide) (Nat.le_of_ble_eq_true rfl) gg (wv_iadd dX4_sayLine_21 (nI_add _ _) (wp_istore dX4_sayLine_22 ⟨Nat.le_of_ble_eq_true rfl, Or.inr rfl⟩ rfl (wp_iload dX4_sayLine_24 rfl (wp_iconst (v := nI 1) dX4_sayLine_26 rfl (wv_iadd dX4_sayLine_27 (nI_add _ _) (wp_iload_n dX4_sayLine_28 rfl ?_)))))))))
      refine wn_icmp_ge dX4_sayLine_29 rfl (by omega) (by omega) (fun c29 => absurd c29 (by omega)) (fun c29 => ?_)
      exact wp_iload dX4_sayLine_32 rfl (wp_aload_n dX4_sayLine_34 rfl rfl (wp_aload_n dX4_sayLine_35 rfl rfl (wp_aload_n dX4_sayLine_36 rfl rfl (wp_iload dX4_sayLine_37 rfl (wp_iv2 dX4_sayLine_39 k4_165 q_X4_handAt (by decide) (xsh hX sh_74) (by decide) (Nat.le_of_ble_eq_true rfl) gh (wp_iv2 dX4_sayLine_42 k4_168 q_X4_ownerOf (by decide) (xsh hX sh_74) (by decide) (Nat.le_of_ble_eq_true rfl) go (wp_iv2 dX4_sayLine_45 k4_187 q_X4_beatsOfName (by decide) (xsh hX sh_74) (by decide) (Nat.le_of_ble_eq_true rfl) gb (wv_iadd dX4_sayLine_48 (nI_add _ _) (wp_istore dX4_sayLine_49 ⟨Nat.le_of_ble_eq_true rfl, Or.inr rfl⟩ rfl (wp_iinc dX4_sayLine_51 rfl (nI_1 _) ⟨Nat.le_of_ble_eq_true rfl, Or.inr rfl⟩ rfl (wp_goto dX4_sayLine_54 rfl ih2)))))))))))
    · have he : G.drop (k + 1) = [] := List.drop_eq_nil_of_le (by omega)
      have ih2 := ih (k + 1) (p + G.getD k 0) (by omega)
      rw [he, xsg] at ih2
      rw [if_pos he] at hB ⊢
      have ih3 := ih2 hB
      refine wp_iload dX4_sayLine_7 rfl (wp_iload_n dX4_sayLine_9 rfl ?_)
      refine wn_icmp_ge dX4_sayLine_10 rfl (by omega) (by omega) (fun c10 => absurd c10 (by omega)) (fun c10 => ?_)
      refine wp_iload dX4_sayLine_13 rfl (wp_aload_n dX4_sayLine_15 rfl rfl (wp_iload dX4_sayLine_16 rfl (wp_iv2 dX4_sayLine_18 k4_177 q_X1_gapAt (by decide) hc (by decide) (Nat.le_of_ble_eq_true rfl) gg (wv_iadd dX4_sayLine_21 (nI_add _ _) (wp_istore dX4_sayLine_22 ⟨Nat.le_of_ble_eq_true rfl, Or.inr rfl⟩ rfl (wp_iload dX4_sayLine_24 rfl (wp_iconst (v := nI 1) dX4_sayLine_26 rfl (wv_iadd dX4_sayLine_27 (nI_add _ _) (wp_iload_n dX4_sayLine_28 rfl ?_)))))))))
      refine wn_icmp_ge dX4_sayLine_29 rfl (by omega) (by omega) (fun c29 => ?_) (fun c29 => absurd c29 (by omega))
      exact wp_iinc dX4_sayLine_51 rfl (nI_1 _) ⟨Nat.le_of_ble_eq_true rfl, Or.inr rfl⟩ rfl (wp_goto dX4_sayLine_54 rfl ih3)
theorem c_sayLine {g : xRg} {c : Nat} {R G : List Nat} {nb : Nat → Nat} {b : Nat} {p : Nat} (d : Nat) (hg : xgo g) (hco : xCo c) (hr1 : 1 ≤ R.length) (hr2 : R.length ≤ 24) (hr3 : ∀ p, xha R p < xgH g) (hb : b + G.length ≤ 136) {S : xS} (hX : XC S) (hR : xRC S g) (hl : xRl S R) (hN : xNb S nb (xgP g)) (hG : ∀ k, k < G.length → S.2.1 (c + 1) (b + k) = nI (G.getD k 0)) (hB : xsg (xnm true nb (xgf g) R) G p ≤ 2 ^ 29) : xcall false (d + 1) j_X4_sayLine [.ref 74, .ref c, .int (nI b), .int (nI (b + G.length)), .int (nI p)] S (some (.int (nI (xsg (xnm true nb (xgf g) R) G p)))) S := by
  refine xcall_intro (ls := [.ref 74, .ref c, .int (nI b), .int (nI (b + G.length)), .int (nI p), .float 0, .float 0]) q_X4_sayLine (by decide) rfl (Nat.le_of_ble_eq_true rfl) rfl ?_
  exact wp_iload dX4_sayLine_0 rfl (wp_istore dX4_sayLine_2 ⟨Nat.le_of_ble_eq_true rfl, Or.inr rfl⟩ rfl (wp_iload_n dX4_sayLine_4 rfl (wp_istore dX4_sayLine_5 ⟨Nat.le_of_ble_eq_true rfl, Or.inr rfl⟩ rfl (sl_loop hg hco hr1 hr2 hr3 hb hX hR hl hN hG G.length 0 p (Nat.zero_add _) hB))))
theorem xof_gl {ct : xIt → Nat} {bt : Bool} {L : List xLn} {l k : Nat} (hl : l < L.length) (hk : k < (xgpl ct bt (L.getD l (0, 0, []))).length) : xof (xgpl ct bt) L l + k < (L.flatMap (xgpl ct bt)).length ∧ (L.flatMap (xgpl ct bt)).getD (xof (xgpl ct bt) L l + k) 0 = (xgpl ct bt (L.getD l (0, 0, []))).getD k 0 := by
  exact xof_ltf (xgpl ct bt) 0 hl hk
theorem sa_times {g : xRg} {c r : Nat} {R : List Nat} {nb : Nat → Nat} {bt : Bool} {ct : xIt → Nat} {L : List xLn} {l d : Nat} {i5 : Nat} (hg : xgo g) (hco : xCo c) (hr1 : 1 ≤ R.length) (hr2 : R.length ≤ 24) (hr3 : ∀ p, xha R p < xgH g) (ht : (L.getD l (0, 0, [])).1 ≤ 9) (hl16 : l < 16) {S : xS} (hX : XC S) (hR : xRC S g) (hl : xRl S R) (hN : xNb S nb (xgP g)) (hb : bt = true) (hl0 : l < L.length) (h136 : (L.flatMap (xgpl ct bt)).length ≤ 136) (hG : xCh c S ct bt L r) (h5 : i5 = xof (xgpl ct bt) L l + (xgpl ct bt (L.getD l (0, 0, []))).length) {Q : Option Value → xS → Prop} {pe : Nat} (K : ∀ y6, Wp false (d + 2) 4 cX4_sayAll (some .int) false 89 [.ref 74, .ref c, .int (nI pe), .int (nI l), .int (nI (xof (xgpl ct bt) L l)), .int (nI i5), y6] [] S Q) (hpe : pe ≤ 2 ^ 29) : ∀ (j i p : Nat), i + j = (L.getD l (0, 0, [])).1 → xrp (xsay (xnm bt nb (xgf g) R) ct (L.getD l (0, 0, [])).2.2) j p = pe → Wp false (d + 2) 4 cX4_sayAll (some .int) false 61 [.ref 74, .ref c, .int (nI p), .int (nI l), .int (nI (xof (xgpl ct bt) L l)), .int (nI i5), .int (nI i)] [] S Q := by
  subst hb
  obtain ⟨q1, q2, q3⟩ := hg.H
  obtain ⟨hc, hc1, hc2, hc3, rc0, rc1, rc2⟩ := hco.sh hX
  have k3 := hG.2.2.2.2.1 l hl0
  have hle := xof_le (xgpl ct true) L (l + 1)
  have hsu := xof_succ (xgpl ct true) L l hl0
  intro j
  induction j with
  | zero =>
    intro i p hi hp
    have hii : i = (L.getD l (0, 0, [])).1 := by omega
    rw [xrp] at hp
    subst hp
    refine wp_iload dX4_sayAll_61 rfl (wp_aload_n dX4_sayAll_63 rfl rfl (g4_180 dX4_sayAll_64 hc rc2 (wp_iload_n dX4_sayAll_67 rfl (wn_iaload dX4_sayAll_68 hc3 rfl (by omega) (by decide) k3 ?_))))
    refine wn_icmp_ge dX4_sayAll_69 rfl (by omega) (by omega) (fun c69 => ?_) (fun c69 => absurd c69 (by omega))
    exact K _
  | succ j ih =>
    intro i p hi hp
    have ih2 := ih (i + 1) _ (by omega) hp
    have e := xsg_gp (bt := true) (nm := (xnm true nb (xgf g) R)) (ct := ct) (Or.inl rfl) (L.getD l (0, 0, [])).2.2 0 p
    have hge := xrp_ge (xsay_ge (xnm true nb (xgf g) R) ct (L.getD l (0, 0, [])).2.2) j (xsay (xnm true nb (xgf g) R) ct (L.getD l (0, 0, [])).2.2 p)
    rw [xrp] at hp
    rw [Nat.add_zero] at e
    have gs := c_sayLine (G := xgpl ct true (L.getD l (0, 0, []))) (b := xof (xgpl ct true) L l) (p := p) (d + 0) hg hco hr1 hr2 hr3 (by omega) hX hR hl hN (fun k hk => by
      have := xof_gl (ct := ct) (bt := true) hl0 hk
      rw [← this.2]
      exact hG.2.2.2.2.2 _ this.1) (by
      show xsg _ (xgp ct true (L.getD l (0, 0, [])).2.2 0) p ≤ _
      rw [e]; omega)
    rw [show xsg (xnm true nb (xgf g) R) (xgpl ct true (L.getD l (0, 0, []))) p = xsay (xnm true nb (xgf g) R) ct (L.getD l (0, 0, [])).2.2 p from e, ← h5] at gs
    refine wp_iload dX4_sayAll_61 rfl (wp_aload_n dX4_sayAll_63 rfl rfl (g4_180 dX4_sayAll_64 hc rc2 (wp_iload_n dX4_sayAll_67 rfl (wn_iaload dX4_sayAll_68 hc3 rfl (by omega) (by decide) k3 ?_))))
    refine wn_icmp_ge dX4_sayAll_69 rfl (by omega) (by omega) (fun c69 => absurd c69 (by omega)) (fun c69 => ?_)
    exact wp_aload_n dX4_sayAll_72 rfl rfl (wp_aload_n dX4_sayAll_73 rfl rfl (wp_iload dX4_sayAll_74 rfl (wp_iload dX4_sayAll_76 rfl (wp_iload_n dX4_sayAll_78 rfl (wp_iv5 dX4_sayAll_79 k4_183 q_X4_sayLine (by decide) (xsh hX sh_74) (by decide) (Nat.le_of_ble_eq_true rfl) gs (wp_istore_n dX4_sayAll_82 ⟨Nat.le_of_ble_eq_true rfl, Or.inr rfl⟩ rfl (wp_iinc dX4_sayAll_83 rfl (nI_1 _) ⟨Nat.le_of_ble_eq_true rfl, Or.inr rfl⟩ rfl (wp_goto dX4_sayAll_86 rfl ih2))))))))
theorem sa_loop {g : xRg} {c r : Nat} {R : List Nat} {nb : Nat → Nat} {bt : Bool} {ct : xIt → Nat} {L : List xLn} {d : Nat} (hg : xgo g) (hco : xCo c) (hr1 : 1 ≤ R.length) (hr2 : R.length ≤ 24) (hr3 : ∀ p, xha R p < xgH g) (h16 : L.length ≤ 16) (h136 : (L.flatMap (xgpl ct bt)).length ≤ 136) (h9 : ∀ l, l < L.length → (L.getD l (0, 0, [])).1 ≤ 9) {S : xS} (hX : XC S) (hR : xRC S g) (hl : xRl S R) (hN : xNb S nb (xgP g)) (hG : xCh c S ct bt L r) : ∀ (j l p : Nat) (y4 y5 y6 : Value), l + j = L.length → xsaL (xnm bt nb (xgf g) R) ct (L.drop l) p ≤ 2 ^ 29 → Wp false (d + 2) 4 cX4_sayAll (some .int) false 4 [.ref 74, .ref c, .int (nI p), .int (nI l), y4, y5, y6] [] S (fun r' S' => r' = some (.int (nI (xsaL (xnm bt nb (xgf g) R) ct (L.drop l) p + r))) ∧ S' = S) := by
  obtain ⟨hc, hc1, hc2, hc3, rc0, rc1, rc2⟩ := hco.sh hX
  have k0 := hG.1
  have k1 := hG.2.1
  intro j
  induction j with
  | zero =>
    intro l p y4 y5 y6 hl0 hB
    have hll : l = L.length := by omega
    subst hll
    rw [List.drop_length, xsaL]
    refine wp_iload_n dX4_sayAll_4 rfl (wp_aload_n dX4_sayAll_5 rfl rfl (gv4_171 dX4_sayAll_6 hc k0 ?_))
    refine wn_icmp_ge dX4_sayAll_9 rfl (by omega) (by omega) (fun c9 => ?_) (fun c9 => absurd c9 (by omega))
    exact wp_iload_n dX4_sayAll_95 rfl (wp_aload_n dX4_sayAll_96 rfl rfl (gv4_123 dX4_sayAll_97 hc k1 (wv_iadd dX4_sayAll_100 (nI_add _ _) (wp_ireturn dX4_sayAll_101 rfl rfl ⟨rfl, rfl⟩))))
  | succ j ih =>
    intro l p y4 y5 y6 hl0 hB
    have ed := xdrop_s (0, 0, []) L l (by omega)
    rw [ed, xsaL] at hB ⊢
    have hge := xsaL_ge (xnm bt nb (xgf g) R) ct (L.drop (l + 1)) (xrp (xsay (xnm bt nb (xgf g) R) ct (L.getD l (0, 0, [])).2.2) (L.getD l (0, 0, [])).1 p)
    have ih2 := fun y4 y5 y6 => ih (l + 1) (xrp (xsay (xnm bt nb (xgf g) R) ct (L.getD l (0, 0, [])).2.2) (L.getD l (0, 0, [])).1 p) y4 y5 y6 (by omega) hB
    have g0 := hG.2.2.2.1 l (by omega)
    have g1 := hG.2.2.2.1 (l + 1) (by omega)
    have k3 := hG.2.2.2.2.1 l (by omega)
    have hsu := xof_succ (xgpl ct bt) L l (by omega)
    have hle := xof_le (xgpl ct bt) L (l + 1)
    rcases Decidable.em ((xgpl ct bt (L.getD l (0, 0, []))).length = 1) with w | w
    · have e1 := xrp_1 (xnm_or bt nb (xgf g) R) w (L.getD l (0, 0, [])).1 p
      rw [e1] at ih2
      have gx := xof_gl (ct := ct) (bt := bt) (show l < L.length by omega) (k := 0) (by omega)
      have gv := hG.2.2.2.2.2 _ gx.1
      rw [gx.2, Nat.add_zero] at gv
      have gg := c_gapAt (d + 1) hco (show xof (xgpl ct bt) L l < 136 by omega) hX gv
      rw [e1]
      refine wp_iload_n dX4_sayAll_4 rfl (wp_aload_n dX4_sayAll_5 rfl rfl (gv4_171 dX4_sayAll_6 hc k0 ?_))
      refine wn_icmp_ge dX4_sayAll_9 rfl (by omega) (by omega) (fun c9 => absurd c9 (by omega)) (fun c9 => ?_)
      refine wp_aload_n dX4_sayAll_12 rfl rfl (g4_174 dX4_sayAll_13 hc rc1 (wp_iload_n dX4_sayAll_16 rfl (wn_iaload dX4_sayAll_17 hc2 rfl (by omega) (by decide) g0 (wp_istore dX4_sayAll_18 ⟨Nat.le_of_ble_eq_true rfl, Or.inr rfl⟩ rfl (wp_aload_n dX4_sayAll_20 rfl rfl (g4_174 dX4_sayAll_21 hc rc1 (wp_iload_n dX4_sayAll_24 rfl (wp_iconst (v := nI 1) dX4_sayAll_25 rfl (wv_iadd dX4_sayAll_26 (nI_add _ _) (wn_iaload dX4_sayAll_27 hc2 rfl (by omega) (by decide) g1 (wp_istore dX4_sayAll_28 ⟨Nat.le_of_ble_eq_true rfl, Or.inr rfl⟩ rfl (wp_iload dX4_sayAll_30 rfl (wp_iload dX4_sayAll_32 rfl (wv_isub dX4_sayAll_34 (pk_sub (by omega)) (wp_iconst (v := nI 1) dX4_sayAll_35 rfl ?_)))))))))))))))
      refine wn_icmp_ne dX4_sayAll_36 rfl (by omega) (by omega) (fun c36 => absurd c36 (by omega)) (fun c36 => ?_)
      exact wp_iload_n dX4_sayAll_39 rfl (wp_aload_n dX4_sayAll_40 rfl rfl (wp_iload dX4_sayAll_41 rfl (wp_iv2 dX4_sayAll_43 k4_177 q_X1_gapAt (by decide) hc (by decide) (Nat.le_of_ble_eq_true rfl) gg (wp_aload_n dX4_sayAll_46 rfl rfl (g4_180 dX4_sayAll_47 hc rc2 (wp_iload_n dX4_sayAll_50 rfl (wn_iaload dX4_sayAll_51 hc3 rfl (by omega) (by decide) k3 (wv_imul dX4_sayAll_52 (pk_mul _ _) (wv_iadd dX4_sayAll_53 (nI_add _ _) (wp_istore_n dX4_sayAll_54 ⟨Nat.le_of_ble_eq_true rfl, Or.inr rfl⟩ rfl (wp_goto dX4_sayAll_55 rfl (wp_iinc dX4_sayAll_89 rfl (nI_1 _) ⟨Nat.le_of_ble_eq_true rfl, Or.inr rfl⟩ rfl (wp_goto dX4_sayAll_92 rfl (ih2 _ _ _))))))))))))))
    · have hb : bt = true := by
        cases bt with
        | true => rfl
        | false => exact absurd (xgp_F ct (L.getD l (0, 0, [])).2.2 0) w
      have st := sa_times (d := d) hg hco hr1 hr2 hr3 (h9 l (by omega)) (show l < 16 by omega) hX hR hl hN hb (by omega) h136 hG (i5 := xof (xgpl ct bt) L (l + 1)) hsu (Q := (fun r' S' => r' = some (.int (nI (xsaL (xnm bt nb (xgf g) R) ct (L.drop (l + 1)) (xrp (xsay (xnm bt nb (xgf g) R) ct (L.getD l (0, 0, [])).2.2) (L.getD l (0, 0, [])).1 p) + r))) ∧ S' = S)) (pe := xrp (xsay (xnm bt nb (xgf g) R) ct (L.getD l (0, 0, [])).2.2) (L.getD l (0, 0, [])).1 p) (fun y6 => by
        exact wp_iinc dX4_sayAll_89 rfl (nI_1 _) ⟨Nat.le_of_ble_eq_true rfl, Or.inr rfl⟩ rfl (wp_goto dX4_sayAll_92 rfl (ih2 _ _ _))) (by omega) (L.getD l (0, 0, [])).1 0 p (Nat.zero_add _) rfl
      have hpos : 1 ≤ (xgpl ct bt (L.getD l (0, 0, []))).length := by
        have h0 := xgp_ne ct bt (L.getD l (0, 0, [])).2.2 0
        rcases Nat.eq_zero_or_pos (xgpl ct bt (L.getD l (0, 0, []))).length with z | z
        · exact absurd (List.length_eq_zero_iff.mp z) h0
        · exact z
      refine wp_iload_n dX4_sayAll_4 rfl (wp_aload_n dX4_sayAll_5 rfl rfl (gv4_171 dX4_sayAll_6 hc k0 ?_))
      refine wn_icmp_ge dX4_sayAll_9 rfl (by omega) (by omega) (fun c9 => absurd c9 (by omega)) (fun c9 => ?_)
      refine wp_aload_n dX4_sayAll_12 rfl rfl (g4_174 dX4_sayAll_13 hc rc1 (wp_iload_n dX4_sayAll_16 rfl (wn_iaload dX4_sayAll_17 hc2 rfl (by omega) (by decide) g0 (wp_istore dX4_sayAll_18 ⟨Nat.le_of_ble_eq_true rfl, Or.inr rfl⟩ rfl (wp_aload_n dX4_sayAll_20 rfl rfl (g4_174 dX4_sayAll_21 hc rc1 (wp_iload_n dX4_sayAll_24 rfl (wp_iconst (v := nI 1) dX4_sayAll_25 rfl (wv_iadd dX4_sayAll_26 (nI_add _ _) (wn_iaload dX4_sayAll_27 hc2 rfl (by omega) (by decide) g1 (wp_istore dX4_sayAll_28 ⟨Nat.le_of_ble_eq_true rfl, Or.inr rfl⟩ rfl (wp_iload dX4_sayAll_30 rfl (wp_iload dX4_sayAll_32 rfl (wv_isub dX4_sayAll_34 (pk_sub (by omega)) (wp_iconst (v := nI 1) dX4_sayAll_35 rfl ?_)))))))))))))))
      refine wn_icmp_ne dX4_sayAll_36 rfl (by omega) (by omega) (fun c36 => ?_) (fun c36 => absurd c36 (by omega))
      exact wp_iconst (v := nI 0) dX4_sayAll_58 rfl (wp_istore dX4_sayAll_59 ⟨Nat.le_of_ble_eq_true rfl, Or.inr rfl⟩ rfl st)
theorem c_sayAll {g : xRg} {c r : Nat} {R : List Nat} {nb : Nat → Nat} {bt : Bool} {ct : xIt → Nat} {L : List xLn} (d : Nat) (hg : xgo g) (hco : xCo c) (hr1 : 1 ≤ R.length) (hr2 : R.length ≤ 24) (hr3 : ∀ p, xha R p < xgH g) (h16 : L.length ≤ 16) (h136 : (L.flatMap (xgpl ct bt)).length ≤ 136) (h9 : ∀ l, l < L.length → (L.getD l (0, 0, [])).1 ≤ 9) {S : xS} (hX : XC S) (hR : xRC S g) (hl : xRl S R) (hN : xNb S nb (xgP g)) (hG : xCh c S ct bt L r) (hB : xsaL (xnm bt nb (xgf g) R) ct L 0 ≤ 2 ^ 29) : xcall false (d + 2) j_X4_sayAll [.ref 74, .ref c] S (some (.int (nI (xsaL (xnm bt nb (xgf g) R) ct L 0 + r)))) S := by
  refine xcall_intro (ls := [.ref 74, .ref c, .float 0, .float 0, .float 0, .float 0, .float 0]) q_X4_sayAll (by decide) rfl (Nat.le_of_ble_eq_true rfl) rfl ?_
  exact wp_iconst (v := nI 0) dX4_sayAll_0 rfl (wp_istore_n dX4_sayAll_1 ⟨Nat.le_of_ble_eq_true rfl, Or.inr rfl⟩ rfl (wp_iconst (v := nI 0) dX4_sayAll_2 rfl (wp_istore_n dX4_sayAll_3 ⟨Nat.le_of_ble_eq_true rfl, Or.inr rfl⟩ rfl (sa_loop hg hco hr1 hr2 hr3 h16 h136 h9 hX hR hl hN hG L.length 0 0 _ _ _ (Nat.zero_add _) hB))))
