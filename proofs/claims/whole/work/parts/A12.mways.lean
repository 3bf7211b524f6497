/-! shares of the reference: power, waysOf -/
def xEw (c : xPx) (who k L : Nat) : Nat := if L.testBit who = true then c.2.2.2.1.length ^ (xgH (xzg c) - k - 1) else 0
def xJw (c : xPx) (_ _ k : Nat) (v : Nat → Nat) : Nat := if xzA c k = true then xsum v c.2.2.2.1.length else c.2.2.2.1.length * v 0
def xVw (c : xPx) (ex who : Nat) : Nat → Nat → Nat → Nat := xV c ex (xEw c who) (xJw c)
theorem xsum_le {f : Nat → Nat} {b : Nat} : ∀ n, (∀ a, a < n → f a ≤ b) → xsum f n ≤ n * b
  | 0, _ => by rw [xsum]; omega
  | n + 1, h => by
    have h1 := xsum_le n (fun a ha => h a (by omega))
    have h2 := h n (by omega)
    rw [xsum, Nat.succ_mul]
    omega
theorem xVw_le {c : xPx} {ex who : Nat} (ho : xzo c) : ∀ f m s k, k + f = xgH (xzg c) → xgd c m s k → xev c ex (xEw c who) (xJw c) f m s k ≤ c.2.2.2.1.length ^ f
  | 0, m, s, k, h, hg => by have := hg.k; omega
  | f + 1, m, s, k, h, hg => by
    have hv : ∀ a, (xen c ex m s k a).elim (xev c ex (xEw c who) (xJw c) f (xn1 c ex m s k a) (xn2 c ex m s k a) (k + 1)) (xEw c who k) ≤ c.2.2.2.1.length ^ f := fun a => by
      cases e : xen c ex m s k a with
      | some L =>
        show xEw c who k L ≤ _
        unfold xEw
        split
        · rw [show xgH (xzg c) - k - 1 = f by omega]; exact Nat.le_refl _
        · exact Nat.zero_le _
      | none =>
        have h' := hg.nx ho e
        exact xVw_le ho f _ _ _ (by omega) h'
    rw [xev, Nat.pow_succ, Nat.mul_comm]
    unfold xJw
    split
    · exact xsum_le _ (fun a _ => hv a)
    · exact Nat.mul_le_mul_left _ (hv 0)
theorem xpow_le {n k : Nat} (hn : n ≤ 5) (hn1 : 1 ≤ n) (hk : k ≤ 8) : n ^ k ≤ 390625 := Nat.le_trans (Nat.pow_le_pow_left hn k) (Nat.le_trans (Nat.pow_le_pow_right (by decide) hk) (by decide))
theorem xvw_le {c : xPx} {ex who m s k a : Nat} (ho : xzo c) (hg : xgd c m s k) : xvl c ex (xEw c who) (xVw c ex who) m s k a ≤ c.2.2.2.1.length ^ (xgH (xzg c) - k - 1) := by
  have hk := hg.k
  unfold xvl
  cases e : xen c ex m s k a with
  | some L =>
    show xEw c who k L ≤ _
    unfold xEw
    split
    · exact Nat.le_refl _
    · exact Nat.zero_le _
  | none =>
    have h' := hg.nx ho e
    have hk' := h'.k
    have := xVw_le (ex := ex) (who := who) ho (xgH (xzg c) - (k + 1)) _ _ _ (by omega) h'
    rw [show xgH (xzg c) - k - 1 = xgH (xzg c) - (k + 1) by omega]
    exact this
theorem pw_loop {v n d : Nat} (hn : n < 1000) {S : xS} : ∀ (j i : Nat), i + j = n → Wp false d 11 cX12_power (some .int) false 4 [.int (nI v), .int (nI n), .int (nI (v ^ i)), .int (nI i)] [] S (fun r S' => r = some (.int (nI (v ^ n))) ∧ S' = S) := by
  intro j
  induction j with
  | zero =>
    intro i hi
    have hii : i = n := by omega
    subst hii
    refine wp_iload_n dX12_power_4 rfl (wp_iload_n dX12_power_5 rfl ?_)
    refine wn_icmp_ge dX12_power_6 rfl (by omega) (by omega) (fun c6 => ?_) (fun c6 => absurd c6 (by omega))
    exact wp_iload_n dX12_power_19 rfl (wp_ireturn dX12_power_20 rfl rfl ⟨rfl, rfl⟩)
  | succ j ih =>
    intro i hi
    have nx := ih (i + 1) (by omega)
    rw [Nat.pow_succ] at nx
    refine wp_iload_n dX12_power_4 rfl (wp_iload_n dX12_power_5 rfl ?_)
    refine wn_icmp_ge dX12_power_6 rfl (by omega) (by omega) (fun c6 => absurd c6 (by omega)) (fun c6 => ?_)
    exact wp_iload_n dX12_power_9 rfl (wp_iload_n dX12_power_10 rfl (wv_imul dX12_power_11 (pk_mul _ _) (wp_istore_n dX12_power_12 ⟨Nat.le_of_ble_eq_true rfl, Or.inr rfl⟩ rfl (wp_iinc dX12_power_13 rfl (nI_1 _) ⟨Nat.le_of_ble_eq_true rfl, Or.inr rfl⟩ rfl (wp_goto dX12_power_16 rfl nx)))))
theorem m_power {v n : Nat} (d : Nat) (hn : n < 1000) {S : xS} : xcall false d j_X12_power [.int (nI v), .int (nI n)] S (some (.int (nI (v ^ n)))) S := by
  have lp := pw_loop (v := v) (d := d) (S := S) hn n 0 (Nat.zero_add _)
  rw [Nat.pow_zero] at lp
  refine xcall_intro (ls := [.int (nI v), .int (nI n), .float 0, .float 0]) q_X12_power (by decide) rfl (Nat.le_of_ble_eq_true rfl) rfl ?_
  exact wp_iconst (v := nI 1) dX12_power_0 rfl (wp_istore_n dX12_power_1 ⟨Nat.le_of_ble_eq_true rfl, Or.inr rfl⟩ rfl (wp_iconst (v := nI 0) dX12_power_2 rfl (wp_istore_n dX12_power_3 ⟨Nat.le_of_ble_eq_true rfl, Or.inr rfl⟩ rfl lp)))
theorem wy_body {c : xPx} {ex who m s k a d : Nat} {av i4 i5 : Int32} {y7 : Value} (ho : xzo c) (ha : xzal c = true) (h8 : xgH (xzg c) ≤ 8) (hex : ex ≤ 1000) (hwho : who < 12) (hg : xgd c m s k) (hav : (xzA c k = true ∧ av = nI a ∧ a < c.2.2.2.1.length) ∨ (xzA c k = false ∧ av = -1)) {S : xS} (hW : xWk S c ex m s k) (hs : xen c ex m s k a = none → S.2.1 221 (xqt c (xn1 c ex m s k a) (xn2 c ex m s k a) (k + 1)) = nI (xVw c ex who (xn1 c ex m s k a) (xn2 c ex m s k a) (k + 1))) {Q : Option Value → xS → Prop} (K : ∀ S', xFl (fun i q => i = 187 ∧ 64 ≤ q ∧ q ≤ 69) S S' → xWk S' c ex m s k → Wp false (d + 4) 11 cX12_waysOf (some .int) false 156 [.ref 187, .int (nI who), .int (nI (xqt c m s k)), .int (nI (xgH (xzg c) - k)), .int i4, .int i5, .int av, y7] [.int (nI (xvl c ex (xEw c who) (xVw c ex who) m s k a))] S' Q) : Wp false (d + 4) 11 cX12_waysOf (some .int) false 89 [.ref 187, .int (nI who), .int (nI (xqt c m s k)), .int (nI (xgH (xzg c) - k)), .int i4, .int i5, .int av, y7] [] S Q := by
  have hX := hW.1
  have hk := hg.k
  have hP : xgP (xzg c) ≤ 12 := ho.g.2.1
  have p12 : 2 ^ xgP (xzg c) ≤ 2 ^ 12 := Nat.pow_le_pow_right (by decide) hP
  obtain ⟨S1, gf, f1, k64, out⟩ := m_finishState (a := a) (d + 0) ho ha h8 hex hg hW hav
  have X1 := f1.XC hX
  have W1 := hW.fr ho f1 (fun i q h => by omega)
  have nx := K S1 f1 W1
  have k31 := W1.2.1.2.2.2.2.2.2.2.2.2.1
  rcases out with ⟨L, e1, k65, hL⟩ | ⟨e1, k65, k66, k67, k68, k69, hn⟩
  · have eV : (xvl c ex (xEw c who) (xVw c ex who) m s k a) = if L.testBit who = true then c.2.2.2.1.length ^ (xgH (xzg c) - k - 1) else 0 := by unfold xvl; rw [e1]; rfl
    have eb := xbitt (m := L) (h := who) (by omega)
    rw [eV] at nx
    cases ht : L.testBit who with
    | true =>
      rw [ht, if_pos rfl] at eb nx
      have gp := m_power (v := c.2.2.2.1.length) (n := xgH (xzg c) - k - 1) (d + 3) (by omega) (S := S1)
      refine wp_aload_n dX12_waysOf_89 rfl rfl (wp_iload_n dX12_waysOf_90 rfl (wp_iload dX12_waysOf_91 rfl (wp_iv3 dX12_waysOf_93 k11_494 q_X12_finishState (by decide) (xsh hX sh_187) (by decide) (Nat.le_of_ble_eq_true rfl) gf (wp_aload_n dX12_waysOf_96 rfl rfl (gv11_427 dX12_waysOf_97 (xsh X1 sh_187) k65 ?_)))))
      refine wn_if_lt dX12_waysOf_100 rfl (by omega) ?_
      refine wp_aload_n dX12_waysOf_103 rfl rfl (gv11_427 dX12_waysOf_104 (xsh X1 sh_187) k65 (wp_iload_n dX12_waysOf_107 rfl (wv_ishr dX12_waysOf_108 (xshR (by omega) (by omega)) (wp_iconst (v := nI 1) dX12_waysOf_109 rfl (wv_iand dX12_waysOf_110 eb (wp_iconst (v := nI 1) dX12_waysOf_111 rfl ?_))))))
      refine wn_icmp_ne dX12_waysOf_112 rfl (by omega) (by omega) (fun c112 => absurd c112 (by omega)) (fun c112 => ?_)
      exact wp_aload_n dX12_waysOf_115 rfl rfl (gv11_189 dX12_waysOf_116 (xsh X1 sh_187) k31 (wp_iload_n dX12_waysOf_119 rfl (wp_iconst (v := nI 1) dX12_waysOf_120 rfl (wv_isub dX12_waysOf_121 (pk_sub (by omega)) (wp_is2 dX12_waysOf_122 k11_515 q_X12_power (by decide) (Nat.le_of_ble_eq_true rfl) gp (wp_goto dX12_waysOf_125 rfl nx))))))
    | false =>
      rw [ht, if_neg (by decide)] at eb nx
      refine wp_aload_n dX12_waysOf_89 rfl rfl (wp_iload_n dX12_waysOf_90 rfl (wp_iload dX12_waysOf_91 rfl (wp_iv3 dX12_waysOf_93 k11_494 q_X12_finishState (by decide) (xsh hX sh_187) (by decide) (Nat.le_of_ble_eq_true rfl) gf (wp_aload_n dX12_waysOf_96 rfl rfl (gv11_427 dX12_waysOf_97 (xsh X1 sh_187) k65 ?_)))))
      refine wn_if_lt dX12_waysOf_100 rfl (by omega) ?_
      refine wp_aload_n dX12_waysOf_103 rfl rfl (gv11_427 dX12_waysOf_104 (xsh X1 sh_187) k65 (wp_iload_n dX12_waysOf_107 rfl (wv_ishr dX12_waysOf_108 (xshR (by omega) (by omega)) (wp_iconst (v := nI 1) dX12_waysOf_109 rfl (wv_iand dX12_waysOf_110 eb (wp_iconst (v := nI 1) dX12_waysOf_111 rfl ?_))))))
      refine wn_icmp_ne dX12_waysOf_112 rfl (by omega) (by omega) (fun c112 => ?_) (fun c112 => absurd c112 (by omega))
      exact wp_iconst (v := nI 0) dX12_waysOf_128 rfl (wp_goto dX12_waysOf_129 rfl nx)
  · have gs := m_stateOf (m := xn1 c ex m s k a) (s := xn2 c ex m s k a) (r := (k + 1) % c.1.2.length) (b := xbk (xzg c) (k + 1)) (d + 3) (S := S1)
    have hlt := (hn.b ho h8).2.2.2.1
    have hlt : xsT (xn1 c ex m s k a) (xn2 c ex m s k a) (xbk (xzg c) (k + 1)) ((k + 1) % c.1.2.length) < 16384 := hlt
    have v := f1.i (hs e1) (by omega)
    have eV : (xvl c ex (xEw c who) (xVw c ex who) m s k a) = (xVw c ex who (xn1 c ex m s k a) (xn2 c ex m s k a) (k + 1)) := by unfold xvl; rw [e1]; rfl
    rw [eV] at nx
    refine wp_aload_n dX12_waysOf_89 rfl rfl (wp_iload_n dX12_waysOf_90 rfl (wp_iload dX12_waysOf_91 rfl (wp_iv3 dX12_waysOf_93 k11_494 q_X12_finishState (by decide) (xsh hX sh_187) (by decide) (Nat.le_of_ble_eq_true rfl) gf (wp_aload_n dX12_waysOf_96 rfl rfl (gv11_427 dX12_waysOf_97 (xsh X1 sh_187) k65 ?_)))))
    refine wp_if_lt dX12_waysOf_100 rfl (fun c100 => ?_) (fun c100 => absurd c100 (not_not_intro (by decide)))
    exact wp_aload_n dX12_waysOf_132 rfl rfl (g11_358 dX12_waysOf_133 (xsh X1 sh_187) (xrr X1 r187_74) (wp_aload_n dX12_waysOf_136 rfl rfl (gv11_430 dX12_waysOf_137 (xsh X1 sh_187) k66 (wp_aload_n dX12_waysOf_140 rfl rfl (gv11_445 dX12_waysOf_141 (xsh X1 sh_187) k67 (wp_aload_n dX12_waysOf_144 rfl rfl (gv11_433 dX12_waysOf_145 (xsh X1 sh_187) k68 (wp_aload_n dX12_waysOf_148 rfl rfl (gv11_436 dX12_waysOf_149 (xsh X1 sh_187) k69 (wp_is4 dX12_waysOf_152 k11_481 q_X12_stateOf (by decide) (Nat.le_of_ble_eq_true rfl) gs (wn_iaload dX12_waysOf_155 (xsh X1 sh_221) rfl (by omega) (by decide) v nx)))))))))))
theorem wy_in {c : xPx} {ex who m s k d : Nat} (ho : xzo c) (ha : xzal c = true) (h8 : xgH (xzg c) ≤ 8) (hex : ex ≤ 1000) (hwho : who < 12) (hg : xgd c m s k) (hask : xzA c k = true) {Q : Option Value → xS → Prop} : ∀ (j a : Nat) (S : xS) (y7 : Value), a + j = c.2.2.2.1.length → xWk S c ex m s k → (∀ b, b < c.2.2.2.1.length → xen c ex m s k b = none → S.2.1 221 (xqt c (xn1 c ex m s k b) (xn2 c ex m s k b) (k + 1)) = nI (xVw c ex who (xn1 c ex m s k b) (xn2 c ex m s k b) (k + 1))) → (∀ S' y6 y7, xFl (fun i q => i = 187 ∧ 64 ≤ q ∧ q ≤ 69) S S' → xWk S' c ex m s k → Wp false (d + 4) 11 cX12_waysOf (some .int) false 186 [.ref 187, .int (nI who), .int (nI (xqt c m s k)), .int (nI (xgH (xzg c) - k)), .int (xB true), .int (nI (xsum (fun a => (xvl c ex (xEw c who) (xVw c ex who) m s k a)) c.2.2.2.1.length)), y6, y7] [] S' Q) → Wp false (d + 4) 11 cX12_waysOf (some .int) false 71 [.ref 187, .int (nI who), .int (nI (xqt c m s k)), .int (nI (xgH (xzg c) - k)), .int (xB true), .int (nI (xsum (fun a => (xvl c ex (xEw c who) (xVw c ex who) m s k a)) a)), .int (nI a), y7] [] S Q := by
  have hac := ho.2.2.1
  intro j
  induction j with
  | zero =>
    intro a S y7 haj hW hs K
    have haa : a = c.2.2.2.1.length := by omega
    subst haa
    have hX := hW.1
    have k31 := hW.2.1.2.2.2.2.2.2.2.2.2.1
    have nx := K S (.int (nI c.2.2.2.1.length)) y7 (xFl.rf S) hW
    refine wp_iload dX12_waysOf_71 rfl (wp_iload dX12_waysOf_73 rfl ?_)
    refine wb_if_eq dX12_waysOf_75 rfl (fun c75 => absurd c75 (by decide)) (fun c75 => ?_)
    refine wp_aload_n dX12_waysOf_78 rfl rfl (gv11_189 dX12_waysOf_79 (xsh hX sh_187) k31 (wp_goto dX12_waysOf_82 rfl ?_))
    refine wn_icmp_ge dX12_waysOf_86 rfl (by omega) (by omega) (fun c86 => ?_) (fun c86 => absurd c86 (by omega))
    exact nx
  | succ j ih =>
    intro a S y7 haj hW hs K
    have hX := hW.1
    have k31 := hW.2.1.2.2.2.2.2.2.2.2.2.1
    have nx := wy_body (d := d) (a := a) (i4 := xB true) (i5 := nI (xsum (fun a => (xvl c ex (xEw c who) (xVw c ex who) m s k a)) a)) (y7 := y7) ho ha h8 hex hwho hg (Or.inl ⟨hask, rfl, by omega⟩) hW (hs a (by omega)) (Q := Q) (fun S1 f1 W1 => by
      have X1 := W1.1
      have nx := ih (a + 1) S1 (.int (nI (xvl c ex (xEw c who) (xVw c ex who) m s k a))) (by omega) W1 (fun b hb e => f1.i (hs b hb e) (by omega)) (fun S2 y6 y7 f2 W2 => K S2 y6 y7 (f1.tt f2) W2)
      rw [xsum] at nx
      refine wp_istore dX12_waysOf_156 ⟨Nat.le_of_ble_eq_true rfl, Or.inr rfl⟩ rfl (wp_iload dX12_waysOf_158 rfl (wp_iload dX12_waysOf_160 rfl ?_))
      refine wb_if_eq dX12_waysOf_162 rfl (fun c162 => absurd c162 (by decide)) (fun c162 => ?_)
      exact wp_iload dX12_waysOf_165 rfl (wp_goto dX12_waysOf_167 rfl (wv_iadd dX12_waysOf_177 (nI_add _ _) (wp_istore dX12_waysOf_178 ⟨Nat.le_of_ble_eq_true rfl, Or.inr rfl⟩ rfl (wp_iinc dX12_waysOf_180 rfl (nI_1 _) ⟨Nat.le_of_ble_eq_true rfl, Or.inr rfl⟩ rfl (wp_goto dX12_waysOf_183 rfl nx))))))
    refine wp_iload dX12_waysOf_71 rfl (wp_iload dX12_waysOf_73 rfl ?_)
    refine wb_if_eq dX12_waysOf_75 rfl (fun c75 => absurd c75 (by decide)) (fun c75 => ?_)
    refine wp_aload_n dX12_waysOf_78 rfl rfl (gv11_189 dX12_waysOf_79 (xsh hX sh_187) k31 (wp_goto dX12_waysOf_82 rfl ?_))
    refine wn_icmp_ge dX12_waysOf_86 rfl (by omega) (by omega) (fun c86 => absurd c86 (by omega)) (fun c86 => ?_)
    exact nx
theorem wy_loop {c : xPx} {ex who d : Nat} {B : Nat → Bool} (ho : xzo c) (ha : xzal c = true) (h8 : xgH (xzg c) ≤ 8) (hex : ex ≤ 1000) (hwho : who < 12) : ∀ (j i : Nat) (S : xS) (y3 y4 y5 y6 y7 : Value), i + j = 16384 → XC S → xMpd S c ex → xMK S c ex B → xVs S c (xVw c ex who) B i → Wp false (d + 4) 11 cX12_waysOf (some .int) false 22 [.ref 187, .int (nI who), .int (nI i), y3, y4, y5, y6, y7] [] S (fun r S' => r = some (.int (nI (xVw c ex who (2 ^ xgH (xzg c) - 1) 0 0))) ∧ xFl (fun i q => (i = 187 ∧ 61 ≤ q ∧ q ≤ 70) ∨ i = 216 ∨ i = 221) S S') := by
  have hg0 := xgd_0 ho
  intro j
  induction j with
  | zero =>
    intro i S y3 y4 y5 y6 y7 hi hX hD hB hV
    have hii : i = 16384 := by omega
    subst hii
    have gb := m_begin (d + 2) ho hX hD.1
    have hq := (hg0.b ho h8).2.2.2.1
    have v := hV _ _ _ hg0 hB.2.2.1 hq
    refine wp_iload_n dX12_waysOf_22 rfl (wp_sipush (v := nI 16384) dX12_waysOf_23 rfl ?_)
    refine wn_icmp_ge dX12_waysOf_26 rfl (by omega) (by omega) (fun c26 => ?_) (fun c26 => absurd c26 (by omega))
    exact wp_aload_n dX12_waysOf_200 rfl rfl (g11_358 dX12_waysOf_201 (xsh hX sh_187) (xrr hX r187_74) (wp_aload_n dX12_waysOf_204 rfl rfl (wp_iv1 dX12_waysOf_205 k11_485 q_X12_begin (by decide) (xsh hX sh_187) (by decide) (Nat.le_of_ble_eq_true rfl) gb (wn_iaload dX12_waysOf_208 (xsh hX sh_221) rfl (by omega) (by decide) v (wp_ireturn dX12_waysOf_209 rfl rfl ⟨rfl, xFl.rf S⟩)))))
  | succ j ih =>
    intro i S y3 y4 y5 y6 y7 hi hX hD hB hV
    have hbx := hB.1 i (by omega)
    cases eb : B i with
    | false =>
      rw [eb] at hbx
      have nx := ih (i + 1) S y3 y4 y5 y6 y7 (by omega) hX hD hB (fun m s k hg hm hx => by
        rcases Nat.lt_or_ge (xqt c m s k) i with w | w
        · exact hV m s k hg hm w
        · rw [show xqt c m s k = i by omega, eb] at hm; cases hm)
      refine wp_iload_n dX12_waysOf_22 rfl (wp_sipush (v := nI 16384) dX12_waysOf_23 rfl ?_)
      refine wn_icmp_ge dX12_waysOf_26 rfl (by omega) (by omega) (fun c26 => absurd c26 (by omega)) (fun c26 => ?_)
      refine wp_aload_n dX12_waysOf_29 rfl rfl (g11_355 dX12_waysOf_30 (xsh hX sh_187) (xrr hX r187_73) (wp_iload_n dX12_waysOf_33 rfl (wn_baload dX12_waysOf_34 (xsh hX sh_220) (Or.inr rfl) (by omega) (by decide) hbx ?_)))
      refine wb_if_ne dX12_waysOf_35 rfl (fun c35 => absurd c35 (by decide)) (fun c35 => ?_)
      exact wp_goto dX12_waysOf_38 rfl (wp_iinc dX12_waysOf_194 rfl (nI_1 _) ⟨Nat.le_of_ble_eq_true rfl, Or.inr rfl⟩ rfl (wp_goto dX12_waysOf_197 rfl nx))
    | true =>
      rw [eb] at hbx
      obtain ⟨m, s, k, rfl, hg⟩ := hB.2.1 i eb
      obtain ⟨q1, q2, q3, q4, _⟩ := hg.b ho h8
      obtain ⟨S1, gw, f1, W1, k70, k63⟩ := m_walkState (d + 0) ho ha h8 hex hg hX hD
      have X1 := f1.XC hX
      have hcl := hB.2.2.2 m s k hg eb
      have gm := m_maskOf (x := xqt c m s k) (d + 3) q4 (S := S)
      rw [show xqt c m s k / 64 = m from (xsT_d (m := m) (b := xbk (xzg c) k) q2 q3).1] at gm
      have gy := m_many (b := m) (d + 3) (by omega) (S := S)
      rw [xcb_up hg.1 24 ho.g.H.2.1, show xcb m (xgH (xzg c)) = xgH (xzg c) - k by have := hg.2.2.2; omega] at gy
      have F1 : xFl (fun i q => (i = 187 ∧ 61 ≤ q ∧ q ≤ 70) ∨ i = 216 ∨ i = 221) S S1 := f1.mono (fun i q h => by omega)
      have suc : ∀ b, b < xzw c k → xen c ex m s k b = none → S1.2.1 221 (xqt c (xn1 c ex m s k b) (xn2 c ex m s k b) (k + 1)) = nI (xVw c ex who (xn1 c ex m s k b) (xn2 c ex m s k b) (k + 1)) := fun b hb e => f1.i (hV _ _ _ (hg.nx ho e) (hcl b hb e) (xqt_lt ho h8 hg e)) (by omega)
      have go : ∀ (S2 : xS) (vv : Nat) (y3 y4 y6 y7 : Value), xFl (fun i q => i = 187 ∧ 64 ≤ q ∧ q ≤ 69) S1 S2 → xWk S2 c ex m s k → vv = xVw c ex who m s k → Wp false (d + 4) 11 cX12_waysOf (some .int) false 186 [.ref 187, .int (nI who), .int (nI (xqt c m s k)), y3, y4, .int (nI vv), y6, y7] [] S2 (fun r S' => r = some (.int (nI (xVw c ex who (2 ^ xgH (xzg c) - 1) 0 0))) ∧ xFl (fun i q => (i = 187 ∧ 61 ≤ q ∧ q ≤ 70) ∨ i = 216 ∨ i = 221) S S') := by
        intro S2 vv y3 y4 y6 y7 f2 W2 ev
        subst ev
        have X2 := W2.1
        have F3 : xFl (fun i q => (i = 187 ∧ 61 ≤ q ∧ q ≤ 70) ∨ i = 216 ∨ (i = 221 ∧ q = xqt c m s k)) S (xSI S2 221 (xqt c m s k) (nI (xVw c ex who m s k))) := ((f1.mono (fun i q h => by omega)).tt (f2.mono (fun i q h => by omega))).SI (Or.inr (Or.inr ⟨rfl, rfl⟩))
        have X3 := F3.XC hX
        have D3 := (W2.fr ho ((xFl.rf S2).SI (a := 221) (k := xqt c m s k) (v := nI (xVw c ex who m s k)) (P := fun i _ => i = 221) rfl) (fun i q h => by omega)).2.1
        have nx := (ih (xqt c m s k + 1) _ y3 y4 (.int (nI (xVw c ex who m s k))) y6 y7 (by omega) X3 D3 (hB.fr F3 (fun x h => by omega)) (fun m' s' k' hg' hm hx => by
          rcases Decidable.em (xqt c m' s' k' = xqt c m s k) with w | w
          · obtain ⟨rfl, rfl, rfl⟩ := xqt_inj ho h8 hg' hg w
            exact xI_same _ _ _ _
          · exact F3.i (hV m' s' k' hg' hm (by omega)) (by omega))).mono (Q' := (fun r S' => r = some (.int (nI (xVw c ex who (2 ^ xgH (xzg c) - 1) 0 0))) ∧ xFl (fun i q => (i = 187 ∧ 61 ≤ q ∧ q ≤ 70) ∨ i = 216 ∨ i = 221) S S')) (fun r S' z => ⟨z.1, (F3.mono (fun i q h => by omega)).tt z.2⟩)
        exact wp_aload_n dX12_waysOf_186 rfl rfl (g11_358 dX12_waysOf_187 (xsh X2 sh_187) (xrr X2 r187_74) (wp_iload_n dX12_waysOf_190 rfl (wp_iload dX12_waysOf_191 rfl (wn_iastore dX12_waysOf_193 (xsh X2 sh_221) rfl (by omega) (by decide) (wp_iinc dX12_waysOf_194 rfl (nI_1 _) ⟨Nat.le_of_ble_eq_true rfl, Or.inr rfl⟩ rfl (wp_goto dX12_waysOf_197 rfl nx))))))
      cases hask : xzA c k with
      | true =>
        rw [hask] at gw
        have hw : xzw c k = c.2.2.2.1.length := by unfold xzw; rw [if_pos hask]
        rw [hw] at suc
        have eV : (xsum (fun a => (xvl c ex (xEw c who) (xVw c ex who) m s k a)) c.2.2.2.1.length) = xVw c ex who m s k := by
          rw [show xVw c ex who m s k = xJw c m s k (xvl c ex (xEw c who) (xVw c ex who) m s k) from xV_eq _ _ hg]
          unfold xJw
          rw [hask, if_pos rfl]
        have lp := wy_in (d := d) ho ha h8 hex hwho hg hask (Q := (fun r S' => r = some (.int (nI (xVw c ex who (2 ^ xgH (xzg c) - 1) 0 0))) ∧ xFl (fun i q => (i = 187 ∧ 61 ≤ q ∧ q ≤ 70) ∨ i = 216 ∨ i = 221) S S')) c.2.2.2.1.length 0 S1 y7 (Nat.zero_add _) W1 suc (fun S2 y6 y7 f2 W2 => go S2 _ _ _ _ _ f2 W2 eV)
        refine wp_iload_n dX12_waysOf_22 rfl (wp_sipush (v := nI 16384) dX12_waysOf_23 rfl ?_)
        refine wn_icmp_ge dX12_waysOf_26 rfl (by omega) (by omega) (fun c26 => absurd c26 (by omega)) (fun c26 => ?_)
        refine wp_aload_n dX12_waysOf_29 rfl rfl (g11_355 dX12_waysOf_30 (xsh hX sh_187) (xrr hX r187_73) (wp_iload_n dX12_waysOf_33 rfl (wn_baload dX12_waysOf_34 (xsh hX sh_220) (Or.inr rfl) (by omega) (by decide) hbx ?_)))
        refine wb_if_ne dX12_waysOf_35 rfl (fun c35 => ?_) (fun c35 => absurd c35 (by decide))
        refine wp_iload_n dX12_waysOf_41 rfl (wp_is1 dX12_waysOf_42 k11_472 q_X12_maskOf (by decide) (Nat.le_of_ble_eq_true rfl) gm (wp_is1 dX12_waysOf_45 k11_442 q_X12_many (by decide) (Nat.le_of_ble_eq_true rfl) gy (wp_istore_n dX12_waysOf_48 ⟨Nat.le_of_ble_eq_true rfl, Or.inr rfl⟩ rfl (wp_aload_n dX12_waysOf_49 rfl rfl (wp_iload_n dX12_waysOf_50 rfl (wp_iv2 dX12_waysOf_51 k11_491 q_X12_walkState (by decide) (xsh hX sh_187) (by decide) (Nat.le_of_ble_eq_true rfl) gw (wp_istore dX12_waysOf_54 ⟨Nat.le_of_ble_eq_true rfl, Or.inr rfl⟩ rfl (wp_iconst (v := nI 0) dX12_waysOf_56 rfl (wp_istore dX12_waysOf_57 ⟨Nat.le_of_ble_eq_true rfl, Or.inr rfl⟩ rfl (wp_iload dX12_waysOf_59 rfl ?_))))))))))
        refine wb_if_eq dX12_waysOf_61 rfl (fun c61 => absurd c61 (by decide)) (fun c61 => ?_)
        exact wp_iconst (v := nI 0) dX12_waysOf_64 rfl (wp_goto dX12_waysOf_65 rfl (wp_istore dX12_waysOf_69 ⟨Nat.le_of_ble_eq_true rfl, Or.inr rfl⟩ rfl lp))
      | false =>
        rw [hask] at gw
        have hw : xzw c k = 1 := by unfold xzw; rw [hask, if_neg (by decide)]
        have eV : 0 + c.2.2.2.1.length * (xvl c ex (xEw c who) (xVw c ex who) m s k 0) = xVw c ex who m s k := by
          rw [show xVw c ex who m s k = xJw c m s k (xvl c ex (xEw c who) (xVw c ex who) m s k) from xV_eq _ _ hg]
          unfold xJw
          rw [hask, if_neg (by decide), Nat.zero_add]
        have fm1 : (-1 : Int32) + Int32.ofInt 1 = nI 0 := by decide
        have nx := wy_body (d := d) (a := 0) (av := -1) (i4 := xB false) (i5 := nI 0) (y7 := y7) ho ha h8 hex hwho hg (Or.inr ⟨hask, rfl⟩) W1 (suc 0 (by omega)) (Q := (fun r S' => r = some (.int (nI (xVw c ex who (2 ^ xgH (xzg c) - 1) 0 0))) ∧ xFl (fun i q => (i = 187 ∧ 61 ≤ q ∧ q ≤ 70) ∨ i = 216 ∨ i = 221) S S')) (fun S2 f2 W2 => by
          have X2 := W2.1
          have k31 := W2.2.1.2.2.2.2.2.2.2.2.2.1
          have fin := go S2 _ (.int (nI (xgH (xzg c) - k))) (.int (xB false)) (.int (nI 0)) (.int (nI (xvl c ex (xEw c who) (xVw c ex who) m s k 0))) f2 W2 eV
          refine wp_istore dX12_waysOf_156 ⟨Nat.le_of_ble_eq_true rfl, Or.inr rfl⟩ rfl (wp_iload dX12_waysOf_158 rfl (wp_iload dX12_waysOf_160 rfl ?_))
          refine wb_if_eq dX12_waysOf_162 rfl (fun c162 => ?_) (fun c162 => absurd c162 (by decide))
          refine wp_aload_n dX12_waysOf_170 rfl rfl (gv11_189 dX12_waysOf_171 (xsh X2 sh_187) k31 (wp_iload dX12_waysOf_174 rfl (wv_imul dX12_waysOf_176 (pk_mul _ _) (wv_iadd dX12_waysOf_177 (nI_add _ _) (wp_istore dX12_waysOf_178 ⟨Nat.le_of_ble_eq_true rfl, Or.inr rfl⟩ rfl (wp_iinc dX12_waysOf_180 rfl fm1 ⟨Nat.le_of_ble_eq_true rfl, Or.inr rfl⟩ rfl (wp_goto dX12_waysOf_183 rfl ?_)))))))
          refine wp_iload dX12_waysOf_71 rfl (wp_iload dX12_waysOf_73 rfl ?_)
          refine wb_if_eq dX12_waysOf_75 rfl (fun c75 => ?_) (fun c75 => absurd c75 (by decide))
          refine wp_iconst (v := nI 0) dX12_waysOf_85 rfl ?_
          refine wn_icmp_ge dX12_waysOf_86 rfl (by omega) (by omega) (fun c86 => ?_) (fun c86 => absurd c86 (by omega))
          exact fin)
        refine wp_iload_n dX12_waysOf_22 rfl (wp_sipush (v := nI 16384) dX12_waysOf_23 rfl ?_)
        refine wn_icmp_ge dX12_waysOf_26 rfl (by omega) (by omega) (fun c26 => absurd c26 (by omega)) (fun c26 => ?_)
        refine wp_aload_n dX12_waysOf_29 rfl rfl (g11_355 dX12_waysOf_30 (xsh hX sh_187) (xrr hX r187_73) (wp_iload_n dX12_waysOf_33 rfl (wn_baload dX12_waysOf_34 (xsh hX sh_220) (Or.inr rfl) (by omega) (by decide) hbx ?_)))
        refine wb_if_ne dX12_waysOf_35 rfl (fun c35 => ?_) (fun c35 => absurd c35 (by decide))
        refine wp_iload_n dX12_waysOf_41 rfl (wp_is1 dX12_waysOf_42 k11_472 q_X12_maskOf (by decide) (Nat.le_of_ble_eq_true rfl) gm (wp_is1 dX12_waysOf_45 k11_442 q_X12_many (by decide) (Nat.le_of_ble_eq_true rfl) gy (wp_istore_n dX12_waysOf_48 ⟨Nat.le_of_ble_eq_true rfl, Or.inr rfl⟩ rfl (wp_aload_n dX12_waysOf_49 rfl rfl (wp_iload_n dX12_waysOf_50 rfl (wp_iv2 dX12_waysOf_51 k11_491 q_X12_walkState (by decide) (xsh hX sh_187) (by decide) (Nat.le_of_ble_eq_true rfl) gw (wp_istore dX12_waysOf_54 ⟨Nat.le_of_ble_eq_true rfl, Or.inr rfl⟩ rfl (wp_iconst (v := nI 0) dX12_waysOf_56 rfl (wp_istore dX12_waysOf_57 ⟨Nat.le_of_ble_eq_true rfl, Or.inr rfl⟩ rfl (wp_iload dX12_waysOf_59 rfl ?_))))))))))
        refine wb_if_eq dX12_waysOf_61 rfl (fun c61 => ?_) (fun c61 => absurd c61 (by decide))
        refine wp_iconst (v := -1) dX12_waysOf_68 rfl (wp_istore dX12_waysOf_69 ⟨Nat.le_of_ble_eq_true rfl, Or.inr rfl⟩ rfl ?_)
        refine wp_iload dX12_waysOf_71 rfl (wp_iload dX12_waysOf_73 rfl ?_)
        refine wb_if_eq dX12_waysOf_75 rfl (fun c75 => ?_) (fun c75 => absurd c75 (by decide))
        refine wp_iconst (v := nI 0) dX12_waysOf_85 rfl ?_
        refine wp_icmp_ge dX12_waysOf_86 rfl (fun c86 => absurd c86 (by decide)) (fun c86 => ?_)
        exact nx
/-- in how many ways one is LEFT -/
def xwys (c : xPx) (ex who : Nat) : Nat := (if xovr (xzg c) (2 ^ xgH (xzg c) - 1) = true then c.2.2.2.1.length ^ xgH (xzg c) else xVw c ex who (2 ^ xgH (xzg c) - 1) 0 0)
theorem m_waysOf {c : xPx} {ex who : Nat} {B : Nat → Bool} (d : Nat) (ho : xzo c) (ha : xzal c = true) (h8 : xgH (xzg c) ≤ 8) (hex : ex ≤ 1000) (hwho : who < 12) {S : xS} (hX : XC S) (hD : xMpd S c ex) (hB : xMK S c ex B) : ∃ S', xcall false (d + 4) j_X12_waysOf [.ref 187, .int (nI who)] S (some (.int (nI (xwys c ex who)))) S' ∧ xFl (fun i q => (i = 187 ∧ 61 ≤ q ∧ q ≤ 70) ∨ i = 216 ∨ i = 221) S S' := by
  have g24 := ho.g.H
  have go := m_isOverAtFirst (d + 3) ho hX (hD.2.2.2.2.2.2.2.1.1 2 (by decide)) (hD.2.2.2.2.2.2.2.1.1 5 (by decide)) hD.2.2.2.2.2.2.2.2.1
  have k31 := hD.2.2.2.2.2.2.2.2.2.1
  have k60 := hD.1
  unfold xwys
  cases hov : xovr (xzg c) (2 ^ xgH (xzg c) - 1) with
  | true =>
    rw [hov] at go
    rw [if_pos rfl]
    have gp := m_power (v := c.2.2.2.1.length) (n := xgH (xzg c)) (d + 3) (by omega) (S := S)
    refine ⟨S, ?_, xFl.rf S⟩
    refine xcall_intro (ls := [.ref 187, .int (nI who), .float 0, .float 0, .float 0, .float 0, .float 0, .float 0]) q_X12_waysOf (by decide) rfl (Nat.le_of_ble_eq_true rfl) rfl ?_
    refine wp_aload_n dX12_waysOf_0 rfl rfl (wp_iv1 dX12_waysOf_1 k11_458 q_X12_isOverAtFirst (by decide) (xsh hX sh_187) (by decide) (Nat.le_of_ble_eq_true rfl) go ?_)
    refine wb_if_eq dX12_waysOf_4 rfl (fun c4 => absurd c4 (by decide)) (fun c4 => ?_)
    exact wp_aload_n dX12_waysOf_7 rfl rfl (gv11_189 dX12_waysOf_8 (xsh hX sh_187) k31 (wp_aload_n dX12_waysOf_11 rfl rfl (gv11_391 dX12_waysOf_12 (xsh hX sh_187) k60 (wp_is2 dX12_waysOf_15 k11_515 q_X12_power (by decide) (Nat.le_of_ble_eq_true rfl) gp (wp_ireturn dX12_waysOf_18 rfl rfl ⟨rfl, rfl⟩)))))
  | false =>
    rw [hov] at go
    rw [if_neg (by decide)]
    have lp := wy_loop (who := who) (d := d) ho ha h8 hex hwho 16320 64 S (.float 0) (.float 0) (.float 0) (.float 0) (.float 0) rfl hX hD hB (fun m s k hg _ hx => by have := (hg.b ho h8).2.2.2.2; omega)
    obtain ⟨r, S', g3, rfl, z⟩ := xcall_some (al := false) (d := d + 4) (ls := [.ref 187, .int (nI who), .float 0, .float 0, .float 0, .float 0, .float 0, .float 0]) (S := S) (as := [.ref 187, .int (nI who)]) q_X12_waysOf (by decide) rfl (Nat.le_of_ble_eq_true rfl) rfl (P := (fun r S' => r = some (.int (nI (xVw c ex who (2 ^ xgH (xzg c) - 1) 0 0))) ∧ xFl (fun i q => (i = 187 ∧ 61 ≤ q ∧ q ≤ 70) ∨ i = 216 ∨ i = 221) S S')) (by
        refine wp_aload_n dX12_waysOf_0 rfl rfl (wp_iv1 dX12_waysOf_1 k11_458 q_X12_isOverAtFirst (by decide) (xsh hX sh_187) (by decide) (Nat.le_of_ble_eq_true rfl) go ?_)
        refine wb_if_eq dX12_waysOf_4 rfl (fun c4 => ?_) (fun c4 => absurd c4 (by decide))
        exact wp_bipush (v := nI 64) dX12_waysOf_19 rfl (wp_istore_n dX12_waysOf_21 ⟨Nat.le_of_ble_eq_true rfl, Or.inr rfl⟩ rfl lp))
    exact ⟨S', g3, z⟩
