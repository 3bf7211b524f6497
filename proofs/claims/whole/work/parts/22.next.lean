/-! TOKENS of the reference -/
def xTxM (S : xS) (n : Nat) (t : Nat → Nat) : Prop := S.2.1 187 3 = nI n ∧ n ≤ 260 ∧ ∀ k, k < n → t k < 256 ∧ S.2.1 188 k = xby (t k)
def xwd (t : Nat → Nat) (s : Nat) : Nat → Nat
  | 0 => 0
  | k + 1 => xwd t s k * 2 ^ 8 + t (s + k)
theorem xwd_lt (t : Nat → Nat) (s : Nat) : ∀ k, (∀ i, i < k → t (s + i) < 256) → xwd t s k < 256 ^ k
  | 0, _ => by unfold xwd; decide
  | k + 1, h => by
    have h1 := xwd_lt t s k (fun i hi => h i (by omega))
    have h2 := h k (by omega)
    unfold xwd
    rw [Nat.pow_succ]
    omega
/-- the token behind p is the one that stands -/
def xTM (S : xS) (n : Nat) (t : Nat → Nat) (p : Nat) : Prop := p ≤ n ∧ S.2.1 187 6 = nI (xts t n p) ∧ S.2.1 187 4 = nI (xta t n p) ∧ S.2.1 187 5 = nI (xtk t n p) ∧
  (xts t n p < xte t n p → S.2.1 187 7 = nI (xte t n p - xts t n p) ∧ S.2.1 187 8 = nI (t (xts t n p) - 48) ∧ S.2.2.2 187 11 = lN (if xte t n p - xts t n p ≤ 8 then xwd t (xts t n p) (xte t n p - xts t n p) else 0))
theorem xby_255 : ∀ c, c < 256 → xby c &&& 255 = nI c := by decide +kernel
def xall (t : Nat → Nat) (s i : Nat) (sm : Bool) : Bool := decide (∀ k, k < i → s ≤ k → xsm (t k) = sm)
theorem xwc_b {c : Nat} (h : xwc c = true) : 48 ≤ c ∧ c < 123 := by
  unfold xwc xsm xdg at h
  simp only [Bool.or_eq_true, decide_eq_true_eq] at h
  omega
theorem xB_inj {a b : Bool} : xB a = xB b ↔ a = b := by cases a <;> cases b <;> decide
theorem xTxM.fr {S S' : xS} {n : Nat} {t : Nat → Nat} {P : Nat → Nat → Prop} (h : xTxM S n t) (hf : xFl P S S') (h1 : ¬ P 187 3) (h2 : ∀ k, ¬ P 188 k) : xTxM S' n t :=
  ⟨hf.i h.1 h1, h.2.1, fun k hk => ⟨(h.2.2 k hk).1, hf.i (h.2.2 k hk).2 (h2 k)⟩⟩
theorem m_peek (d : Nat) {S : xS} {n p : Nat} {t : Nat → Nat} (hX : XC S) (hT : xTxM S n t) (hp : S.2.1 187 4 = nI p) (hpn : p < n) : xcall false d j_X12_peek [.ref 187] S (some (.int (nI (t p)))) S := by
  obtain ⟨hn, hle, hb⟩ := hT
  obtain ⟨h1, h2⟩ := hb p hpn
  refine xcall_intro (ls := [.ref 187]) q_X12_peek (by decide) rfl (Nat.le_of_ble_eq_true rfl) rfl ?_
  refine wp_aload_n dX12_peek_0 rfl rfl (gv11_21 dX12_peek_1 (xsh hX sh_187) hp (wp_aload_n dX12_peek_4 rfl rfl (gv11_18 dX12_peek_5 (xsh hX sh_187) hn ?_)))
  refine wn_icmp_ge dX12_peek_8 rfl (by omega) (by omega) (fun c8 => absurd c8 (by omega)) (fun c8 => ?_)
  exact wp_aload_n dX12_peek_11 rfl rfl (g11_14 dX12_peek_12 (xsh hX sh_187) (xrr hX r187_1) (wp_aload_n dX12_peek_15 rfl rfl (gv11_21 dX12_peek_16 (xsh hX sh_187) hp (wn_baload dX12_peek_19 (xsh hX sh_188) (Or.inl rfl) (by omega) (by decide) h2 (wp_sipush (v := 255) dX12_peek_20 rfl (wv_iand dX12_peek_23 (xby_255 _ h1) (wp_goto dX12_peek_24 rfl (wp_ireturn dX12_peek_28 rfl rfl ⟨rfl, rfl⟩))))))))
theorem m_peek_e (d : Nat) {S : xS} {n p : Nat} {t : Nat → Nat} (hX : XC S) (hT : xTxM S n t) (hp : S.2.1 187 4 = nI p) (hpn : n ≤ p) (hp3 : p < 1000) : xcall false d j_X12_peek [.ref 187] S (some (.int (-1))) S := by
  obtain ⟨hn, hle, hb⟩ := hT
  refine xcall_intro (ls := [.ref 187]) q_X12_peek (by decide) rfl (Nat.le_of_ble_eq_true rfl) rfl ?_
  refine wp_aload_n dX12_peek_0 rfl rfl (gv11_21 dX12_peek_1 (xsh hX sh_187) hp (wp_aload_n dX12_peek_4 rfl rfl (gv11_18 dX12_peek_5 (xsh hX sh_187) hn ?_)))
  refine wn_icmp_ge dX12_peek_8 rfl (by omega) (by omega) (fun c8 => ?_) (fun c8 => absurd c8 (by omega))
  exact wp_iconst (v := -1) dX12_peek_27 rfl (wp_ireturn dX12_peek_28 rfl rfl ⟨rfl, rfl⟩)
theorem m_isSmall_e (d : Nat) (S : xS) : xcall false d j_X12_isSmall [.int (-1)] S (some (.int (xB false))) S := by
  refine xcall_intro (ls := [.int (-1)]) q_X12_isSmall (by decide) rfl (Nat.le_of_ble_eq_true rfl) rfl ?_
  refine wp_iload_n dX12_isSmall_0 rfl (wp_bipush (v := nI 97) dX12_isSmall_1 rfl ?_)
  refine wp_icmp_lt dX12_isSmall_3 rfl (fun c3 => ?_) (fun c3 => absurd c3 (by decide))
  exact wp_iconst (v := nI 0) dX12_isSmall_16 rfl (wb_ret dX12_isSmall_17 rfl rfl ⟨rfl, rfl⟩)
theorem m_isDigit_e (d : Nat) (S : xS) : xcall false d j_X12_isDigit [.int (-1)] S (some (.int (xB false))) S := by
  refine xcall_intro (ls := [.int (-1)]) q_X12_isDigit (by decide) rfl (Nat.le_of_ble_eq_true rfl) rfl ?_
  refine wp_iload_n dX12_isDigit_0 rfl (wp_bipush (v := nI 48) dX12_isDigit_1 rfl ?_)
  refine wp_icmp_lt dX12_isDigit_3 rfl (fun c3 => ?_) (fun c3 => absurd c3 (by decide))
  exact wp_iconst (v := nI 0) dX12_isDigit_16 rfl (wb_ret dX12_isDigit_17 rfl rfl ⟨rfl, rfl⟩)
theorem next_skip {d n : Nat} {t : Nat → Nat} {Q : Option Value → xS → Prop} : ∀ (j i : Nat) (S : xS), i + j = n → XC S → xTxM S n t → S.2.1 187 4 = nI i → (∀ S', xFl (fun a k => a = 187 ∧ k = 4) S S' → S'.2.1 187 4 = nI (xskip t j i) → Wp false (d + 1) 11 cX12_next none false 31 [.ref 187, .float 0, .float 0, .float 0] [] S' Q) → Wp false (d + 1) 11 cX12_next none false 0 [.ref 187, .float 0, .float 0, .float 0] [] S Q := by
  intro j
  induction j with
  | zero =>
    intro i S hi hX hT hp k
    have g := m_peek_e d hX hT hp (by omega) (by have := hT.2.1; omega)
    refine wp_aload_n dX12_next_0 rfl rfl (wp_iv1 dX12_next_1 k11_24 q_X12_peek (by decide) (xsh hX sh_187) (by decide) (Nat.le_of_ble_eq_true rfl) g (wp_bipush (v := nI 32) dX12_next_4 rfl ?_))
    refine wp_icmp_eq dX12_next_6 rfl (fun c6 => absurd c6 (by decide)) (fun c6 => ?_)
    refine wp_aload_n dX12_next_9 rfl rfl (wp_iv1 dX12_next_10 k11_24 q_X12_peek (by decide) (xsh hX sh_187) (by decide) (Nat.le_of_ble_eq_true rfl) g (wp_bipush (v := nI 10) dX12_next_13 rfl ?_))
    refine wp_icmp_ne dX12_next_15 rfl (fun c15 => ?_) (fun c15 => absurd c15 (by decide))
    exact k S (xFl.rf S) hp
  | succ j ih =>
    intro i S hi hX hT hp k
    have g := m_peek d hX hT hp (by omega)
    obtain ⟨hc, hv⟩ := hT.2.2 i (by omega)
    have t18 (hw : t i = 32 ∨ t i = 10) : Wp false (d + 1) 11 cX12_next none false 18 [.ref 187, .float 0, .float 0, .float 0] [] S Q := by
      refine wp_aload_n dX12_next_18 rfl rfl (wp_dup dX12_next_19 rfl (gv11_21 dX12_next_20 (xsh hX sh_187) hp (wp_iconst (v := nI 1) dX12_next_23 rfl (wv_iadd dX12_next_24 (nI_add _ _) (p11_21 dX12_next_25 (xsh hX sh_187) (wp_goto dX12_next_28 rfl ?_))))))
      refine ih (i + 1) (xSI S 187 4 (nI (i + 1))) (by omega) hX (hT.fr ((xFl.rf (P := fun a k => a = 187 ∧ k = 4) S).SI ⟨rfl, rfl⟩) (by omega) (fun k => by omega)) (xI_same _ _ _ _) ?_
      intro S' f h
      exact k S' (((xFl.rf (P := fun a k => a = 187 ∧ k = 4) S).SI ⟨rfl, rfl⟩).tt f) (by rw [h, xskip, if_pos hw])
    refine wp_aload_n dX12_next_0 rfl rfl (wp_iv1 dX12_next_1 k11_24 q_X12_peek (by decide) (xsh hX sh_187) (by decide) (Nat.le_of_ble_eq_true rfl) g (wp_bipush (v := nI 32) dX12_next_4 rfl ?_))
    refine wn_icmp_eq dX12_next_6 rfl (by omega) (by omega) (fun c6 => ?_) (fun c6 => ?_)
    · exact t18 (Or.inl c6)
    · refine wp_aload_n dX12_next_9 rfl rfl (wp_iv1 dX12_next_10 k11_24 q_X12_peek (by decide) (xsh hX sh_187) (by decide) (Nat.le_of_ble_eq_true rfl) g (wp_bipush (v := nI 10) dX12_next_13 rfl ?_))
      refine wn_icmp_ne dX12_next_15 rfl (by omega) (by omega) (fun c15 => ?_) (fun c15 => ?_)
      · exact k S (xFl.rf S) (by rw [hp, xskip, if_neg (by omega)])
      · exact t18 (Or.inr c15)
theorem next_run {d n c s : Nat} {sm : Bool} {t : Nat → Nat} {Q : Option Value → xS → Prop} : ∀ (j i : Nat) (S : xS), i + j = n → s ≤ i → XC S → xTxM S n t → S.2.1 187 4 = nI i → S.2.1 187 7 = nI (i - s) → (i - s ≤ 8 → S.2.2.2 187 11 = lN (xwd t s (i - s))) → (∀ S', xFl (fun a k => a = 187 ∧ (k = 4 ∨ k = 7)) S S' → S'.2.1 187 4 = nI (xrunE t j i) → S'.2.1 187 7 = nI (xrunE t j i - s) → (xrunE t j i - s ≤ 8 → S'.2.2.2 187 11 = lN (xwd t s (xrunE t j i - s))) → Wp false (d + 1) 11 cX12_next none false 209 [.ref 187, .int (nI c), .int (xB sm), .int (xB (xall t s (xrunE t j i) sm))] [] S' Q) → Wp false (d + 1) 11 cX12_next none false 119 [.ref 187, .int (nI c), .int (xB sm), .int (xB (xall t s (i) sm))] [] S Q := by
  intro j
  induction j with
  | zero =>
    intro i S hi hsi hX hT hp hsp hw k
    have g := m_peek_e d hX hT hp (by omega) (by have := hT.2.1; omega)
    refine wp_aload_n dX12_next_119 rfl rfl (wp_iv1 dX12_next_120 k11_24 q_X12_peek (by decide) (xsh hX sh_187) (by decide) (Nat.le_of_ble_eq_true rfl) g (wp_is1 dX12_next_123 k11_37 q_X12_isSmall (by decide) (Nat.le_of_ble_eq_true rfl) (m_isSmall_e d S) ?_))
    refine wb_if_ne dX12_next_126 rfl (fun c126 => absurd c126 (by decide)) (fun c126 => ?_)
    refine wp_aload_n dX12_next_129 rfl rfl (wp_iv1 dX12_next_130 k11_24 q_X12_peek (by decide) (xsh hX sh_187) (by decide) (Nat.le_of_ble_eq_true rfl) g (wp_is1 dX12_next_133 k11_41 q_X12_isDigit (by decide) (Nat.le_of_ble_eq_true rfl) (m_isDigit_e d S) ?_))
    refine wb_if_eq dX12_next_136 rfl (fun c136 => ?_) (fun c136 => absurd c136 (by decide))
    exact k S (xFl.rf S) hp hsp hw
  | succ j ih =>
    intro i S hi hsi hX hT hp hsp hw k
    have hle := hT.2.1
    have g := m_peek d hX hT hp (by omega)
    obtain ⟨hc, hv⟩ := hT.2.2 i (by omega)
    have e0 : xwc (t i) = (xsm (t i) || xdg (t i)) := rfl
    have t186 (hw0 : xwc (t i) = true) (S2 : xS) (F2 : xFl (fun a k => a = 187 ∧ (k = 4 ∨ k = 7)) S S2) (X2 : XC S2) (T2 : xTxM S2 n t) (p2 : S2.2.1 187 4 = nI i) (s2 : S2.2.1 187 7 = nI (i - s)) (w2 : i + 1 - s ≤ 8 → S2.2.2.2 187 11 = lN (xwd t s (i + 1 - s))) : Wp false (d + 1) 11 cX12_next none false 186 [.ref 187, .int (nI c), .int (xB sm), .int (xB (xall t s (i + 1) sm))] [] S2 Q := by
      refine wp_aload_n dX12_next_186 rfl rfl (wp_dup dX12_next_187 rfl (gv11_31 dX12_next_188 (xsh X2 sh_187) s2 (wp_iconst (v := nI 1) dX12_next_191 rfl (wv_iadd dX12_next_192 (nI_add _ _) (p11_31 dX12_next_193 (xsh X2 sh_187) (wp_aload_n dX12_next_196 rfl rfl (wp_dup dX12_next_197 rfl (gv11_21 dX12_next_198 (xsh X2 sh_187) (xi p2 (Or.inr (by decide))) (wp_iconst (v := nI 1) dX12_next_201 rfl (wv_iadd dX12_next_202 (nI_add _ _) (p11_21 dX12_next_203 (xsh X2 sh_187) (wp_goto dX12_next_206 rfl ?_))))))))))))
      refine ih (i + 1) (xSI (xSI S2 187 7 (nI (i - s + 1))) 187 4 (nI (i + 1))) (by omega) (by omega) X2 (T2.fr (((xFl.rf (P := (fun a k => a = 187 ∧ (k = 4 ∨ k = 7))) S2).SI (a := 187) (k := 7) ⟨rfl, Or.inr rfl⟩).SI (a := 187) (k := 4) ⟨rfl, Or.inl rfl⟩) (by omega) (fun k => by omega)) (xI_same _ _ _ _) ((xi (xI_same _ _ _ _) (Or.inr (by decide))).trans (by congr 1; omega)) w2 ?_
      intro S' f h1 h2 h3
      have e1 : xrunE t (j + 1) i = xrunE t j (i + 1) := by rw [xrunE, if_pos hw0]
      rw [e1] at k
      exact k S' (((F2.SI ⟨rfl, Or.inr rfl⟩).SI ⟨rfl, Or.inl rfl⟩).tt f) h1 h2 h3
    have t159 (hw0 : xwc (t i) = true) (b : Bool) (hb : b = xall t s (i + 1) sm) : Wp false (d + 1) 11 cX12_next none false 159 [.ref 187, .int (nI c), .int (xB sm), .int (xB (xall t s (i) sm))] [.int (xB b)] S Q := by
      subst hb
      refine wp_istore_n dX12_next_159 ⟨Nat.le_of_ble_eq_true rfl, Or.inr rfl⟩ rfl (wp_aload_n dX12_next_160 rfl rfl (gv11_31 dX12_next_161 (xsh hX sh_187) hsp (wp_bipush (v := nI 8) dX12_next_164 rfl ?_)))
      refine wn_icmp_ge dX12_next_166 rfl (by omega) (by omega) (fun c166 => ?_) (fun c166 => ?_)
      · exact t186 hw0 S (xFl.rf S) hX hT hp hsp (fun q => absurd q (by omega))
      · refine wp_aload_n dX12_next_169 rfl rfl (wp_aload_n dX12_next_170 rfl rfl (g11_44 dX12_next_171 (xsh hX sh_187) (wp_bipush (v := nI 8) dX12_next_174 rfl (wp_lshl dX12_next_176 (wp_aload_n dX12_next_177 rfl rfl (wp_iv1 dX12_next_178 k11_24 q_X12_peek (by decide) (xsh hX sh_187) (by decide) (Nat.le_of_ble_eq_true rfl) g (wp_i2l dX12_next_181 (wp_lor dX12_next_182 (p11_44 dX12_next_183 (xsh hX sh_187) ?_)))))))))
        refine t186 hw0 _ (xFl.SL (xFl.rf S) 187 11 _) hX hT hp hsp (fun _ => ?_)
        rw [xL_same, hw (by omega), wb_shl (xwd t s (i - s)) (k := 8) (by decide), nI_l (n := t i) (by omega), show i + 1 - s = (i - s) + 1 by omega, xwd, show s + (i - s) = i by omega]
        exact g_or rfl hc (by have := xwd_lt t s (i - s) (fun q hq => (hT.2.2 (s + q) (by omega)).1); have h7 : 256 ^ (i - s) ≤ 256 ^ 7 := Nat.pow_le_pow_right (by decide) (by omega); omega)
    have t139 (hw0 : xwc (t i) = true) : Wp false (d + 1) 11 cX12_next none false 139 [.ref 187, .int (nI c), .int (xB sm), .int (xB (xall t s (i) sm))] [] S Q := by
      refine wp_iload_n dX12_next_139 rfl ?_
      refine wb_if_eq dX12_next_140 rfl (fun c140 => ?_) (fun c140 => ?_)
      · exact wp_iconst (v := nI 0) dX12_next_158 rfl (t159 hw0 false (Eq.symm (decide_eq_false (fun q => (of_decide_eq_false c140) (fun k h1 h2 => q k (by omega) h2)))))
      · refine wp_aload_n dX12_next_143 rfl rfl (wp_iv1 dX12_next_144 k11_24 q_X12_peek (by decide) (xsh hX sh_187) (by decide) (Nat.le_of_ble_eq_true rfl) g (wp_is1 dX12_next_147 k11_37 q_X12_isSmall (by decide) (Nat.le_of_ble_eq_true rfl) (m_isSmall (by omega) d S) (wp_iload_n dX12_next_150 rfl ?_)))
        refine wp_icmp_ne dX12_next_151 rfl (fun c151 => ?_) (fun c151 => ?_)
        · exact wp_iconst (v := nI 0) dX12_next_158 rfl (t159 hw0 false (Eq.symm (decide_eq_false (fun q => c151 (xB_inj.mpr (q i (by omega) hsi))))))
        · exact wp_iconst (v := nI 1) dX12_next_154 rfl (wp_goto dX12_next_155 rfl (t159 hw0 true (Eq.symm (decide_eq_true (fun k h1 h2 => by
            rcases Nat.lt_or_ge k i with q | q
            · exact of_decide_eq_true c140 k q h2
            · rw [show k = i by omega]; exact xB_inj.mp c151)))))
    refine wp_aload_n dX12_next_119 rfl rfl (wp_iv1 dX12_next_120 k11_24 q_X12_peek (by decide) (xsh hX sh_187) (by decide) (Nat.le_of_ble_eq_true rfl) g (wp_is1 dX12_next_123 k11_37 q_X12_isSmall (by decide) (Nat.le_of_ble_eq_true rfl) (m_isSmall (by omega) d S) ?_))
    refine wb_if_ne dX12_next_126 rfl (fun c126 => ?_) (fun c126 => ?_)
    · exact t139 (by rw [e0, c126]; rfl)
    · refine wp_aload_n dX12_next_129 rfl rfl (wp_iv1 dX12_next_130 k11_24 q_X12_peek (by decide) (xsh hX sh_187) (by decide) (Nat.le_of_ble_eq_true rfl) g (wp_is1 dX12_next_133 k11_41 q_X12_isDigit (by decide) (Nat.le_of_ble_eq_true rfl) (m_isDigit (by omega) d S) ?_))
      refine wb_if_eq dX12_next_136 rfl (fun c136 => ?_) (fun c136 => ?_)
      · have e1 : xrunE t (j + 1) i = i := by rw [xrunE, if_neg (by rw [e0, c126, c136]; decide)]
        rw [e1] at k
        exact k S (xFl.rf S) hp hsp hw
      · exact t139 (by rw [e0, c126, c136]; rfl)
theorem xall_lets {t : Nat → Nat} {n p : Nat} (h : xts t n p < xte t n p) (hb : ∀ k, k < n → t k < 256) (hp : p ≤ n) : (if xall t (xts t n p) (xte t n p) (xsm (t (xts t n p))) = true then (if xsm (t (xts t n p)) = true then (if xte t n p - xts t n p ≤ 12 then 1 else 4) else (if xte t n p - xts t n p ≤ 1 then 2 else 4)) else 4) = xtk t n p := by
  have h0 := xts_b t hp
  have e1 := xlets_all t (n - xts t n p) (xts t n p)
  have e2 := xlets_no t (n - xts t n p) (xts t n p)
  have e3 : xrunE t (n - xts t n p) (xts t n p) = xte t n p := rfl
  have e4 : xlets t (n - xts t n p) (xts t n p) = xtl t n p := rfl
  rw [e3, e4] at e1 e2
  unfold xtk
  rw [if_pos h]
  cases hs : xsm (t (xts t n p)) with
  | true =>
    have n0 : xtl t n p ≠ 0 := fun e => by have := e2.mp e _ (Nat.le_refl _) h; rw [hs] at this; cases this
    by_cases ha : xall t (xts t n p) (xte t n p) true = true
    · rw [if_pos ha, if_pos rfl]
      have := e1.mpr (fun k h1 h2 => of_decide_eq_true ha k h2 h1)
      repeat' split
      all_goals omega
    · rw [if_neg ha]
      have : ¬ xts t n p + xtl t n p = xte t n p := fun e => ha (decide_eq_true (fun k h1 h2 => e1.mp e k h2 h1))
      repeat' split
      all_goals omega
  | false =>
    have n0 : ¬ xts t n p + xtl t n p = xte t n p := fun e => by have := e1.mp e _ (Nat.le_refl _) h; rw [hs] at this; cases this
    by_cases ha : xall t (xts t n p) (xte t n p) false = true
    · rw [if_pos ha, if_neg (by decide)]
      have := e2.mpr (fun k h1 h2 => of_decide_eq_true ha k h2 h1)
      repeat' split
      all_goals omega
    · rw [if_neg ha]
      have : ¬ xtl t n p = 0 := fun e => ha (decide_eq_true (fun k h1 h2 => e2.mp e k h2 h1))
      repeat' split
      all_goals omega
theorem m_next (d : Nat) {S : xS} {n p : Nat} {t : Nat → Nat} (hX : XC S) (hT : xTxM S n t) (hp : S.2.1 187 4 = nI p) (hpn : p ≤ n) : ∃ S', xcall false (d + 1) j_X12_next [.ref 187] S none S' ∧ xFl (fun a k => a = 187 ∧ (k = 4 ∨ k = 5 ∨ k = 6 ∨ k = 7 ∨ k = 8)) S S' ∧ xTM S' n t p := by
  have hle := hT.2.1
  have hs := xts_b t hpn
  obtain ⟨r, S', h1, h2, h3⟩ := xcall_some (al := false) (d := d + 1) (ls := [.ref 187, .float 0, .float 0, .float 0]) (S := S) (as := [.ref 187]) q_X12_next (by decide) rfl (Nat.le_of_ble_eq_true rfl) rfl
    (P := fun r S' => r = none ∧ xFl (fun a k => a = 187 ∧ (k = 4 ∨ k = 5 ∨ k = 6 ∨ k = 7 ∨ k = 8)) S S' ∧ xTM S' n t p) (by
      refine next_skip (n - p) p S (by omega) hX hT hp (fun S1 f1 p1 => ?_)
      have e1 : xskip t (n - p) p = xts t n p := rfl
      rw [e1] at p1
      have X1 := f1.XC hX
      have T1 := hT.fr f1 (by omega) (fun k => by omega)
      have F1 : xFl (fun a k => a = 187 ∧ (k = 4 ∨ k = 5 ∨ k = 6 ∨ k = 7 ∨ k = 8)) S S1 := f1.mono (fun a k h => ⟨h.1, Or.inl h.2⟩)
      have F2 : xFl (fun a k => a = 187 ∧ (k = 4 ∨ k = 5 ∨ k = 6 ∨ k = 7 ∨ k = 8)) S (xSI (xSI S1 187 6 (nI (xts t n p))) 187 7 (nI 0)) := (F1.SI (a := 187) (k := 6) (by omega)).SI (a := 187) (k := 7) (by omega)
      have T2 : xTxM (xSI (xSI S1 187 6 (nI (xts t n p))) 187 7 (nI 0)) n t := hT.fr F2 (by omega) (fun k => by omega)
      have a2 : (xSI (xSI S1 187 6 (nI (xts t n p))) 187 7 (nI 0)).2.1 187 6 = nI (xts t n p) := xi (xI_same _ _ _ _) (Or.inr (by decide))
      have p2 : (xSI (xSI S1 187 6 (nI (xts t n p))) 187 7 (nI 0)).2.1 187 4 = nI (xts t n p) := xi (xi p1 (Or.inr (by decide))) (Or.inr (by decide))
      rcases Nat.lt_or_ge (xts t n p) n with hlt | hge
      · obtain ⟨hc, hv⟩ := hT.2.2 (xts t n p) hlt
        have g := m_peek d (S := xSI (xSI S1 187 6 (nI (xts t n p))) 187 7 (nI 0)) X1 T2 p2 hlt
        by_cases hw : xwc (t (xts t n p)) = true
        · have hse : xts t n p < xte t n p := by
            unfold xte
            rw [show n - xts t n p = (n - xts t n p - 1) + 1 by omega, xrunE, if_pos hw]
            have := xrunE_b t (n - xts t n p - 1) (xts t n p + 1)
            omega
          have hwb := xwc_b hw
          have TL : ∀ (S3 : xS), xFl (fun a k => a = 187 ∧ (k = 4 ∨ k = 5 ∨ k = 6 ∨ k = 7 ∨ k = 8)) S S3 → S3.2.1 187 4 = nI (xte t n p) → S3.2.1 187 6 = nI (xts t n p) → S3.2.1 187 7 = nI (xte t n p - xts t n p) → S3.2.1 187 8 = nI (t (xts t n p) - 48) → S3.2.2.2 187 11 = lN (if xte t n p - xts t n p ≤ 8 then xwd t (xts t n p) (xte t n p - xts t n p) else 0) → Wp false (d + 1) 11 cX12_next none false 223 [.ref 187, .int (nI (t (xts t n p))), .int (xB (xsm (t (xts t n p)))), .int (xB (xall t (xts t n p) (xte t n p) (xsm (t (xts t n p)))))] [] S3 (fun r S' => r = none ∧ xFl (fun a k => a = 187 ∧ (k = 4 ∨ k = 5 ∨ k = 6 ∨ k = 7 ∨ k = 8)) S S' ∧ xTM S' n t p) := by
            intro S3 F3 p3 a3 s3 n3 w3
            have X3 := F3.XC hX
            have K := xall_lets hse (fun k hk => (hT.2.2 k hk).1) hpn
            have E : ∀ v, v = xtk t n p → xTM (xSI S3 187 5 (nI v)) n t p := fun v hv => ⟨hpn, xi a3 (Or.inr (by decide)), xi (p3.trans (by unfold xta; rw [if_pos hse])) (Or.inr (by decide)), by rw [xI_same, hv], fun _ => ⟨xi s3 (Or.inr (by decide)), xi n3 (Or.inr (by decide)), w3⟩⟩
            have t245 (hk : xtk t n p = 4) : Wp false (d + 1) 11 cX12_next none false 245 [.ref 187, .int (nI (t (xts t n p))), .int (xB (xsm (t (xts t n p)))), .int (xB (xall t (xts t n p) (xte t n p) (xsm (t (xts t n p)))))] [.ref 187] S3 (fun r S' => r = none ∧ xFl (fun a k => a = 187 ∧ (k = 4 ∨ k = 5 ∨ k = 6 ∨ k = 7 ∨ k = 8)) S S' ∧ xTM S' n t p) := by
              exact wp_iconst (v := nI 4) dX12_next_245 rfl (wp_goto dX12_next_246 rfl (p11_34 dX12_next_258 (xsh X3 sh_187) (wp_return dX12_next_261 rfl ⟨rfl, F3.SI (by omega), E 4 hk.symm⟩)))
            have t249 (hk : xtk t n p = if xsm (t (xts t n p)) = true then 1 else 2) : Wp false (d + 1) 11 cX12_next none false 249 [.ref 187, .int (nI (t (xts t n p))), .int (xB (xsm (t (xts t n p)))), .int (xB (xall t (xts t n p) (xte t n p) (xsm (t (xts t n p)))))] [.ref 187] S3 (fun r S' => r = none ∧ xFl (fun a k => a = 187 ∧ (k = 4 ∨ k = 5 ∨ k = 6 ∨ k = 7 ∨ k = 8)) S S' ∧ xTM S' n t p) := by
              refine wp_iload_n dX12_next_249 rfl ?_
              refine wb_if_eq dX12_next_250 rfl (fun c250 => ?_) (fun c250 => ?_)
              · exact wp_iconst (v := nI 2) dX12_next_257 rfl (p11_34 dX12_next_258 (xsh X3 sh_187) (wp_return dX12_next_261 rfl ⟨rfl, F3.SI (by omega), E 2 (by rw [hk, if_neg (by rw [c250]; decide)])⟩))
              · exact wp_iconst (v := nI 1) dX12_next_253 rfl (wp_goto dX12_next_254 rfl (p11_34 dX12_next_258 (xsh X3 sh_187) (wp_return dX12_next_261 rfl ⟨rfl, F3.SI (by omega), E 1 (by rw [hk, if_pos c250])⟩)))
            refine wp_aload_n dX12_next_223 rfl rfl (wp_iload_n dX12_next_224 rfl ?_)
            refine wb_if_eq dX12_next_225 rfl (fun c225 => ?_) (fun c225 => ?_)
            · exact t245 (by rw [← K, if_neg (by rw [c225]; decide)])
            · refine wp_aload_n dX12_next_228 rfl rfl (gv11_31 dX12_next_229 (xsh X3 sh_187) s3 (wp_iload_n dX12_next_232 rfl ?_))
              refine wb_if_eq dX12_next_233 rfl (fun c233 => ?_) (fun c233 => ?_)
              · refine wp_iconst (v := nI 1) dX12_next_241 rfl ?_
                refine wn_icmp_le dX12_next_242 rfl (by omega) (by omega) (fun c242 => ?_) (fun c242 => ?_)
                · exact t249 (by rw [← K, if_pos c225, if_neg (by rw [c233]; decide), if_pos (by omega), if_neg (by rw [c233]; decide)])
                · exact t245 (by rw [← K, if_pos c225, if_neg (by rw [c233]; decide), if_neg (by omega)])
              · refine wp_bipush (v := nI 12) dX12_next_236 rfl (wp_goto dX12_next_238 rfl ?_)
                refine wn_icmp_le dX12_next_242 rfl (by omega) (by omega) (fun c242 => ?_) (fun c242 => ?_)
                · exact t249 (by rw [← K, if_pos c225, if_pos c233, if_pos (by omega), if_pos c233])
                · exact t245 (by rw [← K, if_pos c225, if_pos c233, if_neg (by omega)])
          have t99 : Wp false (d + 1) 11 cX12_next none false 99 [.ref 187, .int (nI (t (xts t n p))), .float 0, .float 0] [] (xSI (xSI S1 187 6 (nI (xts t n p))) 187 7 (nI 0)) (fun r S' => r = none ∧ xFl (fun a k => a = 187 ∧ (k = 4 ∨ k = 5 ∨ k = 6 ∨ k = 7 ∨ k = 8)) S S' ∧ xTM S' n t p) := by
            refine wp_iload_n dX12_next_99 rfl (wp_is1 dX12_next_100 k11_37 q_X12_isSmall (by decide) (Nat.le_of_ble_eq_true rfl) (m_isSmall (by omega) d _) (wp_istore_n dX12_next_103 ⟨Nat.le_of_ble_eq_true rfl, Or.inr rfl⟩ rfl (wp_iconst (v := nI 1) dX12_next_104 rfl (wp_istore_n dX12_next_105 ⟨Nat.le_of_ble_eq_true rfl, Or.inr rfl⟩ rfl (wp_aload_n dX12_next_106 rfl rfl (wp_lconst dX12_next_107 rfl (p11_44 dX12_next_108 (xsh X1 sh_187) (wp_aload_n dX12_next_111 rfl rfl (wp_iload_n dX12_next_112 rfl (wp_bipush (v := nI 48) dX12_next_113 rfl (wv_isub dX12_next_115 (pk_sub (by omega)) (p11_48 dX12_next_116 (xsh X1 sh_187) ?_))))))))))))
            refine wp_locals (ls' := [.ref 187, .int (nI (t (xts t n p))), .int (xB (xsm (t (xts t n p)))), .int (xB (xall t (xts t n p) (xts t n p) (xsm (t (xts t n p)))))]) (by rw [show xall t (xts t n p) (xts t n p) (xsm (t (xts t n p))) = true from decide_eq_true (fun k h1 h2 => absurd h1 (by omega))]; rfl) ?_
            refine next_run (n := n) (s := xts t n p) (n - xts t n p) (xts t n p) _ (by omega) (Nat.le_refl _) X1 (T2.fr (((xFl.rf (P := fun a k => a = 187 ∧ k = 8) _).SL 187 11 _).SI (a := 187) (k := 8) ⟨rfl, rfl⟩) (by omega) (fun k => by omega)) (xi p2 (Or.inr (by decide))) (xi (show (xSI (xSI S1 187 6 (nI (xts t n p))) 187 7 (nI 0)).2.1 187 7 = _ from (xI_same _ _ _ _).trans (by rw [Nat.sub_self])) (Or.inr (by decide))) (fun _ => by rw [Nat.sub_self]; exact xL_same (xSI (xSI S1 187 6 (nI (xts t n p))) 187 7 (nI 0)) 187 11 _) (fun S3 f3 p3 s3 w3 => ?_)
            have e3 : xrunE t (n - xts t n p) (xts t n p) = xte t n p := rfl
            rw [e3] at p3 s3 w3 ⊢
            have F3 : xFl (fun a k => a = 187 ∧ (k = 4 ∨ k = 5 ∨ k = 6 ∨ k = 7 ∨ k = 8)) S S3 := (((F2.SL 187 11 _).SI (a := 187) (k := 8) (by omega))).tt (f3.mono (fun a k h => by omega))
            have a3 : S3.2.1 187 6 = nI (xts t n p) := f3.i (xi a2 (Or.inr (by decide))) (by omega)
            have n3 : S3.2.1 187 8 = nI (t (xts t n p) - 48) := f3.i (xI_same _ _ _ _) (by omega)
            have X3 := F3.XC hX
            refine wp_aload_n dX12_next_209 rfl rfl (gv11_31 dX12_next_210 (xsh X3 sh_187) s3 (wp_bipush (v := nI 8) dX12_next_213 rfl ?_))
            refine wn_icmp_le dX12_next_215 rfl (by omega) (by omega) (fun c215 => ?_) (fun c215 => ?_)
            · exact TL S3 F3 p3 a3 s3 n3 ((w3 c215).trans (by rw [if_pos c215]))
            · exact wp_aload_n dX12_next_218 rfl rfl (wp_lconst dX12_next_219 rfl (p11_44 dX12_next_220 (xsh X3 sh_187) (TL _ (F3.SL 187 11 _) p3 a3 s3 n3 ((xL_same _ _ _ _).trans (by rw [if_neg (by omega)]; rfl)))))
          refine wp_aload_n dX12_next_31 rfl rfl (wp_aload_n dX12_next_32 rfl rfl (gv11_21 dX12_next_33 (xsh X1 sh_187) p1 (p11_28 dX12_next_36 (xsh X1 sh_187) (wp_aload_n dX12_next_39 rfl rfl (wp_iconst (v := nI 0) dX12_next_40 rfl (p11_31 dX12_next_41 (xsh X1 sh_187) (wp_aload_n dX12_next_44 rfl rfl (wp_iv1 dX12_next_45 k11_24 q_X12_peek (by decide) (xsh X1 sh_187) (by decide) (Nat.le_of_ble_eq_true rfl) g (wp_istore_n dX12_next_48 ⟨Nat.le_of_ble_eq_true rfl, Or.inr rfl⟩ rfl (wp_iload_n dX12_next_49 rfl ?_))))))))))
          refine wn_if_ge dX12_next_50 rfl (by omega) ?_
          refine wp_iload_n dX12_next_59 rfl (wp_is1 dX12_next_60 k11_37 q_X12_isSmall (by decide) (Nat.le_of_ble_eq_true rfl) (m_isSmall (by omega) d _) ?_)
          refine wb_if_ne dX12_next_63 rfl (fun c63 => ?_) (fun c63 => ?_)
          · exact t99
          · refine wp_iload_n dX12_next_66 rfl (wp_is1 dX12_next_67 k11_41 q_X12_isDigit (by decide) (Nat.le_of_ble_eq_true rfl) (m_isDigit (by omega) d _) ?_)
            refine wb_if_ne dX12_next_70 rfl (fun c70 => ?_) (fun c70 => ?_)
            · exact t99
            · exact absurd hw (by unfold xwc; rw [c63, c70]; decide)
        · have hse : xte t n p = xts t n p := by
            unfold xte
            rw [show n - xts t n p = (n - xts t n p - 1) + 1 by omega, xrunE, if_neg hw]
          have hw2 : xsm (t (xts t n p)) = false ∧ xdg (t (xts t n p)) = false := by
            unfold xwc at hw
            cases h5 : xsm (t (xts t n p)) <;> cases h6 : xdg (t (xts t n p)) <;> simp_all
          have E : ∀ v, v = xtk t n p → xTM (xSI (xSI (xSI (xSI S1 187 6 (nI (xts t n p))) 187 7 (nI 0)) 187 5 (nI v)) 187 4 (nI (xts t n p + 1))) n t p := fun v hv => ⟨hpn, xi (xi a2 (Or.inr (by decide))) (Or.inr (by decide)), by rw [xI_same]; unfold xta; rw [if_neg (by omega), if_neg (by omega)], by rw [xI_ne _ _ (Or.inr (by decide)), xI_same, hv], fun h => absurd h (by omega)⟩
          refine wp_aload_n dX12_next_31 rfl rfl (wp_aload_n dX12_next_32 rfl rfl (gv11_21 dX12_next_33 (xsh X1 sh_187) p1 (p11_28 dX12_next_36 (xsh X1 sh_187) (wp_aload_n dX12_next_39 rfl rfl (wp_iconst (v := nI 0) dX12_next_40 rfl (p11_31 dX12_next_41 (xsh X1 sh_187) (wp_aload_n dX12_next_44 rfl rfl (wp_iv1 dX12_next_45 k11_24 q_X12_peek (by decide) (xsh X1 sh_187) (by decide) (Nat.le_of_ble_eq_true rfl) g (wp_istore_n dX12_next_48 ⟨Nat.le_of_ble_eq_true rfl, Or.inr rfl⟩ rfl (wp_iload_n dX12_next_49 rfl ?_))))))))))
          refine wn_if_ge dX12_next_50 rfl (by omega) ?_
          refine wp_iload_n dX12_next_59 rfl (wp_is1 dX12_next_60 k11_37 q_X12_isSmall (by decide) (Nat.le_of_ble_eq_true rfl) (m_isSmall (by omega) d _) ?_)
          refine wb_if_ne dX12_next_63 rfl (fun c63 => absurd c63 (by rw [hw2.1]; decide)) (fun c63 => ?_)
          refine wp_iload_n dX12_next_66 rfl (wp_is1 dX12_next_67 k11_41 q_X12_isDigit (by decide) (Nat.le_of_ble_eq_true rfl) (m_isDigit (by omega) d _) ?_)
          refine wb_if_ne dX12_next_70 rfl (fun c70 => absurd c70 (by rw [hw2.2]; decide)) (fun c70 => ?_)
          refine wp_aload_n dX12_next_73 rfl rfl (wp_iload_n dX12_next_74 rfl (wp_bipush (v := nI 59) dX12_next_75 rfl ?_))
          refine wn_icmp_ne dX12_next_77 rfl (by omega) (by omega) (fun c77 => ?_) (fun c77 => ?_)
          · exact wp_iconst (v := nI 4) dX12_next_84 rfl (p11_34 dX12_next_85 (xsh X1 sh_187) (wp_aload_n dX12_next_88 rfl rfl (wp_dup dX12_next_89 rfl (gv11_21 dX12_next_90 (xsh X1 sh_187) (xi p2 (Or.inr (by decide))) (wp_iconst (v := nI 1) dX12_next_93 rfl (wv_iadd dX12_next_94 (nI_add _ _) (p11_21 dX12_next_95 (xsh X1 sh_187) (wp_return dX12_next_98 rfl ⟨rfl, (F2.SI (by omega)).SI (by omega), E 4 (by unfold xtk; rw [if_neg (by omega), if_neg (by omega), if_neg c77])⟩))))))))
          · exact wp_iconst (v := nI 3) dX12_next_80 rfl (wp_goto dX12_next_81 rfl (p11_34 dX12_next_85 (xsh X1 sh_187) (wp_aload_n dX12_next_88 rfl rfl (wp_dup dX12_next_89 rfl (gv11_21 dX12_next_90 (xsh X1 sh_187) (xi p2 (Or.inr (by decide))) (wp_iconst (v := nI 1) dX12_next_93 rfl (wv_iadd dX12_next_94 (nI_add _ _) (p11_21 dX12_next_95 (xsh X1 sh_187) (wp_return dX12_next_98 rfl ⟨rfl, (F2.SI (by omega)).SI (by omega), E 3 (by unfold xtk; rw [if_neg (by omega), if_neg (by omega), if_pos c77])⟩)))))))))
      · have hse : xte t n p = xts t n p := by omega
        have g := m_peek_e d (S := xSI (xSI S1 187 6 (nI (xts t n p))) 187 7 (nI 0)) X1 T2 p2 hge (by omega)
        exact wp_aload_n dX12_next_31 rfl rfl (wp_aload_n dX12_next_32 rfl rfl (gv11_21 dX12_next_33 (xsh X1 sh_187) p1 (p11_28 dX12_next_36 (xsh X1 sh_187) (wp_aload_n dX12_next_39 rfl rfl (wp_iconst (v := nI 0) dX12_next_40 rfl (p11_31 dX12_next_41 (xsh X1 sh_187) (wp_aload_n dX12_next_44 rfl rfl (wp_iv1 dX12_next_45 k11_24 q_X12_peek (by decide) (xsh X1 sh_187) (by decide) (Nat.le_of_ble_eq_true rfl) g (wp_istore_n dX12_next_48 ⟨Nat.le_of_ble_eq_true rfl, Or.inr rfl⟩ rfl (wp_iload_n dX12_next_49 rfl (wp_if_ge dX12_next_50 rfl (fun c50 => absurd c50 (by decide)) (fun c50 => (wp_aload_n dX12_next_53 rfl rfl (wp_iconst (v := nI 0) dX12_next_54 rfl (p11_34 dX12_next_55 (xsh X1 sh_187) (wp_return dX12_next_58 rfl ⟨rfl, F2.SI (by omega), hpn, xi a2 (Or.inr (by decide)), (xi p2 (Or.inr (by decide))).trans (by unfold xta; rw [if_neg (by omega), if_pos (by omega)]), by rw [xI_same]; unfold xtk; rw [if_neg (by omega), if_pos (by omega)], fun h => absurd h (by omega)⟩)))))))))))))))))
  subst h2
  exact ⟨S', h1, h3⟩
