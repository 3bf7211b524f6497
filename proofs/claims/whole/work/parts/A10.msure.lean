/-! what one is SURE of, in the reference -/
def xan (p : Nat → Bool) : Nat → Bool
  | 0 => false
  | n + 1 => xan p n || p n
theorem xan_iff (p : Nat → Bool) : ∀ n, xan p n = true ↔ ∃ a, a < n ∧ p a = true
  | 0 => ⟨fun h => (by cases h), fun h => (by obtain ⟨a, h, _⟩ := h; exact absurd h (Nat.not_lt_zero a))⟩
  | n + 1 => by
    rw [xan, Bool.or_eq_true, xan_iff p n]
    constructor
    · rintro (⟨a, h1, h2⟩ | h)
      · exact ⟨a, by omega, h2⟩
      · exact ⟨n, by omega, h⟩
    · rintro ⟨a, h1, h2⟩
      rcases Nat.lt_or_ge a n with w | w
      · exact Or.inl ⟨a, w, h2⟩
      · exact Or.inr (by rw [show n = a by omega]; exact h2)
theorem xan_cg {p q : Nat → Bool} : ∀ n, (∀ a, a < n → p a = q a) → xan p n = xan q n
  | 0, _ => rfl
  | n + 1, h => by rw [xan, xan, xan_cg n (fun a ha => h a (by omega)), h n (by omega)]
def xEu (c : xPx) (who : Nat) (_ L : Nat) : Nat := if xmt9 c who L = true then 1 else 0
def xJu (c : xPx) (ex who m s k : Nat) (v : Nat → Nat) : Nat := if xzA c k = true then (if xan (fun a => decide (v a = if xzq c ex m s k = who then 1 else 0)) c.2.2.2.1.length = true then (if xzq c ex m s k = who then 1 else 0) else 1 - (if xzq c ex m s k = who then 1 else 0)) else v 0
def xVu (c : xPx) (ex who : Nat) : Nat → Nat → Nat → Nat := xV c ex (xEu c who) (xJu c ex who)
theorem xEu_le (c : xPx) (who k L : Nat) : xEu c who k L ≤ 1 := by unfold xEu; split <;> omega
theorem xJu_le {c : xPx} {ex who m s k : Nat} {v : Nat → Nat} (hv : ∀ a, v a ≤ 1) : xJu c ex who m s k v ≤ 1 := by
  unfold xJu
  split
  · split
    · split <;> omega
    · split <;> omega
  · exact hv 0
theorem xVu_le {c : xPx} {ex who : Nat} : ∀ f m s k, xev c ex (xEu c who) (xJu c ex who) f m s k ≤ 1
  | 0, m, s, k => by rw [xev]; omega
  | f + 1, m, s, k => by
    rw [xev]
    refine xJu_le (fun a => ?_)
    show (xen c ex m s k a).elim (xev c ex (xEu c who) (xJu c ex who) f (xn1 c ex m s k a) (xn2 c ex m s k a) (k + 1)) (xEu c who k) ≤ 1
    cases e : xen c ex m s k a with
    | some L => exact xEu_le c who k L
    | none => exact xVu_le f _ _ _
theorem xvu_le {c : xPx} {ex who m s k a : Nat} : xvl c ex (xEu c who) (xVu c ex who) m s k a ≤ 1 := by
  unfold xvl
  cases e : xen c ex m s k a with
  | some L => exact xEu_le c who k L
  | none => exact xVu_le _ _ _ _
theorem su_upd {c : xPx} {who m s k d : Nat} {is ow b1 b2 mt : Bool} {av av2 : Int32} {y8 : Value} {S : xS} {Q : Option Value → xS → Prop} (hav : av + Int32.ofInt 1 = av2) (K : Wp false (d + 6) 11 cX12_sure (some .int) false 110 [.ref 187, .int (nI who), .int (nI (xqt c m s k)), .int (xB is), .int (xB (b1 || mt)), .int (xB (b2 && mt)), .int (xB ow), .int av2, .int (xB mt)] [] S Q) : Wp false (d + 6) 11 cX12_sure (some .int) false 186 [.ref 187, .int (nI who), .int (nI (xqt c m s k)), .int (xB is), .int (xB b1), .int (xB b2), .int (xB ow), .int av, y8] [.int (xB mt)] S Q := by
  cases b1 with
  | false =>
    cases b2 with
    | false =>
      cases mt with
      | false =>
        refine wp_istore dX12_sure_186 ⟨Nat.le_of_ble_eq_true rfl, Or.inr rfl⟩ rfl (wp_iload dX12_sure_188 rfl ?_)
        refine wb_if_ne dX12_sure_190 rfl (fun c190 => absurd c190 (by decide)) (fun c190 => ?_)
        refine wp_iload dX12_sure_193 rfl ?_
        refine wb_if_eq dX12_sure_195 rfl (fun c195 => ?_) (fun c195 => absurd c195 (by decide))
        refine wp_iconst (v := nI 0) dX12_sure_202 rfl (wp_istore dX12_sure_203 ⟨Nat.le_of_ble_eq_true rfl, Or.inr rfl⟩ rfl (wp_iload dX12_sure_205 rfl ?_))
        refine wb_if_eq dX12_sure_207 rfl (fun c207 => ?_) (fun c207 => absurd c207 (by decide))
        exact wp_iconst (v := nI 0) dX12_sure_219 rfl (wp_istore dX12_sure_220 ⟨Nat.le_of_ble_eq_true rfl, Or.inr rfl⟩ rfl (wp_iinc dX12_sure_222 rfl hav ⟨Nat.le_of_ble_eq_true rfl, Or.inr rfl⟩ rfl (wp_goto dX12_sure_225 rfl K)))
      | true =>
        refine wp_istore dX12_sure_186 ⟨Nat.le_of_ble_eq_true rfl, Or.inr rfl⟩ rfl (wp_iload dX12_sure_188 rfl ?_)
        refine wb_if_ne dX12_sure_190 rfl (fun c190 => absurd c190 (by decide)) (fun c190 => ?_)
        refine wp_iload dX12_sure_193 rfl ?_
        refine wb_if_eq dX12_sure_195 rfl (fun c195 => absurd c195 (by decide)) (fun c195 => ?_)
        refine wp_iconst (v := nI 1) dX12_sure_198 rfl (wp_goto dX12_sure_199 rfl (wp_istore dX12_sure_203 ⟨Nat.le_of_ble_eq_true rfl, Or.inr rfl⟩ rfl (wp_iload dX12_sure_205 rfl ?_)))
        refine wb_if_eq dX12_sure_207 rfl (fun c207 => ?_) (fun c207 => absurd c207 (by decide))
        exact wp_iconst (v := nI 0) dX12_sure_219 rfl (wp_istore dX12_sure_220 ⟨Nat.le_of_ble_eq_true rfl, Or.inr rfl⟩ rfl (wp_iinc dX12_sure_222 rfl hav ⟨Nat.le_of_ble_eq_true rfl, Or.inr rfl⟩ rfl (wp_goto dX12_sure_225 rfl K)))
    | true =>
      cases mt with
      | false =>
        refine wp_istore dX12_sure_186 ⟨Nat.le_of_ble_eq_true rfl, Or.inr rfl⟩ rfl (wp_iload dX12_sure_188 rfl ?_)
        refine wb_if_ne dX12_sure_190 rfl (fun c190 => absurd c190 (by decide)) (fun c190 => ?_)
        refine wp_iload dX12_sure_193 rfl ?_
        refine wb_if_eq dX12_sure_195 rfl (fun c195 => ?_) (fun c195 => absurd c195 (by decide))
        refine wp_iconst (v := nI 0) dX12_sure_202 rfl (wp_istore dX12_sure_203 ⟨Nat.le_of_ble_eq_true rfl, Or.inr rfl⟩ rfl (wp_iload dX12_sure_205 rfl ?_))
        refine wb_if_eq dX12_sure_207 rfl (fun c207 => absurd c207 (by decide)) (fun c207 => ?_)
        refine wp_iload dX12_sure_210 rfl ?_
        refine wb_if_eq dX12_sure_212 rfl (fun c212 => ?_) (fun c212 => absurd c212 (by decide))
        exact wp_iconst (v := nI 0) dX12_sure_219 rfl (wp_istore dX12_sure_220 ⟨Nat.le_of_ble_eq_true rfl, Or.inr rfl⟩ rfl (wp_iinc dX12_sure_222 rfl hav ⟨Nat.le_of_ble_eq_true rfl, Or.inr rfl⟩ rfl (wp_goto dX12_sure_225 rfl K)))
      | true =>
        refine wp_istore dX12_sure_186 ⟨Nat.le_of_ble_eq_true rfl, Or.inr rfl⟩ rfl (wp_iload dX12_sure_188 rfl ?_)
        refine wb_if_ne dX12_sure_190 rfl (fun c190 => absurd c190 (by decide)) (fun c190 => ?_)
        refine wp_iload dX12_sure_193 rfl ?_
        refine wb_if_eq dX12_sure_195 rfl (fun c195 => absurd c195 (by decide)) (fun c195 => ?_)
        refine wp_iconst (v := nI 1) dX12_sure_198 rfl (wp_goto dX12_sure_199 rfl (wp_istore dX12_sure_203 ⟨Nat.le_of_ble_eq_true rfl, Or.inr rfl⟩ rfl (wp_iload dX12_sure_205 rfl ?_)))
        refine wb_if_eq dX12_sure_207 rfl (fun c207 => absurd c207 (by decide)) (fun c207 => ?_)
        refine wp_iload dX12_sure_210 rfl ?_
        refine wb_if_eq dX12_sure_212 rfl (fun c212 => absurd c212 (by decide)) (fun c212 => ?_)
        exact wp_iconst (v := nI 1) dX12_sure_215 rfl (wp_goto dX12_sure_216 rfl (wp_istore dX12_sure_220 ⟨Nat.le_of_ble_eq_true rfl, Or.inr rfl⟩ rfl (wp_iinc dX12_sure_222 rfl hav ⟨Nat.le_of_ble_eq_true rfl, Or.inr rfl⟩ rfl (wp_goto dX12_sure_225 rfl K))))
  | true =>
    cases b2 with
    | false =>
      cases mt with
      | false =>
        refine wp_istore dX12_sure_186 ⟨Nat.le_of_ble_eq_true rfl, Or.inr rfl⟩ rfl (wp_iload dX12_sure_188 rfl ?_)
        refine wb_if_ne dX12_sure_190 rfl (fun c190 => ?_) (fun c190 => absurd c190 (by decide))
        refine wp_iconst (v := nI 1) dX12_sure_198 rfl (wp_goto dX12_sure_199 rfl (wp_istore dX12_sure_203 ⟨Nat.le_of_ble_eq_true rfl, Or.inr rfl⟩ rfl (wp_iload dX12_sure_205 rfl ?_)))
        refine wb_if_eq dX12_sure_207 rfl (fun c207 => ?_) (fun c207 => absurd c207 (by decide))
        exact wp_iconst (v := nI 0) dX12_sure_219 rfl (wp_istore dX12_sure_220 ⟨Nat.le_of_ble_eq_true rfl, Or.inr rfl⟩ rfl (wp_iinc dX12_sure_222 rfl hav ⟨Nat.le_of_ble_eq_true rfl, Or.inr rfl⟩ rfl (wp_goto dX12_sure_225 rfl K)))
      | true =>
        refine wp_istore dX12_sure_186 ⟨Nat.le_of_ble_eq_true rfl, Or.inr rfl⟩ rfl (wp_iload dX12_sure_188 rfl ?_)
        refine wb_if_ne dX12_sure_190 rfl (fun c190 => ?_) (fun c190 => absurd c190 (by decide))
        refine wp_iconst (v := nI 1) dX12_sure_198 rfl (wp_goto dX12_sure_199 rfl (wp_istore dX12_sure_203 ⟨Nat.le_of_ble_eq_true rfl, Or.inr rfl⟩ rfl (wp_iload dX12_sure_205 rfl ?_)))
        refine wb_if_eq dX12_sure_207 rfl (fun c207 => ?_) (fun c207 => absurd c207 (by decide))
        exact wp_iconst (v := nI 0) dX12_sure_219 rfl (wp_istore dX12_sure_220 ⟨Nat.le_of_ble_eq_true rfl, Or.inr rfl⟩ rfl (wp_iinc dX12_sure_222 rfl hav ⟨Nat.le_of_ble_eq_true rfl, Or.inr rfl⟩ rfl (wp_goto dX12_sure_225 rfl K)))
    | true =>
      cases mt with
      | false =>
        refine wp_istore dX12_sure_186 ⟨Nat.le_of_ble_eq_true rfl, Or.inr rfl⟩ rfl (wp_iload dX12_sure_188 rfl ?_)
        refine wb_if_ne dX12_sure_190 rfl (fun c190 => ?_) (fun c190 => absurd c190 (by decide))
        refine wp_iconst (v := nI 1) dX12_sure_198 rfl (wp_goto dX12_sure_199 rfl (wp_istore dX12_sure_203 ⟨Nat.le_of_ble_eq_true rfl, Or.inr rfl⟩ rfl (wp_iload dX12_sure_205 rfl ?_)))
        refine wb_if_eq dX12_sure_207 rfl (fun c207 => absurd c207 (by decide)) (fun c207 => ?_)
        refine wp_iload dX12_sure_210 rfl ?_
        refine wb_if_eq dX12_sure_212 rfl (fun c212 => ?_) (fun c212 => absurd c212 (by decide))
        exact wp_iconst (v := nI 0) dX12_sure_219 rfl (wp_istore dX12_sure_220 ⟨Nat.le_of_ble_eq_true rfl, Or.inr rfl⟩ rfl (wp_iinc dX12_sure_222 rfl hav ⟨Nat.le_of_ble_eq_true rfl, Or.inr rfl⟩ rfl (wp_goto dX12_sure_225 rfl K)))
      | true =>
        refine wp_istore dX12_sure_186 ⟨Nat.le_of_ble_eq_true rfl, Or.inr rfl⟩ rfl (wp_iload dX12_sure_188 rfl ?_)
        refine wb_if_ne dX12_sure_190 rfl (fun c190 => ?_) (fun c190 => absurd c190 (by decide))
        refine wp_iconst (v := nI 1) dX12_sure_198 rfl (wp_goto dX12_sure_199 rfl (wp_istore dX12_sure_203 ⟨Nat.le_of_ble_eq_true rfl, Or.inr rfl⟩ rfl (wp_iload dX12_sure_205 rfl ?_)))
        refine wb_if_eq dX12_sure_207 rfl (fun c207 => absurd c207 (by decide)) (fun c207 => ?_)
        refine wp_iload dX12_sure_210 rfl ?_
        refine wb_if_eq dX12_sure_212 rfl (fun c212 => absurd c212 (by decide)) (fun c212 => ?_)
        exact wp_iconst (v := nI 1) dX12_sure_215 rfl (wp_goto dX12_sure_216 rfl (wp_istore dX12_sure_220 ⟨Nat.le_of_ble_eq_true rfl, Or.inr rfl⟩ rfl (wp_iinc dX12_sure_222 rfl hav ⟨Nat.le_of_ble_eq_true rfl, Or.inr rfl⟩ rfl (wp_goto dX12_sure_225 rfl K))))
theorem su_body {c : xPx} {who m s k a d : Nat} {is : Bool} {av : Int32} {x4 x5 x6 y8 : Value} (ho : xzo c) (ha : xzal c = true) (h8 : xgH (xzg c) ≤ 8) (hwho : who < 12) (hg : xgd c m s k) (hav : (xzA c k = true ∧ av = nI a ∧ a < c.2.2.2.1.length) ∨ (xzA c k = false ∧ av = -1)) {S : xS} (hW : xWk S c 0 m s k) (hs : xen c 0 m s k a = none → S.2.1 221 (xqt c (xn1 c 0 m s k a) (xn2 c 0 m s k a) (k + 1)) = nI (xVu c 0 who (xn1 c 0 m s k a) (xn2 c 0 m s k a) (k + 1))) {Q : Option Value → xS → Prop} (K : ∀ S', xFl (fun i q => i = 187 ∧ 64 ≤ q ∧ q ≤ 69) S S' → xWk S' c 0 m s k → Wp false (d + 6) 11 cX12_sure (some .int) false 186 [.ref 187, .int (nI who), .int (nI (xqt c m s k)), .int (xB is), x4, x5, x6, .int av, y8] [.int (xB (decide ((xvl c 0 (xEu c who) (xVu c 0 who) m s k a) = 1)))] S' Q) : Wp false (d + 6) 11 cX12_sure (some .int) false 127 [.ref 187, .int (nI who), .int (nI (xqt c m s k)), .int (xB is), x4, x5, x6, .int av, y8] [] S Q := by
  have hX := hW.1
  have hP : xgP (xzg c) ≤ 12 := ho.g.2.1
  have p12 : 2 ^ xgP (xzg c) ≤ 2 ^ 12 := Nat.pow_le_pow_right (by decide) hP
  obtain ⟨S1, gf, f1, k64, out⟩ := m_finishState (a := a) (d + 2) ho ha h8 (by decide) hg hW hav
  have X1 := f1.XC hX
  have W1 := hW.fr ho f1 (fun i q h => by omega)
  have nx := K S1 f1 W1
  rcases out with ⟨L, e1, k65, hL⟩ | ⟨e1, k65, k66, k67, k68, k69, hn⟩
  · have gm := m_isMet (p := who) (L := L) (d + 5) ho X1 W1.2.1.2.2.2.2.2.2.2.1.2 (by omega) (by omega)
    rw [show decide ((xvl c 0 (xEu c who) (xVu c 0 who) m s k a) = 1) = xmt9 c who L by unfold xvl; rw [e1]; show decide (xEu c who k L = 1) = _; unfold xEu; cases xmt9 c who L <;> rfl] at nx
    refine wp_aload_n dX12_sure_127 rfl rfl (wp_iload_n dX12_sure_128 rfl (wp_iload dX12_sure_129 rfl (wp_iv3 dX12_sure_131 k11_494 q_X12_finishState (by decide) (xsh hX sh_187) (by decide) (Nat.le_of_ble_eq_true rfl) gf (wp_aload_n dX12_sure_134 rfl rfl (gv11_427 dX12_sure_135 (xsh X1 sh_187) k65 ?_)))))
    refine wn_if_lt dX12_sure_138 rfl (by omega) ?_
    exact wp_aload_n dX12_sure_141 rfl rfl (wp_iload_n dX12_sure_142 rfl (wp_aload_n dX12_sure_143 rfl rfl (gv11_427 dX12_sure_144 (xsh X1 sh_187) k65 (wp_iv3 dX12_sure_147 k11_500 q_X12_isMet (by decide) (xsh X1 sh_187) (by decide) (Nat.le_of_ble_eq_true rfl) gm (wp_goto dX12_sure_150 rfl nx)))))
  · have gs := m_stateOf (m := xn1 c 0 m s k a) (s := xn2 c 0 m s k a) (r := (k + 1) % c.1.2.length) (b := xbk (xzg c) (k + 1)) (d + 5) (S := S1)
    have hlt := (hn.b ho h8).2.2.2.1
    have hlt : xsT (xn1 c 0 m s k a) (xn2 c 0 m s k a) (xbk (xzg c) (k + 1)) ((k + 1) % c.1.2.length) < 16384 := hlt
    have v := f1.i (hs e1) (by omega)
    have eV : (xvl c 0 (xEu c who) (xVu c 0 who) m s k a) = (xVu c 0 who (xn1 c 0 m s k a) (xn2 c 0 m s k a) (k + 1)) := by unfold xvl; rw [e1]; rfl
    have le : (xVu c 0 who (xn1 c 0 m s k a) (xn2 c 0 m s k a) (k + 1)) ≤ 1 := xVu_le _ _ _ _
    rcases Decidable.em ((xVu c 0 who (xn1 c 0 m s k a) (xn2 c 0 m s k a) (k + 1)) = 1) with w | w
    · rw [eV, decide_eq_true w] at nx
      refine wp_aload_n dX12_sure_127 rfl rfl (wp_iload_n dX12_sure_128 rfl (wp_iload dX12_sure_129 rfl (wp_iv3 dX12_sure_131 k11_494 q_X12_finishState (by decide) (xsh hX sh_187) (by decide) (Nat.le_of_ble_eq_true rfl) gf (wp_aload_n dX12_sure_134 rfl rfl (gv11_427 dX12_sure_135 (xsh X1 sh_187) k65 ?_)))))
      refine wp_if_lt dX12_sure_138 rfl (fun c138 => ?_) (fun c138 => absurd c138 (not_not_intro (by decide)))
      refine wp_aload_n dX12_sure_153 rfl rfl (g11_358 dX12_sure_154 (xsh X1 sh_187) (xrr X1 r187_74) (wp_aload_n dX12_sure_157 rfl rfl (gv11_430 dX12_sure_158 (xsh X1 sh_187) k66 (wp_aload_n dX12_sure_161 rfl rfl (gv11_445 dX12_sure_162 (xsh X1 sh_187) k67 (wp_aload_n dX12_sure_165 rfl rfl (gv11_433 dX12_sure_166 (xsh X1 sh_187) k68 (wp_aload_n dX12_sure_169 rfl rfl (gv11_436 dX12_sure_170 (xsh X1 sh_187) k69 (wp_is4 dX12_sure_173 k11_481 q_X12_stateOf (by decide) (Nat.le_of_ble_eq_true rfl) gs (wn_iaload dX12_sure_176 (xsh X1 sh_221) rfl (by omega) (by decide) v (wp_iconst (v := nI 1) dX12_sure_177 rfl ?_))))))))))))
      refine wn_icmp_ne dX12_sure_178 rfl (by omega) (by omega) (fun c178 => absurd c178 (by omega)) (fun c178 => ?_)
      exact wp_iconst (v := nI 1) dX12_sure_181 rfl (wp_goto dX12_sure_182 rfl nx)
    · rw [eV, decide_eq_false w] at nx
      refine wp_aload_n dX12_sure_127 rfl rfl (wp_iload_n dX12_sure_128 rfl (wp_iload dX12_sure_129 rfl (wp_iv3 dX12_sure_131 k11_494 q_X12_finishState (by decide) (xsh hX sh_187) (by decide) (Nat.le_of_ble_eq_true rfl) gf (wp_aload_n dX12_sure_134 rfl rfl (gv11_427 dX12_sure_135 (xsh X1 sh_187) k65 ?_)))))
      refine wp_if_lt dX12_sure_138 rfl (fun c138 => ?_) (fun c138 => absurd c138 (not_not_intro (by decide)))
      refine wp_aload_n dX12_sure_153 rfl rfl (g11_358 dX12_sure_154 (xsh X1 sh_187) (xrr X1 r187_74) (wp_aload_n dX12_sure_157 rfl rfl (gv11_430 dX12_sure_158 (xsh X1 sh_187) k66 (wp_aload_n dX12_sure_161 rfl rfl (gv11_445 dX12_sure_162 (xsh X1 sh_187) k67 (wp_aload_n dX12_sure_165 rfl rfl (gv11_433 dX12_sure_166 (xsh X1 sh_187) k68 (wp_aload_n dX12_sure_169 rfl rfl (gv11_436 dX12_sure_170 (xsh X1 sh_187) k69 (wp_is4 dX12_sure_173 k11_481 q_X12_stateOf (by decide) (Nat.le_of_ble_eq_true rfl) gs (wn_iaload dX12_sure_176 (xsh X1 sh_221) rfl (by omega) (by decide) v (wp_iconst (v := nI 1) dX12_sure_177 rfl ?_))))))))))))
      refine wn_icmp_ne dX12_sure_178 rfl (by omega) (by omega) (fun c178 => ?_) (fun c178 => absurd c178 (by omega))
      exact wp_iconst (v := nI 0) dX12_sure_185 rfl nx
theorem su_in {c : xPx} {who m s k d : Nat} {ow : Bool} (ho : xzo c) (ha : xzal c = true) (h8 : xgH (xzg c) ≤ 8) (hwho : who < 12) (hg : xgd c m s k) (hask : xzA c k = true) {Q : Option Value → xS → Prop} : ∀ (j a : Nat) (S : xS) (y8 : Value), a + j = c.2.2.2.1.length → xWk S c 0 m s k → (∀ b, b < c.2.2.2.1.length → xen c 0 m s k b = none → S.2.1 221 (xqt c (xn1 c 0 m s k b) (xn2 c 0 m s k b) (k + 1)) = nI (xVu c 0 who (xn1 c 0 m s k b) (xn2 c 0 m s k b) (k + 1))) → (∀ S' y7 y8, xFl (fun i q => i = 187 ∧ 64 ≤ q ∧ q ≤ 69) S S' → xWk S' c 0 m s k → Wp false (d + 6) 11 cX12_sure (some .int) false 228 [.ref 187, .int (nI who), .int (nI (xqt c m s k)), .int (xB true), .int (xB (xan (fun a => decide ((xvl c 0 (xEu c who) (xVu c 0 who) m s k a) = 1)) c.2.2.2.1.length)), .int (xB (!(xan (fun a => decide ((xvl c 0 (xEu c who) (xVu c 0 who) m s k a) = 0)) c.2.2.2.1.length))), .int (xB ow), y7, y8] [] S' Q) → Wp false (d + 6) 11 cX12_sure (some .int) false 110 [.ref 187, .int (nI who), .int (nI (xqt c m s k)), .int (xB true), .int (xB (xan (fun a => decide ((xvl c 0 (xEu c who) (xVu c 0 who) m s k a) = 1)) a)), .int (xB (!(xan (fun a => decide ((xvl c 0 (xEu c who) (xVu c 0 who) m s k a) = 0)) a))), .int (xB ow), .int (nI a), y8] [] S Q := by
  have hac := ho.2.2.1
  intro j
  induction j with
  | zero =>
    intro a S y8 haj hW hs K
    have haa : a = c.2.2.2.1.length := by omega
    subst haa
    have hX := hW.1
    have k31 := hW.2.1.2.2.2.2.2.2.2.2.2.1
    have nx := K S (.int (nI c.2.2.2.1.length)) y8 (xFl.rf S) hW
    refine wp_iload dX12_sure_110 rfl (wp_iload_n dX12_sure_112 rfl ?_)
    refine wb_if_eq dX12_sure_113 rfl (fun c113 => absurd c113 (by decide)) (fun c113 => ?_)
    refine wp_aload_n dX12_sure_116 rfl rfl (gv11_189 dX12_sure_117 (xsh hX sh_187) k31 (wp_goto dX12_sure_120 rfl ?_))
    refine wn_icmp_ge dX12_sure_124 rfl (by omega) (by omega) (fun c124 => ?_) (fun c124 => absurd c124 (by omega))
    exact nx
  | succ j ih =>
    intro a S y8 haj hW hs K
    have hX := hW.1
    have k31 := hW.2.1.2.2.2.2.2.2.2.2.2.1
    have le : (xvl c 0 (xEu c who) (xVu c 0 who) m s k a) ≤ 1 := xvu_le
    have e1 : ((xan (fun a => decide ((xvl c 0 (xEu c who) (xVu c 0 who) m s k a) = 1)) a) || decide ((xvl c 0 (xEu c who) (xVu c 0 who) m s k a) = 1)) = (xan (fun a => decide ((xvl c 0 (xEu c who) (xVu c 0 who) m s k a) = 1)) (a + 1)) := rfl
    have e0 : (!(xan (fun a => decide ((xvl c 0 (xEu c who) (xVu c 0 who) m s k a) = 0)) a) && decide ((xvl c 0 (xEu c who) (xVu c 0 who) m s k a) = 1)) = !(xan (fun a => decide ((xvl c 0 (xEu c who) (xVu c 0 who) m s k a) = 0)) (a + 1)) := by
      rw [xan]
      cases (xan (fun a => decide ((xvl c 0 (xEu c who) (xVu c 0 who) m s k a) = 0)) a) with
      | true => rfl
      | false =>
        rcases Decidable.em ((xvl c 0 (xEu c who) (xVu c 0 who) m s k a) = 1) with w | w
        · rw [decide_eq_true w, decide_eq_false (show ¬ (xvl c 0 (xEu c who) (xVu c 0 who) m s k a) = 0 by omega)]; rfl
        · rw [decide_eq_false w, decide_eq_true (show (xvl c 0 (xEu c who) (xVu c 0 who) m s k a) = 0 by omega)]; rfl
    have nx := su_body (d := d) (a := a) (is := true) (x4 := .int (xB (xan (fun a => decide ((xvl c 0 (xEu c who) (xVu c 0 who) m s k a) = 1)) a))) (x5 := .int (xB (!(xan (fun a => decide ((xvl c 0 (xEu c who) (xVu c 0 who) m s k a) = 0)) a)))) (x6 := .int (xB ow)) (y8 := y8) ho ha h8 hwho hg (Or.inl ⟨hask, rfl, by omega⟩) hW (hs a (by omega)) (Q := Q) (fun S1 f1 W1 => by
      refine su_upd (av2 := nI (a + 1)) (nI_1 _) ?_
      rw [e1, e0]
      exact ih (a + 1) S1 _ (by omega) W1 (fun b hb e => f1.i (hs b hb e) (by omega)) (fun S2 y7 y8 f2 W2 => K S2 y7 y8 (f1.tt f2) W2))
    refine wp_iload dX12_sure_110 rfl (wp_iload_n dX12_sure_112 rfl ?_)
    refine wb_if_eq dX12_sure_113 rfl (fun c113 => absurd c113 (by decide)) (fun c113 => ?_)
    refine wp_aload_n dX12_sure_116 rfl rfl (gv11_189 dX12_sure_117 (xsh hX sh_187) k31 (wp_goto dX12_sure_120 rfl ?_))
    refine wn_icmp_ge dX12_sure_124 rfl (by omega) (by omega) (fun c124 => absurd c124 (by omega)) (fun c124 => ?_)
    exact nx
theorem su_wr {c : xPx} {who m s k d : Nat} {is b1 b2 ow : Bool} {y7 y8 : Value} (h8 : xqt c m s k < 16384) {S : xS} (hX : XC S) {Q : Option Value → xS → Prop} (K : Wp false (d + 6) 11 cX12_sure (some .int) false 257 [.ref 187, .int (nI who), .int (nI (xqt c m s k)), .int (xB is), .int (xB b1), .int (xB b2), .int (xB ow), y7, y8] [] (xSI S 221 (xqt c m s k) (nI (if ow = true then (if b1 = true then 1 else 0) else (if b2 = true then 1 else 0)))) Q) : Wp false (d + 6) 11 cX12_sure (some .int) false 228 [.ref 187, .int (nI who), .int (nI (xqt c m s k)), .int (xB is), .int (xB b1), .int (xB b2), .int (xB ow), y7, y8] [] S Q := by
  cases ow with
  | true =>
    cases b1 with
    | true =>
      refine wp_aload_n dX12_sure_228 rfl rfl (g11_358 dX12_sure_229 (xsh hX sh_187) (xrr hX r187_74) (wp_iload_n dX12_sure_232 rfl (wp_iload dX12_sure_233 rfl ?_)))
      refine wb_if_eq dX12_sure_235 rfl (fun c235 => absurd c235 (by decide)) (fun c235 => ?_)
      refine wp_iload dX12_sure_238 rfl ?_
      refine wb_if_eq dX12_sure_240 rfl (fun c240 => absurd c240 (by decide)) (fun c240 => ?_)
      exact wp_goto dX12_sure_243 rfl (wp_iconst (v := nI 1) dX12_sure_251 rfl (wp_goto dX12_sure_252 rfl (wn_iastore dX12_sure_256 (xsh hX sh_221) rfl (by omega) (by decide) K)))
    | false =>
      refine wp_aload_n dX12_sure_228 rfl rfl (g11_358 dX12_sure_229 (xsh hX sh_187) (xrr hX r187_74) (wp_iload_n dX12_sure_232 rfl (wp_iload dX12_sure_233 rfl ?_)))
      refine wb_if_eq dX12_sure_235 rfl (fun c235 => absurd c235 (by decide)) (fun c235 => ?_)
      refine wp_iload dX12_sure_238 rfl ?_
      refine wb_if_eq dX12_sure_240 rfl (fun c240 => ?_) (fun c240 => absurd c240 (by decide))
      exact wp_iconst (v := nI 0) dX12_sure_255 rfl (wn_iastore dX12_sure_256 (xsh hX sh_221) rfl (by omega) (by decide) K)
  | false =>
    cases b2 with
    | true =>
      refine wp_aload_n dX12_sure_228 rfl rfl (g11_358 dX12_sure_229 (xsh hX sh_187) (xrr hX r187_74) (wp_iload_n dX12_sure_232 rfl (wp_iload dX12_sure_233 rfl ?_)))
      refine wb_if_eq dX12_sure_235 rfl (fun c235 => ?_) (fun c235 => absurd c235 (by decide))
      refine wp_iload dX12_sure_246 rfl ?_
      refine wb_if_eq dX12_sure_248 rfl (fun c248 => absurd c248 (by decide)) (fun c248 => ?_)
      exact wp_iconst (v := nI 1) dX12_sure_251 rfl (wp_goto dX12_sure_252 rfl (wn_iastore dX12_sure_256 (xsh hX sh_221) rfl (by omega) (by decide) K))
    | false =>
      refine wp_aload_n dX12_sure_228 rfl rfl (g11_358 dX12_sure_229 (xsh hX sh_187) (xrr hX r187_74) (wp_iload_n dX12_sure_232 rfl (wp_iload dX12_sure_233 rfl ?_)))
      refine wb_if_eq dX12_sure_235 rfl (fun c235 => ?_) (fun c235 => absurd c235 (by decide))
      refine wp_iload dX12_sure_246 rfl ?_
      refine wb_if_eq dX12_sure_248 rfl (fun c248 => ?_) (fun c248 => absurd c248 (by decide))
      exact wp_iconst (v := nI 0) dX12_sure_255 rfl (wn_iastore dX12_sure_256 (xsh hX sh_221) rfl (by omega) (by decide) K)
