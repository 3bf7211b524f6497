/-! records: up to which one they HOLD; holdsTo of the reference -/
/-- to which states the first i of a record lead -/
def xrch (c : xPx) (t : Nat → Nat) : Nat → Nat → Nat → Prop
  | 0, m, s => m = 2 ^ xgH (xzg c) - 1 ∧ s = 0
  | i + 1, m', s' => ∃ m s a, xrch c t i m s ∧ a < xzw c i ∧ xow (xgf (xzg c)) (xzh c 0 m s i a) = t i ∧ xen c 0 m s i a = none ∧ m' = xn1 c 0 m s i a ∧ s' = xn2 c 0 m s i a
theorem xrch_gd {c : xPx} {t : Nat → Nat} (ho : xzo c) : ∀ i m s, xrch c t i m s → xgd c m s i
  | 0, m, s, h => by obtain ⟨rfl, rfl⟩ := h; exact xgd_0 ho
  | i + 1, m', s', h => by
    obtain ⟨m, s, a, h1, _, _, he, rfl, rfl⟩ := h
    exact (xrch_gd ho i m s h1).nx ho he
def xmtc (c : xPx) (t : Nat → Nat) (i : Nat) : Prop := ∃ m s a, xrch c t i m s ∧ a < xzw c i ∧ xow (xgf (xzg c)) (xzh c 0 m s i a) = t i
/-- up to which one n of a record HOLD -/
def xHT (c : xPx) (t : Nat → Nat) (n r : Nat) : Prop := (xovr (xzg c) (2 ^ xgH (xzg c) - 1) = true ∧ r = 0) ∨ (xovr (xzg c) (2 ^ xgH (xzg c) - 1) = false ∧ r ≤ n ∧ (∀ i, i < r → xmtc c t i) ∧ (r < n → ¬ xmtc c t r))
theorem xHT_u {c : xPx} {t : Nat → Nat} {n r r' : Nat} (h : xHT c t n r) (h' : xHT c t n r') : r = r' := by
  rcases h with ⟨e, rfl⟩ | ⟨e, h1, h2, h3⟩
  · rcases h' with ⟨_, rfl⟩ | ⟨e', _⟩
    · rfl
    · rw [e] at e'; cases e'
  · rcases h' with ⟨e', _⟩ | ⟨_, k1, k2, k3⟩
    · rw [e] at e'; cases e'
    · rcases Nat.lt_trichotomy r r' with w | w | w
      · exact absurd (k2 r w) (h3 (by omega))
      · exact w
      · exact absurd (h2 r' w) (k3 (by omega))
def xTl (c : xPx) (t : Nat → Nat) (i x a0 : Nat) (m s a : Nat) : Prop := xrch c t i m s ∧ a < xzw c i ∧ xow (xgf (xzg c)) (xzh c 0 m s i a) = t i ∧ (xqt c m s i < x ∨ (xqt c m s i = x ∧ a < a0))
def xTT (S : xS) (b : Bool) (c : xPx) (i : Nat) (T : Nat → Nat → Nat → Prop) : Prop := (b = true ↔ ∃ m s a, T m s a) ∧ ∃ D, xCm S 229 D ∧ ∀ y, D y = true ↔ ∃ m s a, T m s a ∧ xen c 0 m s i a = none ∧ y = xqt c (xn1 c 0 m s i a) (xn2 c 0 m s i a) (i + 1)
theorem xTT.fr {S S' : xS} {b : Bool} {c : xPx} {i : Nat} {T : Nat → Nat → Nat → Prop} {P : Nat → Nat → Prop} (h : xTT S b c i T) (hf : xFl P S S') (hn : ∀ x, ¬ P 229 x) : xTT S' b c i T := by
  obtain ⟨h1, D, h2, h3⟩ := h
  exact ⟨h1, D, h2.fr hf hn, h3⟩
theorem xTT.cg {S : xS} {b : Bool} {c : xPx} {i : Nat} {T T' : Nat → Nat → Nat → Prop} (h : xTT S b c i T) (e : ∀ m s a, T m s a ↔ T' m s a) : xTT S b c i T' := by
  have e' : T = T' := by funext m s a; exact propext (e m s a)
  rw [← e']; exact h
theorem xTl_no {c : xPx} {t : Nat → Nat} {i x a0 : Nat} {m0 s0 : Nat} (ho : xzo c) (h8 : xgH (xzg c) ≤ 8) (hx : x = xqt c m0 s0 i) (hg : xgd c m0 s0 i) (hne : ¬ xow (xgf (xzg c)) (xzh c 0 m0 s0 i a0) = t i) (m s a : Nat) : xTl c t i x a0 m s a ↔ xTl c t i x (a0 + 1) m s a := by
  unfold xTl
  constructor
  · rintro ⟨h1, h2, h3, h4⟩
    exact ⟨h1, h2, h3, h4.imp id (fun h => ⟨h.1, by omega⟩)⟩
  · rintro ⟨h1, h2, h3, h4⟩
    refine ⟨h1, h2, h3, h4.imp id (fun h => ⟨h.1, ?_⟩)⟩
    rcases Decidable.em (a = a0) with w | w
    · subst w
      obtain ⟨rfl, rfl, _⟩ := xqt_inj ho h8 (xrch_gd ho i m s h1) hg (h.1.trans hx)
      exact absurd h3 hne
    · omega
theorem xTl_yes {c : xPx} {t : Nat → Nat} {i x a0 : Nat} {m0 s0 : Nat} (ho : xzo c) (h8 : xgH (xzg c) ≤ 8) (hx : x = xqt c m0 s0 i) (hr : xrch c t i m0 s0) (ha : a0 < xzw c i) (he : xow (xgf (xzg c)) (xzh c 0 m0 s0 i a0) = t i) (m s a : Nat) : (xTl c t i x a0 m s a ∨ (m = m0 ∧ s = s0 ∧ a = a0)) ↔ xTl c t i x (a0 + 1) m s a := by
  unfold xTl
  constructor
  · rintro (⟨h1, h2, h3, h4⟩ | ⟨rfl, rfl, rfl⟩)
    · exact ⟨h1, h2, h3, h4.imp id (fun h => ⟨h.1, by omega⟩)⟩
    · exact ⟨hr, ha, he, Or.inr ⟨hx.symm, by omega⟩⟩
  · rintro ⟨h1, h2, h3, h4⟩
    rcases h4 with h4 | ⟨h4, h5⟩
    · exact Or.inl ⟨h1, h2, h3, Or.inl h4⟩
    · rcases Decidable.em (a = a0) with w | w
      · obtain ⟨e1, e2, _⟩ := xqt_inj ho h8 (xrch_gd ho i m s h1) (xrch_gd ho i m0 s0 hr) (h4.trans hx)
        exact Or.inr ⟨e1, e2, w⟩
      · exact Or.inl ⟨h1, h2, h3, Or.inr ⟨h4, by omega⟩⟩
theorem xTl_end {c : xPx} {t : Nat → Nat} {i x : Nat} (m s a : Nat) : xTl c t i x (xzw c i) m s a ↔ xTl c t i (x + 1) 0 m s a := by
  unfold xTl
  constructor
  · rintro ⟨h1, h2, h3, h4⟩
    exact ⟨h1, h2, h3, Or.inl (by omega)⟩
  · rintro ⟨h1, h2, h3, h4⟩
    exact ⟨h1, h2, h3, by omega⟩
theorem xTl_skip {c : xPx} {t : Nat → Nat} {i x : Nat} (h : ∀ m s, xrch c t i m s → xqt c m s i ≠ x) (m s a : Nat) : xTl c t i x 0 m s a ↔ xTl c t i (x + 1) 0 m s a := by
  unfold xTl
  constructor
  · rintro ⟨h1, h2, h3, h4⟩
    exact ⟨h1, h2, h3, Or.inl (by omega)⟩
  · rintro ⟨h1, h2, h3, h4⟩
    have := h m s h1
    exact ⟨h1, h2, h3, by omega⟩
theorem xTT.end_ {S : xS} {b : Bool} {c : xPx} {i : Nat} {T : Nat → Nat → Nat → Prop} {m s a L : Nat} (h : xTT S b c i T) (he : xen c 0 m s i a = some L) : xTT S true c i (fun m' s' a' => T m' s' a' ∨ (m' = m ∧ s' = s ∧ a' = a)) := by
  obtain ⟨h1, D, h2, h3⟩ := h
  refine ⟨⟨fun _ => ⟨m, s, a, Or.inr ⟨rfl, rfl, rfl⟩⟩, fun _ => rfl⟩, D, h2, fun y => ?_⟩
  rw [h3]
  constructor
  · rintro ⟨m', s', a', q1, q2⟩
    exact ⟨m', s', a', Or.inl q1, q2⟩
  · rintro ⟨m', s', a', q1 | ⟨rfl, rfl, rfl⟩, q2, q3⟩
    · exact ⟨m', s', a', q1, q2, q3⟩
    · rw [he] at q2; cases q2
theorem xTT.go_ {S : xS} {b : Bool} {c : xPx} {i : Nat} {T : Nat → Nat → Nat → Prop} {m s a : Nat} (h : xTT S b c i T) (he : xen c 0 m s i a = none) : xTT (xSI S 229 (xqt c (xn1 c 0 m s i a) (xn2 c 0 m s i a) (i + 1)) (xB true)) true c i (fun m' s' a' => T m' s' a' ∨ (m' = m ∧ s' = s ∧ a' = a)) := by
  obtain ⟨h1, D, h2, h3⟩ := h
  refine ⟨⟨fun _ => ⟨m, s, a, Or.inr ⟨rfl, rfl, rfl⟩⟩, fun _ => rfl⟩, _, h2.set, fun y => ?_⟩
  show (D y || decide _) = true ↔ _
  rw [Bool.or_eq_true, h3, decide_eq_true_eq]
  constructor
  · rintro (⟨m', s', a', q1, q2⟩ | q)
    · exact ⟨m', s', a', Or.inl q1, q2⟩
    · exact ⟨m, s, a, Or.inr ⟨rfl, rfl, rfl⟩, he, q⟩
  · rintro ⟨m', s', a', q1 | ⟨rfl, rfl, rfl⟩, q2, q3⟩
    · exact Or.inl ⟨m', s', a', q1, q2, q3⟩
    · exact Or.inr q3
theorem hd_body {c : xPx} {t : Nat → Nat} {m s i a n d : Nat} {b : Bool} {i4 av : Int32} (ho : xzo c) (ha : xzal c = true) (h8 : xgH (xzg c) ≤ 8) (hi : i < n) (hr : xrch c t i m s) (hw : a < xzw c i) (hav : (xzA c i = true ∧ av = nI a ∧ a < c.2.2.2.1.length) ∨ (xzA c i = false ∧ av = -1)) {S : xS} (hW : xWk S c 0 m s i) (hT : xTn S n t (xgP (xzg c))) (hTT : xTT S b c i (xTl c t i (xqt c m s i) a)) {Q : Option Value → xS → Prop} (K : ∀ S' b', xFl (fun i q => (i = 187 ∧ 64 ≤ q ∧ q ≤ 69) ∨ i = 229) S S' → xWk S' c 0 m s i → xTT S' b' c i (xTl c t i (xqt c m s i) (a + 1)) → Wp false (d + 4) 11 cX12_holdsTo (some .int) false 195 [.ref 187, .int (nI i), .int (xB b'), .int (nI (xqt c m s i)), .int i4, .int av] [] S' Q) : Wp false (d + 4) 11 cX12_holdsTo (some .int) false 134 [.ref 187, .int (nI i), .int (xB b), .int (nI (xqt c m s i)), .int i4, .int av] [] S Q := by
  have hX := hW.1
  have hg := xrch_gd ho i m s hr
  have hP : xgP (xzg c) ≤ 12 := ho.g.2.1
  have p12 : 2 ^ xgP (xzg c) ≤ 2 ^ 12 := Nat.pow_le_pow_right (by decide) hP
  obtain ⟨S1, gf, f1, k64, out⟩ := m_finishState (a := a) (d + 0) ho ha h8 (by decide) hg hW hav
  have X1 := f1.XC hX
  have W1 := hW.fr ho f1 (fun i q h => by omega)
  have T1 := hT.fr f1 (fun i q h => by omega)
  have hh : xzh c 0 m s i a < xgH (xzg c) := xzh_lt 0 m i a hg.2.2.1
  have hown := xow_lt hh
  have gp := m_personOf (h := xzh c 0 m s i a) (d + 3) ho (by omega) X1 (W1.2.1.2.2.2.2.2.2.2.1.1 1 (by decide))
  have TT1 := hTT.fr f1 (fun x h => by omega)
  obtain ⟨t1, t2⟩ := T1.2.2 i hi
  have h260 := T1.1
  have F1 : xFl (fun i q => (i = 187 ∧ 64 ≤ q ∧ q ≤ 69) ∨ i = 229) S S1 := f1.mono (fun i q h => Or.inl h)
  rcases Decidable.em (xow (xgf (xzg c)) (xzh c 0 m s i a) = t i) with w | w
  · rcases out with ⟨L, e1, k65, hL⟩ | ⟨e1, k65, k66, k67, k68, k69, hn⟩
    · have nx := K S1 true F1 W1 ((TT1.end_ e1).cg (xTl_yes ho h8 rfl hr hw w))
      refine wp_aload_n dX12_holdsTo_134 rfl rfl (wp_iload_n dX12_holdsTo_135 rfl (wp_iload dX12_holdsTo_136 rfl (wp_iv3 dX12_holdsTo_138 k11_494 q_X12_finishState (by decide) (xsh hX sh_187) (by decide) (Nat.le_of_ble_eq_true rfl) gf (wp_aload_n dX12_holdsTo_141 rfl rfl (wp_aload_n dX12_holdsTo_142 rfl rfl (gv11_424 dX12_holdsTo_143 (xsh X1 sh_187) k64 (wp_iv2 dX12_holdsTo_146 k11_418 q_X12_personOf (by decide) (xsh X1 sh_187) (by decide) (Nat.le_of_ble_eq_true rfl) gp (wp_aload_n dX12_holdsTo_149 rfl rfl (g11_14 dX12_holdsTo_150 (xsh X1 sh_187) (xrr X1 r187_1) (wp_iload_n dX12_holdsTo_153 rfl (wn_baload dX12_holdsTo_154 (xsh X1 sh_188) (Or.inl rfl) (by omega) (by decide) t2 ?_)))))))))))
      refine wn_icmp_eq dX12_holdsTo_155 rfl (by omega) (by omega) (fun c155 => ?_) (fun c155 => absurd c155 (by omega))
      refine wp_iconst (v := nI 1) dX12_holdsTo_161 rfl (wp_istore_n dX12_holdsTo_162 ⟨Nat.le_of_ble_eq_true rfl, Or.inr rfl⟩ rfl (wp_aload_n dX12_holdsTo_163 rfl rfl (gv11_427 dX12_holdsTo_164 (xsh X1 sh_187) k65 ?_)))
      refine wn_if_ge dX12_holdsTo_167 rfl (by omega) ?_
      exact nx
    · have gs := m_stateOf (m := xn1 c 0 m s i a) (s := xn2 c 0 m s i a) (r := (i + 1) % c.1.2.length) (b := xbk (xzg c) (i + 1)) (d + 3) (S := S1)
      have hlt := (hn.b ho h8).2.2.2.1
      have hlt : xsT (xn1 c 0 m s i a) (xn2 c 0 m s i a) (xbk (xzg c) (i + 1)) ((i + 1) % c.1.2.length) < 16384 := hlt
      have F2 : xFl (fun i q => (i = 187 ∧ 64 ≤ q ∧ q ≤ 69) ∨ i = 229) S1 (xSI S1 229 (xqt c (xn1 c 0 m s i a) (xn2 c 0 m s i a) (i + 1)) (xB true)) := (xFl.rf S1).SI (Or.inr rfl)
      have nx := K _ true (F1.tt F2) (W1.fr ho F2 (fun i q h => by omega)) ((TT1.go_ e1).cg (xTl_yes ho h8 rfl hr hw w))
      refine wp_aload_n dX12_holdsTo_134 rfl rfl (wp_iload_n dX12_holdsTo_135 rfl (wp_iload dX12_holdsTo_136 rfl (wp_iv3 dX12_holdsTo_138 k11_494 q_X12_finishState (by decide) (xsh hX sh_187) (by decide) (Nat.le_of_ble_eq_true rfl) gf (wp_aload_n dX12_holdsTo_141 rfl rfl (wp_aload_n dX12_holdsTo_142 rfl rfl (gv11_424 dX12_holdsTo_143 (xsh X1 sh_187) k64 (wp_iv2 dX12_holdsTo_146 k11_418 q_X12_personOf (by decide) (xsh X1 sh_187) (by decide) (Nat.le_of_ble_eq_true rfl) gp (wp_aload_n dX12_holdsTo_149 rfl rfl (g11_14 dX12_holdsTo_150 (xsh X1 sh_187) (xrr X1 r187_1) (wp_iload_n dX12_holdsTo_153 rfl (wn_baload dX12_holdsTo_154 (xsh X1 sh_188) (Or.inl rfl) (by omega) (by decide) t2 ?_)))))))))))
      refine wn_icmp_eq dX12_holdsTo_155 rfl (by omega) (by omega) (fun c155 => ?_) (fun c155 => absurd c155 (by omega))
      refine wp_iconst (v := nI 1) dX12_holdsTo_161 rfl (wp_istore_n dX12_holdsTo_162 ⟨Nat.le_of_ble_eq_true rfl, Or.inr rfl⟩ rfl (wp_aload_n dX12_holdsTo_163 rfl rfl (gv11_427 dX12_holdsTo_164 (xsh X1 sh_187) k65 ?_)))
      refine wp_if_ge dX12_holdsTo_167 rfl (fun c167 => absurd c167 (by decide)) (fun c167 => ?_)
      exact wp_aload_n dX12_holdsTo_170 rfl rfl (g11_382 dX12_holdsTo_171 (xsh X1 sh_187) (xrr X1 r187_82) (wp_aload_n dX12_holdsTo_174 rfl rfl (gv11_430 dX12_holdsTo_175 (xsh X1 sh_187) k66 (wp_aload_n dX12_holdsTo_178 rfl rfl (gv11_445 dX12_holdsTo_179 (xsh X1 sh_187) k67 (wp_aload_n dX12_holdsTo_182 rfl rfl (gv11_433 dX12_holdsTo_183 (xsh X1 sh_187) k68 (wp_aload_n dX12_holdsTo_186 rfl rfl (gv11_436 dX12_holdsTo_187 (xsh X1 sh_187) k69 (wp_is4 dX12_holdsTo_190 k11_481 q_X12_stateOf (by decide) (Nat.le_of_ble_eq_true rfl) gs (wp_iconst (v := nI 1) dX12_holdsTo_193 rfl (wn_zastore dX12_holdsTo_194 (xsh X1 sh_229) rfl (by omega) (by decide) (show vp_nar .boolean (nI 1) = xB true from rfl) nx))))))))))))
  · have nx := K S1 b F1 W1 (TT1.cg (xTl_no ho h8 rfl hg w))
    refine wp_aload_n dX12_holdsTo_134 rfl rfl (wp_iload_n dX12_holdsTo_135 rfl (wp_iload dX12_holdsTo_136 rfl (wp_iv3 dX12_holdsTo_138 k11_494 q_X12_finishState (by decide) (xsh hX sh_187) (by decide) (Nat.le_of_ble_eq_true rfl) gf (wp_aload_n dX12_holdsTo_141 rfl rfl (wp_aload_n dX12_holdsTo_142 rfl rfl (gv11_424 dX12_holdsTo_143 (xsh X1 sh_187) k64 (wp_iv2 dX12_holdsTo_146 k11_418 q_X12_personOf (by decide) (xsh X1 sh_187) (by decide) (Nat.le_of_ble_eq_true rfl) gp (wp_aload_n dX12_holdsTo_149 rfl rfl (g11_14 dX12_holdsTo_150 (xsh X1 sh_187) (xrr X1 r187_1) (wp_iload_n dX12_holdsTo_153 rfl (wn_baload dX12_holdsTo_154 (xsh X1 sh_188) (Or.inl rfl) (by omega) (by decide) t2 ?_)))))))))))
    refine wn_icmp_eq dX12_holdsTo_155 rfl (by omega) (by omega) (fun c155 => absurd c155 (by omega)) (fun c155 => ?_)
    exact wp_goto dX12_holdsTo_158 rfl nx
theorem hd_in {c : xPx} {t : Nat → Nat} {m s i n d : Nat} (ho : xzo c) (ha : xzal c = true) (h8 : xgH (xzg c) ≤ 8) (hi : i < n) (hr : xrch c t i m s) (hask : xzA c i = true) {Q : Option Value → xS → Prop} : ∀ (j a : Nat) (S : xS) (b : Bool), a + j = c.2.2.2.1.length → xWk S c 0 m s i → xTn S n t (xgP (xzg c)) → xTT S b c i (xTl c t i (xqt c m s i) a) → (∀ S' b' y5, xFl (fun i q => (i = 187 ∧ 64 ≤ q ∧ q ≤ 69) ∨ i = 229) S S' → xWk S' c 0 m s i → xTT S' b' c i (xTl c t i ((xqt c m s i) + 1) 0) → Wp false (d + 4) 11 cX12_holdsTo (some .int) false 201 [.ref 187, .int (nI i), .int (xB b'), .int (nI (xqt c m s i)), .int (xB true), y5] [] S' Q) → Wp false (d + 4) 11 cX12_holdsTo (some .int) false 116 [.ref 187, .int (nI i), .int (xB b), .int (nI (xqt c m s i)), .int (xB true), .int (nI a)] [] S Q := by
  have hac := ho.2.2.1
  have hw : xzw c i = c.2.2.2.1.length := by unfold xzw; rw [if_pos hask]
  intro j
  induction j with
  | zero =>
    intro a S b haj hW hT hTT K
    have haa : a = xzw c i := by omega
    subst haa
    have hX := hW.1
    have k31 := hW.2.1.2.2.2.2.2.2.2.2.2.1
    have nx := K S b (.int (nI (xzw c i))) (xFl.rf S) hW (hTT.cg xTl_end)
    refine wp_iload dX12_holdsTo_116 rfl (wp_iload dX12_holdsTo_118 rfl ?_)
    refine wb_if_eq dX12_holdsTo_120 rfl (fun c120 => absurd c120 (by decide)) (fun c120 => ?_)
    refine wp_aload_n dX12_holdsTo_123 rfl rfl (gv11_189 dX12_holdsTo_124 (xsh hX sh_187) k31 (wp_goto dX12_holdsTo_127 rfl ?_))
    refine wn_icmp_ge dX12_holdsTo_131 rfl (by omega) (by omega) (fun c131 => ?_) (fun c131 => absurd c131 (by omega))
    exact nx
  | succ j ih =>
    intro a S b haj hW hT hTT K
    have hX := hW.1
    have k31 := hW.2.1.2.2.2.2.2.2.2.2.2.1
    have nx := hd_body (d := d) (a := a) (i4 := xB true) ho ha h8 hi hr (by omega) (Or.inl ⟨hask, rfl, by omega⟩) hW hT hTT (Q := Q) (fun S1 b1 f1 W1 TT1 => by
      have X1 := W1.1
      have nx := ih (a + 1) S1 b1 (by omega) W1 (hT.fr f1 (fun i q h => by omega)) TT1 (fun S2 b2 y5 f2 W2 TT2 => K S2 b2 y5 (f1.tt f2) W2 TT2)
      exact wp_iinc dX12_holdsTo_195 rfl (nI_1 _) ⟨Nat.le_of_ble_eq_true rfl, Or.inr rfl⟩ rfl (wp_goto dX12_holdsTo_198 rfl nx))
    refine wp_iload dX12_holdsTo_116 rfl (wp_iload dX12_holdsTo_118 rfl ?_)
    refine wb_if_eq dX12_holdsTo_120 rfl (fun c120 => absurd c120 (by decide)) (fun c120 => ?_)
    refine wp_aload_n dX12_holdsTo_123 rfl rfl (gv11_189 dX12_holdsTo_124 (xsh hX sh_187) k31 (wp_goto dX12_holdsTo_127 rfl ?_))
    refine wn_icmp_ge dX12_holdsTo_131 rfl (by omega) (by omega) (fun c131 => absurd c131 (by omega)) (fun c131 => ?_)
    exact nx
theorem hd_loop {c : xPx} {t : Nat → Nat} {i n d : Nat} {B : Nat → Bool} (ho : xzo c) (ha : xzal c = true) (h8 : xgH (xzg c) ≤ 8) (hi : i < n) (hB : ∀ y, B y = true ↔ ∃ m s, y = xqt c m s i ∧ xrch c t i m s) {Q : Option Value → xS → Prop} : ∀ (j x : Nat) (S : xS) (b : Bool) (y4 y5 : Value), x + j = 16384 → XC S → xMpd S c 0 → xTn S n t (xgP (xzg c)) → xCm S 228 B → xTT S b c i (xTl c t i x 0) → (∀ S' b' y4 y5, xFl (fun i q => (i = 187 ∧ 61 ≤ q ∧ q ≤ 70) ∨ i = 216 ∨ i = 229) S S' → xTT S' b' c i (xTl c t i 16384 0) → Wp false (d + 4) 11 cX12_holdsTo (some .int) false 207 [.ref 187, .int (nI i), .int (xB b'), .int (nI 16384), y4, y5] [] S' Q) → Wp false (d + 4) 11 cX12_holdsTo (some .int) false 78 [.ref 187, .int (nI i), .int (xB b), .int (nI x), y4, y5] [] S Q := by
  intro j
  induction j with
  | zero =>
    intro x S b y4 y5 hx hX hD hT hC hTT K
    have hxx : x = 16384 := by omega
    subst hxx
    have nx := K S b y4 y5 (xFl.rf S) hTT
    refine wp_iload_n dX12_holdsTo_78 rfl (wp_sipush (v := nI 16384) dX12_holdsTo_79 rfl ?_)
    refine wn_icmp_ge dX12_holdsTo_82 rfl (by omega) (by omega) (fun c82 => ?_) (fun c82 => absurd c82 (by omega))
    exact nx
  | succ j ih =>
    intro x S b y4 y5 hx hX hD hT hC hTT K
    have hbx := hC x (by omega)
    cases eb : B x with
    | false =>
      rw [eb] at hbx
      have nx := ih (x + 1) S b y4 y5 (by omega) hX hD hT hC (hTT.cg (xTl_skip (fun m s hr e => by
        have := (hB x).mpr ⟨m, s, e.symm, hr⟩
        rw [eb] at this; cases this))) K
      refine wp_iload_n dX12_holdsTo_78 rfl (wp_sipush (v := nI 16384) dX12_holdsTo_79 rfl ?_)
      refine wn_icmp_ge dX12_holdsTo_82 rfl (by omega) (by omega) (fun c82 => absurd c82 (by omega)) (fun c82 => ?_)
      refine wp_aload_n dX12_holdsTo_85 rfl rfl (g11_379 dX12_holdsTo_86 (xsh hX sh_187) (xrr hX r187_81) (wp_iload_n dX12_holdsTo_89 rfl (wn_baload dX12_holdsTo_90 (xsh hX sh_228) (Or.inr rfl) (by omega) (by decide) hbx ?_)))
      refine wb_if_ne dX12_holdsTo_91 rfl (fun c91 => absurd c91 (by decide)) (fun c91 => ?_)
      exact wp_goto dX12_holdsTo_94 rfl (wp_iinc dX12_holdsTo_201 rfl (nI_1 _) ⟨Nat.le_of_ble_eq_true rfl, Or.inr rfl⟩ rfl (wp_goto dX12_holdsTo_204 rfl nx))
    | true =>
      rw [eb] at hbx
      obtain ⟨m, s, rfl, hr⟩ := (hB x).mp eb
      have hg := xrch_gd ho i m s hr
      obtain ⟨q1, q2, q3, q4, _⟩ := hg.b ho h8
      obtain ⟨S1, gw, f1, W1, k70, k63⟩ := m_walkState (d + 0) ho ha h8 (by decide) hg hX hD
      have X1 := f1.XC hX
      have T1 := hT.fr f1 (fun i q h => by omega)
      have F1 : xFl (fun i q => (i = 187 ∧ 61 ≤ q ∧ q ≤ 70) ∨ i = 216 ∨ i = 229) S S1 := f1.mono (fun i q h => by omega)
      have TT1 := hTT.fr f1 (fun x h => by omega)
      have go : ∀ (S2 : xS) (b' : Bool) (y4 y5 : Value), xFl (fun i q => (i = 187 ∧ 64 ≤ q ∧ q ≤ 69) ∨ i = 229) S1 S2 → xWk S2 c 0 m s i → xTT S2 b' c i (xTl c t i ((xqt c m s i) + 1) 0) → Wp false (d + 4) 11 cX12_holdsTo (some .int) false 201 [.ref 187, .int (nI i), .int (xB b'), .int (nI (xqt c m s i)), y4, y5] [] S2 Q := by
        intro S2 b' y4 y5 f2 W2 TT2
        have X2 := W2.1
        have FF := F1.tt (f2.mono (fun i q h => by omega))
        have nx := ih ((xqt c m s i) + 1) S2 b' y4 y5 (by omega) X2 W2.2.1 (T1.fr f2 (fun i q h => by omega)) (hC.fr FF (fun x h => by omega)) TT2 (fun S3 b3 y4 y5 f3 TT3 => K S3 b3 y4 y5 (FF.tt f3) TT3)
        exact wp_iinc dX12_holdsTo_201 rfl (nI_1 _) ⟨Nat.le_of_ble_eq_true rfl, Or.inr rfl⟩ rfl (wp_goto dX12_holdsTo_204 rfl nx)
      cases hask : xzA c i with
      | true =>
        rw [hask] at gw
        have lp := hd_in (d := d) ho ha h8 hi hr hask (Q := Q) c.2.2.2.1.length 0 S1 b (Nat.zero_add _) W1 T1 TT1 (fun S2 b2 y5 f2 W2 TT2 => go S2 b2 _ y5 f2 W2 TT2)
        refine wp_iload_n dX12_holdsTo_78 rfl (wp_sipush (v := nI 16384) dX12_holdsTo_79 rfl ?_)
        refine wn_icmp_ge dX12_holdsTo_82 rfl (by omega) (by omega) (fun c82 => absurd c82 (by omega)) (fun c82 => ?_)
        refine wp_aload_n dX12_holdsTo_85 rfl rfl (g11_379 dX12_holdsTo_86 (xsh hX sh_187) (xrr hX r187_81) (wp_iload_n dX12_holdsTo_89 rfl (wn_baload dX12_holdsTo_90 (xsh hX sh_228) (Or.inr rfl) (by omega) (by decide) hbx ?_)))
        refine wb_if_ne dX12_holdsTo_91 rfl (fun c91 => ?_) (fun c91 => absurd c91 (by decide))
        refine wp_aload_n dX12_holdsTo_97 rfl rfl (wp_iload_n dX12_holdsTo_98 rfl (wp_iv2 dX12_holdsTo_99 k11_491 q_X12_walkState (by decide) (xsh hX sh_187) (by decide) (Nat.le_of_ble_eq_true rfl) gw (wp_istore dX12_holdsTo_102 ⟨Nat.le_of_ble_eq_true rfl, Or.inr rfl⟩ rfl (wp_iload dX12_holdsTo_104 rfl ?_))))
        refine wb_if_eq dX12_holdsTo_106 rfl (fun c106 => absurd c106 (by decide)) (fun c106 => ?_)
        exact wp_iconst (v := nI 0) dX12_holdsTo_109 rfl (wp_goto dX12_holdsTo_110 rfl (wp_istore dX12_holdsTo_114 ⟨Nat.le_of_ble_eq_true rfl, Or.inr rfl⟩ rfl lp))
      | false =>
        rw [hask] at gw
        have hw : xzw c i = 1 := by unfold xzw; rw [hask, if_neg (by decide)]
        have fm1 : (-1 : Int32) + Int32.ofInt 1 = nI 0 := by decide
        have nx := hd_body (d := d) (a := 0) (av := -1) (i4 := xB false) ho ha h8 hi hr (by omega) (Or.inr ⟨hask, rfl⟩) W1 T1 TT1 (Q := Q) (fun S2 b2 f2 W2 TT2 => by
          have X2 := W2.1
          have fin := go S2 b2 (.int (xB false)) (.int (nI 0)) f2 W2 (by rw [show 0 + 1 = xzw c i by omega] at TT2; exact TT2.cg xTl_end)
          refine wp_iinc dX12_holdsTo_195 rfl fm1 ⟨Nat.le_of_ble_eq_true rfl, Or.inr rfl⟩ rfl (wp_goto dX12_holdsTo_198 rfl ?_)
          refine wp_iload dX12_holdsTo_116 rfl (wp_iload dX12_holdsTo_118 rfl ?_)
          refine wb_if_eq dX12_holdsTo_120 rfl (fun c120 => ?_) (fun c120 => absurd c120 (by decide))
          refine wp_iconst (v := nI 0) dX12_holdsTo_130 rfl ?_
          refine wn_icmp_ge dX12_holdsTo_131 rfl (by omega) (by omega) (fun c131 => ?_) (fun c131 => absurd c131 (by omega))
          exact fin)
        refine wp_iload_n dX12_holdsTo_78 rfl (wp_sipush (v := nI 16384) dX12_holdsTo_79 rfl ?_)
        refine wn_icmp_ge dX12_holdsTo_82 rfl (by omega) (by omega) (fun c82 => absurd c82 (by omega)) (fun c82 => ?_)
        refine wp_aload_n dX12_holdsTo_85 rfl rfl (g11_379 dX12_holdsTo_86 (xsh hX sh_187) (xrr hX r187_81) (wp_iload_n dX12_holdsTo_89 rfl (wn_baload dX12_holdsTo_90 (xsh hX sh_228) (Or.inr rfl) (by omega) (by decide) hbx ?_)))
        refine wb_if_ne dX12_holdsTo_91 rfl (fun c91 => ?_) (fun c91 => absurd c91 (by decide))
        refine wp_aload_n dX12_holdsTo_97 rfl rfl (wp_iload_n dX12_holdsTo_98 rfl (wp_iv2 dX12_holdsTo_99 k11_491 q_X12_walkState (by decide) (xsh hX sh_187) (by decide) (Nat.le_of_ble_eq_true rfl) gw (wp_istore dX12_holdsTo_102 ⟨Nat.le_of_ble_eq_true rfl, Or.inr rfl⟩ rfl (wp_iload dX12_holdsTo_104 rfl ?_))))
        refine wb_if_eq dX12_holdsTo_106 rfl (fun c106 => ?_) (fun c106 => absurd c106 (by decide))
        refine wp_iconst (v := -1) dX12_holdsTo_113 rfl (wp_istore dX12_holdsTo_114 ⟨Nat.le_of_ble_eq_true rfl, Or.inr rfl⟩ rfl ?_)
        refine wp_iload dX12_holdsTo_116 rfl (wp_iload dX12_holdsTo_118 rfl ?_)
        refine wb_if_eq dX12_holdsTo_120 rfl (fun c120 => ?_) (fun c120 => absurd c120 (by decide))
        refine wp_iconst (v := nI 0) dX12_holdsTo_130 rfl ?_
        refine wp_icmp_ge dX12_holdsTo_131 rfl (fun c131 => absurd c131 (by decide)) (fun c131 => ?_)
        exact nx
