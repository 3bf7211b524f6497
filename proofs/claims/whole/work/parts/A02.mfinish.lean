/-! a PLAY of the reference: finish -/
/-- the HAND HIT, these letters being said -/
def xmh (c : xPx) (ex m s k more : Nat) : Nat := xha (xzR c m s k) (xzT c ex m s k - 1 + more)
theorem xwy_neg {g : xRg} {k : Nat} (h : xgt g = true) : -(xwy (xbk g k)) = xwy (xbk g (k + 1)) := by
  unfold xbk
  rw [h, Bool.true_and, Bool.true_and]
  rcases Nat.mod_two_eq_zero_or_one k with z | z
  · rw [decide_eq_false (by omega), decide_eq_true (show (k + 1) % 2 = 1 by omega)]; rfl
  · rw [decide_eq_true z, decide_eq_false (show ¬ (k + 1) % 2 = 1 by omega)]; rfl
theorem xwy_keep {g : xRg} {k : Nat} (h : xgt g = false) : xwy (xbk g k) = xwy (xbk g (k + 1)) := by
  unfold xbk
  rw [h, Bool.false_and, Bool.false_and]
/-- what finish leaves: x the mask behind the HIT, y the HAND HIT -/
def xFz (S : xS) (c : xPx) (x s k y : Nat) : Prop := S.2.1 187 64 = nI y ∧ (xgs (xzg c) = true → S.2.1 187 65 = nI (2 ^ xow (xgf (xzg c)) y)) ∧ (xgs (xzg c) = false → S.2.1 187 66 = nI x ∧ S.2.1 187 68 = xwy (xbk (xzg c) (k + 1)) ∧ S.2.1 187 69 = nI ((k + 1) % c.1.2.length) ∧ (xovr (xzg c) x = true → S.2.1 187 65 = nI (xpm (xzg c) x)) ∧ (xovr (xzg c) x = false → S.2.1 187 65 = -1 ∧ S.2.1 187 67 = nI (xnb1 (xzg c) x s y (k + 1))))
theorem xpm_0 {g : xRg} : xpm g 0 = 0 := by
  unfold xpm
  split
  · generalize xgP g = p
    induction p with
    | zero => rfl
    | succ p ih => rw [xpo, Nat.zero_div, if_pos rfl, ih]
  · rfl
theorem fn_go {c : xPx} {x s k y d : Nat} (ho : xzo c) (hm : x < 2 ^ xgH (xzg c)) (h0 : 0 < x) (hs : s < xgH (xzg c)) (hy : y < xgH (xzg c)) {x1 x2 x4 x5 : Value} {x6 : Int32} {f : Nat} {b : Bool} {S : xS} (hX : XC S) (kH : S.2.1 187 60 = nI (xgH (xzg c))) (k64 : S.2.1 187 64 = nI y) (k66 : S.2.1 187 66 = nI x) (k68 : S.2.1 187 68 = xwy (xbk (xzg c) (k + 1))) (l3 : S.2.1 208 3 = nI (c.1.1 3)) (hn2 : c.1.1 3 ≤ 2) (hf : f ≤ 1) (h2 : c.1.1 3 = 2 → (xnb1 (xzg c) x s y (k + 1)) = if b = true then f else xni (xzg c) x y (k + 1)) {Q : Option Value → xS → Prop} (K : Q none (xSI S 187 67 (nI (xnb1 (xzg c) x s y (k + 1))))) : Wp false (d + 2) 11 cX12_finish none false 185 [.ref 187, x1, x2, .int (nI s), x4, x5, .int x6, .int (nI f), .float 0] [.int (xB b)] S Q := by
  have g24 := ho.g.H
  have h24 := x24 g24.2.1 hm
  have by_ := m_behind (b := xbk (xzg c) (k + 1)) (d + 1) g24.2.1 hm h0 hy hX kH
  have bs := m_behind (b := xbk (xzg c) (k + 1)) (d + 1) g24.2.1 hm h0 hs hX kH
  have eb := xbitt (h := s) (show x < 2 ^ 31 by omega)
  rcases Decidable.em (c.1.1 3 = 2) with w | w
  · have e2 := h2 w
    cases b with
    | true =>
      rw [if_pos rfl] at e2
      rw [e2] at K
      refine wp_istore dX12_finish_185 ⟨Nat.le_of_ble_eq_true rfl, Or.inr rfl⟩ rfl (wp_aload_n dX12_finish_187 rfl rfl (g11_272 dX12_finish_188 (xsh hX sh_187) (xrr hX r187_45) (wp_iconst (v := nI 3) dX12_finish_191 rfl (wn_iaload dX12_finish_192 (xsh hX sh_208) rfl (by omega) (by decide) l3 (wp_iconst (v := nI 2) dX12_finish_193 rfl ?_)))))
      refine wn_icmp_ne dX12_finish_194 rfl (by omega) (by omega) (fun c194 => absurd c194 (by omega)) (fun c194 => ?_)
      refine wp_iload dX12_finish_197 rfl ?_
      refine wb_if_eq dX12_finish_199 rfl (fun c199 => absurd c199 (by decide)) (fun c199 => ?_)
      exact wp_aload_n dX12_finish_202 rfl rfl (wp_iload dX12_finish_203 rfl (p11_445 dX12_finish_205 (xsh hX sh_187) (wp_goto dX12_finish_208 rfl (wp_return dX12_finish_277 rfl K))))
    | false =>
      rw [if_neg (by decide)] at e2
      rw [e2] at K
      refine wp_istore dX12_finish_185 ⟨Nat.le_of_ble_eq_true rfl, Or.inr rfl⟩ rfl (wp_aload_n dX12_finish_187 rfl rfl (g11_272 dX12_finish_188 (xsh hX sh_187) (xrr hX r187_45) (wp_iconst (v := nI 3) dX12_finish_191 rfl (wn_iaload dX12_finish_192 (xsh hX sh_208) rfl (by omega) (by decide) l3 (wp_iconst (v := nI 2) dX12_finish_193 rfl ?_)))))
      refine wn_icmp_ne dX12_finish_194 rfl (by omega) (by omega) (fun c194 => absurd c194 (by omega)) (fun c194 => ?_)
      refine wp_iload dX12_finish_197 rfl ?_
      refine wb_if_eq dX12_finish_199 rfl (fun c199 => ?_) (fun c199 => absurd c199 (by decide))
      refine wp_aload_n dX12_finish_211 rfl rfl (g11_272 dX12_finish_212 (xsh hX sh_187) (xrr hX r187_45) (wp_iconst (v := nI 3) dX12_finish_215 rfl (wn_iaload dX12_finish_216 (xsh hX sh_208) rfl (by omega) (by decide) l3 (wp_iconst (v := nI 1) dX12_finish_217 rfl ?_))))
      refine wn_icmp_ne dX12_finish_218 rfl (by omega) (by omega) (fun c218 => ?_) (fun c218 => absurd c218 (by omega))
      exact wp_aload_n dX12_finish_257 rfl rfl (wp_aload_n dX12_finish_258 rfl rfl (wp_aload_n dX12_finish_259 rfl rfl (gv11_430 dX12_finish_260 (xsh hX sh_187) k66 (wp_aload_n dX12_finish_263 rfl rfl (gv11_424 dX12_finish_264 (xsh hX sh_187) k64 (wp_aload_n dX12_finish_267 rfl rfl (gv11_433 dX12_finish_268 (xsh hX sh_187) k68 (wp_iv4 dX12_finish_271 k11_448 q_X12_behind (by decide) (xsh hX sh_187) (by decide) (Nat.le_of_ble_eq_true rfl) by_ (p11_445 dX12_finish_274 (xsh hX sh_187) (wp_return dX12_finish_277 rfl K))))))))))
  · rcases Decidable.em (c.1.1 3 = 1) with w1 | w1
    · cases ht : x.testBit s with
      | true =>
        rw [ht, if_pos rfl] at eb
        rw [show (xnb1 (xzg c) x s y (k + 1)) = s by unfold xnb1; rw [if_pos (show xgn (xzg c) = 1 from w1), if_pos ht]] at K
        refine wp_istore dX12_finish_185 ⟨Nat.le_of_ble_eq_true rfl, Or.inr rfl⟩ rfl (wp_aload_n dX12_finish_187 rfl rfl (g11_272 dX12_finish_188 (xsh hX sh_187) (xrr hX r187_45) (wp_iconst (v := nI 3) dX12_finish_191 rfl (wn_iaload dX12_finish_192 (xsh hX sh_208) rfl (by omega) (by decide) l3 (wp_iconst (v := nI 2) dX12_finish_193 rfl ?_)))))
        refine wn_icmp_ne dX12_finish_194 rfl (by omega) (by omega) (fun c194 => ?_) (fun c194 => absurd c194 (by omega))
        refine wp_aload_n dX12_finish_211 rfl rfl (g11_272 dX12_finish_212 (xsh hX sh_187) (xrr hX r187_45) (wp_iconst (v := nI 3) dX12_finish_215 rfl (wn_iaload dX12_finish_216 (xsh hX sh_208) rfl (by omega) (by decide) l3 (wp_iconst (v := nI 1) dX12_finish_217 rfl ?_))))
        refine wn_icmp_ne dX12_finish_218 rfl (by omega) (by omega) (fun c218 => absurd c218 (by omega)) (fun c218 => ?_)
        refine wp_aload_n dX12_finish_221 rfl rfl (wp_aload_n dX12_finish_222 rfl rfl (gv11_430 dX12_finish_223 (xsh hX sh_187) k66 (wp_iload_n dX12_finish_226 rfl (wv_ishr dX12_finish_227 (xshR (by omega) (by omega)) (wp_iconst (v := nI 1) dX12_finish_228 rfl (wv_iand dX12_finish_229 eb (wp_iconst (v := nI 1) dX12_finish_230 rfl ?_)))))))
        refine wn_icmp_ne dX12_finish_231 rfl (by omega) (by omega) (fun c231 => absurd c231 (by omega)) (fun c231 => ?_)
        exact wp_iload_n dX12_finish_234 rfl (wp_goto dX12_finish_235 rfl (p11_445 dX12_finish_251 (xsh hX sh_187) (wp_goto dX12_finish_254 rfl (wp_return dX12_finish_277 rfl K))))
      | false =>
        rw [ht, if_neg (by decide)] at eb
        rw [show (xnb1 (xzg c) x s y (k + 1)) = xni (xzg c) x s (k + 1) by unfold xnb1; rw [if_pos (show xgn (xzg c) = 1 from w1), if_neg (by rw [ht]; decide)]] at K
        refine wp_istore dX12_finish_185 ⟨Nat.le_of_ble_eq_true rfl, Or.inr rfl⟩ rfl (wp_aload_n dX12_finish_187 rfl rfl (g11_272 dX12_finish_188 (xsh hX sh_187) (xrr hX r187_45) (wp_iconst (v := nI 3) dX12_finish_191 rfl (wn_iaload dX12_finish_192 (xsh hX sh_208) rfl (by omega) (by decide) l3 (wp_iconst (v := nI 2) dX12_finish_193 rfl ?_)))))
        refine wn_icmp_ne dX12_finish_194 rfl (by omega) (by omega) (fun c194 => ?_) (fun c194 => absurd c194 (by omega))
        refine wp_aload_n dX12_finish_211 rfl rfl (g11_272 dX12_finish_212 (xsh hX sh_187) (xrr hX r187_45) (wp_iconst (v := nI 3) dX12_finish_215 rfl (wn_iaload dX12_finish_216 (xsh hX sh_208) rfl (by omega) (by decide) l3 (wp_iconst (v := nI 1) dX12_finish_217 rfl ?_))))
        refine wn_icmp_ne dX12_finish_218 rfl (by omega) (by omega) (fun c218 => absurd c218 (by omega)) (fun c218 => ?_)
        refine wp_aload_n dX12_finish_221 rfl rfl (wp_aload_n dX12_finish_222 rfl rfl (gv11_430 dX12_finish_223 (xsh hX sh_187) k66 (wp_iload_n dX12_finish_226 rfl (wv_ishr dX12_finish_227 (xshR (by omega) (by omega)) (wp_iconst (v := nI 1) dX12_finish_228 rfl (wv_iand dX12_finish_229 eb (wp_iconst (v := nI 1) dX12_finish_230 rfl ?_)))))))
        refine wn_icmp_ne dX12_finish_231 rfl (by omega) (by omega) (fun c231 => ?_) (fun c231 => absurd c231 (by omega))
        exact wp_aload_n dX12_finish_238 rfl rfl (wp_aload_n dX12_finish_239 rfl rfl (gv11_430 dX12_finish_240 (xsh hX sh_187) k66 (wp_iload_n dX12_finish_243 rfl (wp_aload_n dX12_finish_244 rfl rfl (gv11_433 dX12_finish_245 (xsh hX sh_187) k68 (wp_iv4 dX12_finish_248 k11_448 q_X12_behind (by decide) (xsh hX sh_187) (by decide) (Nat.le_of_ble_eq_true rfl) bs (p11_445 dX12_finish_251 (xsh hX sh_187) (wp_goto dX12_finish_254 rfl (wp_return dX12_finish_277 rfl K)))))))))
    · rw [show (xnb1 (xzg c) x s y (k + 1)) = xni (xzg c) x y (k + 1) by unfold xnb1; rw [if_neg (show ¬ xgn (xzg c) = 1 from w1), if_neg (show ¬ xgn (xzg c) = 2 from w)]] at K
      refine wp_istore dX12_finish_185 ⟨Nat.le_of_ble_eq_true rfl, Or.inr rfl⟩ rfl (wp_aload_n dX12_finish_187 rfl rfl (g11_272 dX12_finish_188 (xsh hX sh_187) (xrr hX r187_45) (wp_iconst (v := nI 3) dX12_finish_191 rfl (wn_iaload dX12_finish_192 (xsh hX sh_208) rfl (by omega) (by decide) l3 (wp_iconst (v := nI 2) dX12_finish_193 rfl ?_)))))
      refine wn_icmp_ne dX12_finish_194 rfl (by omega) (by omega) (fun c194 => ?_) (fun c194 => absurd c194 (by omega))
      refine wp_aload_n dX12_finish_211 rfl rfl (g11_272 dX12_finish_212 (xsh hX sh_187) (xrr hX r187_45) (wp_iconst (v := nI 3) dX12_finish_215 rfl (wn_iaload dX12_finish_216 (xsh hX sh_208) rfl (by omega) (by decide) l3 (wp_iconst (v := nI 1) dX12_finish_217 rfl ?_))))
      refine wn_icmp_ne dX12_finish_218 rfl (by omega) (by omega) (fun c218 => ?_) (fun c218 => absurd c218 (by omega))
      exact wp_aload_n dX12_finish_257 rfl rfl (wp_aload_n dX12_finish_258 rfl rfl (wp_aload_n dX12_finish_259 rfl rfl (gv11_430 dX12_finish_260 (xsh hX sh_187) k66 (wp_aload_n dX12_finish_263 rfl rfl (gv11_424 dX12_finish_264 (xsh hX sh_187) k64 (wp_aload_n dX12_finish_267 rfl rfl (gv11_433 dX12_finish_268 (xsh hX sh_187) k68 (wp_iv4 dX12_finish_271 k11_448 q_X12_behind (by decide) (xsh hX sh_187) (by decide) (Nat.le_of_ble_eq_true rfl) by_ (p11_445 dX12_finish_274 (xsh hX sh_187) (wp_return dX12_finish_277 rfl K))))))))))
theorem fn_call {c : xPx} {x s k y d : Nat} (ho : xzo c) (hm : x < 2 ^ xgH (xzg c)) (h0 : 0 < x) (hs : s < xgH (xzg c)) (hy : y < xgH (xzg c)) {x1 x2 x4 x5 : Value} {x6 : Int32} {f : Nat} {S : xS} (hX : XC S) (kH : S.2.1 187 60 = nI (xgH (xzg c))) (k64 : S.2.1 187 64 = nI y) (k66 : S.2.1 187 66 = nI x) (k68 : S.2.1 187 68 = xwy (xbk (xzg c) (k + 1))) (l3 : S.2.1 208 3 = nI (c.1.1 3)) (h8 : S.2.1 208 1 = nI (c.1.1 1)) (hf : f ≤ 1) (hf0 : xow (xgf (xzg c)) f = 0) (h2 : c.1.1 3 = 2 → (xnb1 (xzg c) x s y (k + 1)) = if x.testBit f = true then f else xni (xzg c) x y (k + 1)) {Q : Option Value → xS → Prop} (K : Q none (xSI S 187 67 (nI (xnb1 (xzg c) x s y (k + 1))))) : Wp false (d + 2) 11 cX12_finish none false 156 [.ref 187, x1, x2, .int (nI s), x4, x5, .int x6, .float 0, .float 0] [.int (nI f)] S Q := by
  have g24 := ho.g.H
  have h24 := x24 g24.2.1 hm
  have hn2 : c.1.1 3 ≤ 2 := ho.g.2.2.1
  have eb := xbitt (h := f) (show x < 2 ^ 31 by omega)
  have gp := m_personOf (h := f) (d + 1) ho (by omega) hX h8
  rw [hf0] at gp
  have go := fun b w => fn_go (d := d) (x1 := x1) (x2 := x2) (x4 := x4) (x5 := x5) (x6 := x6) ho hm h0 hs hy hX kH k64 k66 k68 l3 hn2 hf (b := b) w K
  cases ht : x.testBit f with
  | true =>
    rw [ht, if_pos rfl] at eb
    have go1 := go true (fun w => by rw [h2 w, ht])
    refine wp_istore dX12_finish_156 ⟨Nat.le_of_ble_eq_true rfl, Or.inr rfl⟩ rfl (wp_aload_n dX12_finish_158 rfl rfl (gv11_430 dX12_finish_159 (xsh hX sh_187) k66 (wp_iload dX12_finish_162 rfl (wv_ishr dX12_finish_164 (xshR (by omega) (by omega)) (wp_iconst (v := nI 1) dX12_finish_165 rfl (wv_iand dX12_finish_166 eb (wp_iconst (v := nI 1) dX12_finish_167 rfl ?_)))))))
    refine wn_icmp_ne dX12_finish_168 rfl (by omega) (by omega) (fun c168 => absurd c168 (by omega)) (fun c168 => ?_)
    refine wp_aload_n dX12_finish_171 rfl rfl (wp_iload dX12_finish_172 rfl (wp_iv2 dX12_finish_174 k11_418 q_X12_personOf (by decide) (xsh hX sh_187) (by decide) (Nat.le_of_ble_eq_true rfl) gp ?_))
    refine wn_if_ne dX12_finish_177 rfl (by omega) (fun c177 => absurd c177 (by omega)) (fun c177 => ?_)
    exact wp_iconst (v := nI 1) dX12_finish_180 rfl (wp_goto dX12_finish_181 rfl go1)
  | false =>
    rw [ht, if_neg (by decide)] at eb
    have go1 := go false (fun w => by rw [h2 w, ht])
    refine wp_istore dX12_finish_156 ⟨Nat.le_of_ble_eq_true rfl, Or.inr rfl⟩ rfl (wp_aload_n dX12_finish_158 rfl rfl (gv11_430 dX12_finish_159 (xsh hX sh_187) k66 (wp_iload dX12_finish_162 rfl (wv_ishr dX12_finish_164 (xshR (by omega) (by omega)) (wp_iconst (v := nI 1) dX12_finish_165 rfl (wv_iand dX12_finish_166 eb (wp_iconst (v := nI 1) dX12_finish_167 rfl ?_)))))))
    refine wn_icmp_ne dX12_finish_168 rfl (by omega) (by omega) (fun c168 => ?_) (fun c168 => absurd c168 (by omega))
    exact wp_iconst (v := nI 0) dX12_finish_184 rfl go1
theorem fn_next {c : xPx} {x s k y d : Nat} (ho : xzo c) (hm : x < 2 ^ xgH (xzg c)) (h0 : 0 < x) (hs : s < xgH (xzg c)) (hy : y < xgH (xzg c)) {x1 x2 x4 x5 : Value} {x6 : Int32} {S : xS} (hX : XC S) (kH : S.2.1 187 60 = nI (xgH (xzg c))) (k64 : S.2.1 187 64 = nI y) (k66 : S.2.1 187 66 = nI x) (k68 : S.2.1 187 68 = xwy (xbk (xzg c) (k + 1))) (l3 : S.2.1 208 3 = nI (c.1.1 3)) (h8 : S.2.1 208 1 = nI (c.1.1 1)) {Q : Option Value → xS → Prop} (K : Q none (xSI S 187 67 (nI (xnb1 (xzg c) x s y (k + 1))))) : Wp false (d + 2) 11 cX12_finish none false 132 [.ref 187, x1, x2, .int (nI s), x4, x5, .int x6, .float 0, .float 0] [] S Q := by
  have g24 := ho.g.H
  have h24 := x24 g24.2.1 hm
  have yb : c.1.1 1 ≤ 1 := ho.1.1 1 (by decide)
  have eb := xbitt (h := 0) (show x < 2 ^ 31 by omega)
  rw [Nat.pow_zero, Nat.div_one] at eb
  have go := fun f a b e => fn_call (d := d) (x1 := x1) (x2 := x2) (x4 := x4) (x5 := x5) (x6 := x6) ho hm h0 hs hy hX kH k64 k66 k68 l3 h8 (f := f) a b e K
  have n1 : ∀ w : c.1.1 3 = 2, ¬ xgn (xzg c) = 1 := fun w e => by have : c.1.1 3 = 1 := e; omega
  rcases Decidable.em (c.1.1 1 = 1) with w | w
  · have hft : xgf (xzg c) = true := decide_eq_true w
    cases ht : x.testBit 0 with
    | true =>
      rw [ht, if_pos rfl] at eb
      have go1 := go 0 (by decide) (by unfold xow; split <;> rfl) (fun w => by unfold xnb1; rw [if_neg (n1 w), if_pos (show xgn (xzg c) = 2 from w), ht, if_pos rfl, if_pos rfl])
      refine wp_aload_n dX12_finish_132 rfl rfl (g11_272 dX12_finish_133 (xsh hX sh_187) (xrr hX r187_45) (wp_iconst (v := nI 1) dX12_finish_136 rfl (wn_iaload dX12_finish_137 (xsh hX sh_208) rfl (by omega) (by decide) h8 (wp_iconst (v := nI 1) dX12_finish_138 rfl ?_))))
      refine wn_icmp_ne dX12_finish_139 rfl (by omega) (by omega) (fun c139 => absurd c139 (by omega)) (fun c139 => ?_)
      refine wp_aload_n dX12_finish_142 rfl rfl (gv11_430 dX12_finish_143 (xsh hX sh_187) k66 (wp_iconst (v := nI 1) dX12_finish_146 rfl (wv_iand dX12_finish_147 eb ?_)))
      refine wn_if_ne dX12_finish_148 rfl (by omega) (fun c148 => ?_) (fun c148 => absurd c148 (by omega))
      exact wp_iconst (v := nI 0) dX12_finish_155 rfl go1
    | false =>
      rw [ht, if_neg (by decide)] at eb
      have go1 := go 1 (by decide) (by rw [hft]; rfl) (fun w => by
        unfold xnb1
        rw [if_neg (n1 w), if_pos (show xgn (xzg c) = 2 from w), ht, if_neg (by decide)]
        cases h1 : x.testBit 1 with
        | true => rw [if_pos ⟨hft, rfl⟩, if_pos rfl]
        | false => rw [if_neg (fun q => absurd q.2 (by decide)), if_neg (by decide)])
      refine wp_aload_n dX12_finish_132 rfl rfl (g11_272 dX12_finish_133 (xsh hX sh_187) (xrr hX r187_45) (wp_iconst (v := nI 1) dX12_finish_136 rfl (wn_iaload dX12_finish_137 (xsh hX sh_208) rfl (by omega) (by decide) h8 (wp_iconst (v := nI 1) dX12_finish_138 rfl ?_))))
      refine wn_icmp_ne dX12_finish_139 rfl (by omega) (by omega) (fun c139 => absurd c139 (by omega)) (fun c139 => ?_)
      refine wp_aload_n dX12_finish_142 rfl rfl (gv11_430 dX12_finish_143 (xsh hX sh_187) k66 (wp_iconst (v := nI 1) dX12_finish_146 rfl (wv_iand dX12_finish_147 eb ?_)))
      refine wn_if_ne dX12_finish_148 rfl (by omega) (fun c148 => absurd c148 (by omega)) (fun c148 => ?_)
      exact wp_iconst (v := nI 1) dX12_finish_151 rfl (wp_goto dX12_finish_152 rfl go1)
  · have hff : ¬ xgf (xzg c) = true := fun q => w (of_decide_eq_true q)
    have go1 := go 0 (by decide) (by unfold xow; split <;> rfl) (fun w => by
      unfold xnb1
      rw [if_neg (n1 w), if_pos (show xgn (xzg c) = 2 from w)]
      split
      · rfl
      · rw [if_neg (fun q => hff q.1)])
    refine wp_aload_n dX12_finish_132 rfl rfl (g11_272 dX12_finish_133 (xsh hX sh_187) (xrr hX r187_45) (wp_iconst (v := nI 1) dX12_finish_136 rfl (wn_iaload dX12_finish_137 (xsh hX sh_208) rfl (by omega) (by decide) h8 (wp_iconst (v := nI 1) dX12_finish_138 rfl ?_))))
    refine wn_icmp_ne dX12_finish_139 rfl (by omega) (by omega) (fun c139 => ?_) (fun c139 => absurd c139 (by omega))
    exact wp_iconst (v := nI 0) dX12_finish_155 rfl go1
theorem wv_ineg {al : Bool} {d o : Nat} {cc : ByteArray} {ret : Option FieldType} {ini : Bool} {pc : Nat} {ls st : List Value} {S : xS} {Q : Option Value → xS → Prop} {x v : Int32} (hd : decode cc pc = .ok (.ineg, 1)) (hv : -x = v) (k : Wp al d o cc ret ini (pc + 1) ls (.int v :: st) S Q) : Wp al d o cc ret ini pc ls (.int x :: st) S Q := by subst hv; exact wp_ineg hd k
theorem fn_all {c : xPx} {ex m s k more d : Nat} {wv : Int32} (ho : xzo c) (ha : xzal c = true) (hm : m < 2 ^ xgH (xzg c)) (h0 : 0 < m) (hs : s < xgH (xzg c)) (hex : ex ≤ 1000) (hmore : more ≤ 100) {S : xS} (hX : XC S) (hD : xMpd S c ex) (hr : xMr S (xzR c m s k)) (ks : S.2.1 187 62 = nI (xzT c ex m s k)) (hw1 : xgt (xzg c) = true → -wv = xwy (xbk (xzg c) (k + 1))) (hw2 : xgt (xzg c) = false → wv = xwy (xbk (xzg c) (k + 1))) : Wp false (d + 2) 11 cX12_finish none false 0 [.ref 187, .int (nI more), .int (nI m), .int (nI s), .int wv, .int (nI (k % c.1.2.length)), .float 0, .float 0, .float 0] [] S (fun r S' => r = none ∧ xFl (fun i q => i = 187 ∧ 64 ≤ q ∧ q ≤ 69) S S' ∧ xFz S' c (m ^^^ 2 ^ (xmh c ex m s k more)) s k (xmh c ex m s k more)) := by
  have hT := xzT_b ho ha ex m s k
  have he := xze_le c ex k
  have g24 := ho.g.H
  have h24 := x24 g24.2.1 hm
  have hP : xgP (xzg c) ≤ 12 := ho.g.2.1
  obtain ⟨x, hx, hb⟩ := xtb_ex hm h0
  have hr1 := xzR_pos (k := k) hx hb hs
  have hr2 : (xzR c m s k).length ≤ 24 := Nat.le_trans (xlu_le _ _ _ _ _) g24.2.1
  have eT : xzT c ex m s k = xsaL (xzN c (xzR c m s k)) (xzx c (xzs c k)) (xzr c (xzs c k)).2 0 + xze c ex k := rfl
  have kr := hr.1
  have v := hr.2 ((xzT c ex m s k + more - 1) % (xzR c m s k).length) (Nat.mod_lt _ (by omega))
  rw [show xzT c ex m s k + more - 1 = xzT c ex m s k - 1 + more by omega] at v
  have v : S.2.1 216 ((xzT c ex m s k - 1 + more) % (xzR c m s k).length) = nI (xmh c ex m s k more) := v
  have hmod2 := Nat.mod_lt (xzT c ex m s k - 1 + more) (show 0 < (xzR c m s k).length by omega)
  have er : nI (xzT c ex m s k + more - 1) - nI (xzT c ex m s k + more - 1) / nI (xzR c m s k).length * nI (xzR c m s k).length = nI ((xzT c ex m s k - 1 + more) % (xzR c m s k).length) := by
    rw [pk_rem (by omega) (by omega) (by omega), show xzT c ex m s k + more - 1 = xzT c ex m s k - 1 + more by omega]
  have hy : (xmh c ex m s k more) < xgH (xzg c) := xha_lt hs
  have hbit : m.testBit (xmh c ex m s k more) = true := xha_tb hs hr1
  have how := xow_lt hy
  have hm2 := xrm_lt hm hy
  have h242 := x24 g24.2.1 hm2
  obtain ⟨d1, d2, d3, d4, d5, d6, d7, d8, d9, d10, d11⟩ := hD
  have l1 := d8.1 1 (by decide)
  have l2 := d8.1 2 (by decide)
  have l3 := d8.1 3 (by decide)
  have l4 := d8.1 4 (by decide)
  have l5 := d8.1 5 (by decide)
  have b2 : c.1.1 2 ≤ 1 := ho.1.1 2 (by decide)
  have b4 : c.1.1 4 ≤ 1 := ho.1.1 4 (by decide)
  have hgl : c.1.1 5 < 2 ^ 30 := ho.g.2.2.2
  have hl1 := ho.1.2.2.1
  have hl4 := ho.1.2.2.2.1
  have hmod : k % c.1.2.length < c.1.2.length := Nat.mod_lt k (by omega)
  have F1 : xFl (fun i q => i = 187 ∧ 64 ≤ q ∧ q ≤ 69) S (xSI (xSI S 187 64 (nI (xmh c ex m s k more))) 187 65 (-1)) := ((xFl.rf S).SI ⟨rfl, by decide, by decide⟩).SI ⟨rfl, by decide, by decide⟩
  have X1 := F1.XC hX
  rcases Decidable.em (c.1.1 2 = 1) with w | w
  · have hst : xgs (xzg c) = true := decide_eq_true w
    have gp := m_personOf (h := (xmh c ex m s k more)) (d + 1) ho (by omega) X1 (F1.i l1 (by omega))
    have fin : xFl (fun i q => i = 187 ∧ 64 ≤ q ∧ q ≤ 69) S (xSI (xSI (xSI S 187 64 (nI (xmh c ex m s k more))) 187 65 (-1)) 187 65 (nI (2 ^ xow (xgf (xzg c)) (xmh c ex m s k more)))) ∧ xFz (xSI (xSI (xSI S 187 64 (nI (xmh c ex m s k more))) 187 65 (-1)) 187 65 (nI (2 ^ xow (xgf (xzg c)) (xmh c ex m s k more)))) c (m ^^^ 2 ^ (xmh c ex m s k more)) s k (xmh c ex m s k more) := ⟨F1.SI ⟨rfl, by decide, by decide⟩, xi (xi (xI_same _ _ _ _) (Or.inr (by decide))) (Or.inr (by decide)), fun _ => xI_same _ _ _ _, fun q => by rw [hst] at q; cases q⟩
    refine wp_aload_n dX12_finish_0 rfl rfl (wp_aload_n dX12_finish_1 rfl rfl (g11_342 dX12_finish_2 (xsh hX sh_187) (xrr hX r187_55) (wp_aload_n dX12_finish_5 rfl rfl (gv11_408 dX12_finish_6 (xsh hX sh_187) ks (wp_iload_n dX12_finish_9 rfl (wv_iadd dX12_finish_10 (nI_add _ _) (wp_iconst (v := nI 1) dX12_finish_11 rfl (wv_isub dX12_finish_12 (pk_sub (by omega)) (wp_aload_n dX12_finish_13 rfl rfl (gv11_405 dX12_finish_14 (xsh hX sh_187) kr (wv_irem dX12_finish_17 (nI_n0 (by omega) (by omega)) er (wn_iaload dX12_finish_18 (xsh hX sh_216) rfl (by omega) (by decide) v (p11_424 dX12_finish_19 (xsh hX sh_187) (wp_aload_n dX12_finish_22 rfl rfl (wp_iconst (v := -1) dX12_finish_23 rfl (p11_427 dX12_finish_24 (xsh hX sh_187) (wp_aload_n dX12_finish_27 rfl rfl (g11_272 dX12_finish_28 (xsh hX sh_187) (xrr hX r187_45) (wp_iconst (v := nI 2) dX12_finish_31 rfl (wn_iaload dX12_finish_32 (xsh hX sh_208) rfl (by omega) (by decide) (F1.i l2 (by omega)) (wp_iconst (v := nI 1) dX12_finish_33 rfl ?_)))))))))))))))))))))
    refine wn_icmp_ne dX12_finish_34 rfl (by omega) (by omega) (fun c34 => absurd c34 (by omega)) (fun c34 => ?_)
    exact wp_aload_n dX12_finish_37 rfl rfl (wp_iconst (v := nI 1) dX12_finish_38 rfl (wp_aload_n dX12_finish_39 rfl rfl (wp_aload_n dX12_finish_40 rfl rfl (gv11_424 dX12_finish_41 (xsh hX sh_187) (xi (xI_same _ _ _ _) (Or.inr (by decide))) (wp_iv2 dX12_finish_44 k11_418 q_X12_personOf (by decide) (xsh hX sh_187) (by decide) (Nat.le_of_ble_eq_true rfl) gp (wv_ishl dX12_finish_47 (xshl1 (by omega)) (p11_427 dX12_finish_48 (xsh hX sh_187) (wp_return dX12_finish_51 rfl ⟨rfl, fin⟩))))))))
  · have hst : xgs (xzg c) = false := decide_eq_false w
    have A3 : ∀ w3, xFl (fun i q => i = 187 ∧ 64 ≤ q ∧ q ≤ 69) S (xSI (xSI (xSI (xSI (xSI S 187 64 (nI (xmh c ex m s k more))) 187 65 (-1)) 187 66 (nI (m ^^^ 2 ^ (xmh c ex m s k more)))) 187 68 w3) 187 69 (nI ((k + 1) % c.1.2.length))) := fun w3 => ((F1.SI ⟨rfl, by decide, by decide⟩).SI ⟨rfl, by decide, by decide⟩).SI ⟨rfl, by decide, by decide⟩
    have rest : Wp false (d + 2) 11 cX12_finish none false 101 [.ref 187, .int (nI more), .int (nI m), .int (nI s), .int wv, .int (nI (k % c.1.2.length)), .float 0, .float 0, .float 0] [] (xSI (xSI (xSI (xSI (xSI S 187 64 (nI (xmh c ex m s k more))) 187 65 (-1)) 187 66 (nI (m ^^^ 2 ^ (xmh c ex m s k more)))) 187 68 (xwy (xbk (xzg c) (k + 1)))) 187 69 (nI ((k + 1) % c.1.2.length))) (fun r S' => r = none ∧ xFl (fun i q => i = 187 ∧ 64 ≤ q ∧ q ≤ 69) S S' ∧ xFz S' c (m ^^^ 2 ^ (xmh c ex m s k more)) s k (xmh c ex m s k more)) := by
      have F3 := A3 (xwy (xbk (xzg c) (k + 1)))
      have k64 : (xSI (xSI (xSI (xSI (xSI S 187 64 (nI (xmh c ex m s k more))) 187 65 (-1)) 187 66 (nI (m ^^^ 2 ^ (xmh c ex m s k more)))) 187 68 (xwy (xbk (xzg c) (k + 1)))) 187 69 (nI ((k + 1) % c.1.2.length))).2.1 187 64 = nI (xmh c ex m s k more) := xi (xi (xi (xi (xI_same _ _ _ _) (Or.inr (by decide))) (Or.inr (by decide))) (Or.inr (by decide))) (Or.inr (by decide))
      have k65 : (xSI (xSI (xSI (xSI (xSI S 187 64 (nI (xmh c ex m s k more))) 187 65 (-1)) 187 66 (nI (m ^^^ 2 ^ (xmh c ex m s k more)))) 187 68 (xwy (xbk (xzg c) (k + 1)))) 187 69 (nI ((k + 1) % c.1.2.length))).2.1 187 65 = -1 := xi (xi (xi (xI_same _ _ _ _) (Or.inr (by decide))) (Or.inr (by decide))) (Or.inr (by decide))
      have k66 : (xSI (xSI (xSI (xSI (xSI S 187 64 (nI (xmh c ex m s k more))) 187 65 (-1)) 187 66 (nI (m ^^^ 2 ^ (xmh c ex m s k more)))) 187 68 (xwy (xbk (xzg c) (k + 1)))) 187 69 (nI ((k + 1) % c.1.2.length))).2.1 187 66 = nI (m ^^^ 2 ^ (xmh c ex m s k more)) := xi (xi (xI_same _ _ _ _) (Or.inr (by decide))) (Or.inr (by decide))
      have k68 : (xSI (xSI (xSI (xSI (xSI S 187 64 (nI (xmh c ex m s k more))) 187 65 (-1)) 187 66 (nI (m ^^^ 2 ^ (xmh c ex m s k more)))) 187 68 (xwy (xbk (xzg c) (k + 1)))) 187 69 (nI ((k + 1) % c.1.2.length))).2.1 187 68 = xwy (xbk (xzg c) (k + 1)) := xi (xI_same _ _ _ _) (Or.inr (by decide))
      have k69 : (xSI (xSI (xSI (xSI (xSI S 187 64 (nI (xmh c ex m s k more))) 187 65 (-1)) 187 66 (nI (m ^^^ 2 ^ (xmh c ex m s k more)))) 187 68 (xwy (xbk (xzg c) (k + 1)))) 187 69 (nI ((k + 1) % c.1.2.length))).2.1 187 69 = nI ((k + 1) % c.1.2.length) := xI_same _ _ _ _
      generalize (xSI (xSI (xSI (xSI (xSI S 187 64 (nI (xmh c ex m s k more))) 187 65 (-1)) 187 66 (nI (m ^^^ 2 ^ (xmh c ex m s k more)))) 187 68 (xwy (xbk (xzg c) (k + 1)))) 187 69 (nI ((k + 1) % c.1.2.length))) = S3 at F3 k64 k65 k66 k68 k69 ⊢
      have X3 := F3.XC hX
      have kH := F3.i d1 (by omega)
      have p1 := F3.i l1 (by omega)
      have p3 := F3.i l3 (by omega)
      have p5 := F3.i l5 (by omega)
      have gp := m_peopleIn (m := (m ^^^ 2 ^ (xmh c ex m s k more))) (d + 0) ho hm2 X3 kH p1
      have hpm := xpm_lt hm2
      have hp12 : 2 ^ xgP (xzg c) ≤ 2 ^ 12 := Nat.pow_le_pow_right (by decide) hP
      have gm := m_many (b := xpm (xzg c) (m ^^^ 2 ^ (xmh c ex m s k more))) (S := S3) (d + 1) (by omega)
      rw [xcb_up (Nat.lt_of_lt_of_le hpm hp12) 24 (by decide)] at gm
      have hcb := xcb_le (xpm (xzg c) (m ^^^ 2 ^ (xmh c ex m s k more))) 12
      have eov : xovr (xzg c) (m ^^^ 2 ^ (xmh c ex m s k more)) = decide (xcb (xpm (xzg c) (m ^^^ 2 ^ (xmh c ex m s k more))) 12 ≤ c.1.1 5) := by
        unfold xovr
        rw [hst]
        rfl
      rcases Nat.lt_or_ge (c.1.1 5) (xcb (xpm (xzg c) (m ^^^ 2 ^ (xmh c ex m s k more))) 12) with q | q
      · rw [decide_eq_false (by omega)] at eov
        have hpos : 0 < (m ^^^ 2 ^ (xmh c ex m s k more)) := by
          rcases Nat.eq_zero_or_pos (m ^^^ 2 ^ (xmh c ex m s k more)) with z | z
          · rw [z, xovr_0 hst] at eov
            cases eov
          · exact z
        have nx := fn_next (d := d) (k := k) (x1 := .int (nI more)) (x2 := .int (nI m)) (x4 := .int wv) (x5 := .int (nI (k % c.1.2.length))) (x6 := (nI (xpm (xzg c) (m ^^^ 2 ^ (xmh c ex m s k more))))) ho hm2 hpos hs hy X3 kH k64 k66 k68 p3 p1 (Q := (fun r S' => r = none ∧ xFl (fun i q => i = 187 ∧ 64 ≤ q ∧ q ≤ 69) S S' ∧ xFz S' c (m ^^^ 2 ^ (xmh c ex m s k more)) s k (xmh c ex m s k more))) ⟨rfl, F3.SI ⟨rfl, by decide, by decide⟩, xi k64 (Or.inr (by decide)), fun e => (by rw [hst] at e; cases e), fun _ => ⟨xi k66 (Or.inr (by decide)), xi k68 (Or.inr (by decide)), xi k69 (Or.inr (by decide)), fun e => (by rw [eov] at e; cases e), fun _ => ⟨xi k65 (Or.inr (by decide)), xI_same _ _ _ _⟩⟩⟩
        refine wp_aload_n dX12_finish_101 rfl rfl (wp_aload_n dX12_finish_102 rfl rfl (gv11_430 dX12_finish_103 (xsh X3 sh_187) k66 (wp_iv2 dX12_finish_106 k11_439 q_X12_peopleIn (by decide) (xsh X3 sh_187) (by decide) (Nat.le_of_ble_eq_true rfl) gp (wp_istore dX12_finish_109 ⟨Nat.le_of_ble_eq_true rfl, Or.inr rfl⟩ rfl (wp_iload dX12_finish_111 rfl (wp_is1 dX12_finish_113 k11_442 q_X12_many (by decide) (Nat.le_of_ble_eq_true rfl) gm (wp_aload_n dX12_finish_116 rfl rfl (g11_272 dX12_finish_117 (xsh X3 sh_187) (xrr X3 r187_45) (wp_iconst (v := nI 5) dX12_finish_120 rfl (wn_iaload dX12_finish_121 (xsh X3 sh_208) rfl (by omega) (by decide) p5 ?_))))))))))
        refine wn_icmp_gt dX12_finish_122 rfl (by omega) (by omega) (fun c122 => ?_) (fun c122 => absurd c122 (by omega))
        exact nx
      · rw [decide_eq_true q] at eov
        have fin : xFl (fun i q => i = 187 ∧ 64 ≤ q ∧ q ≤ 69) S (xSI S3 187 65 (nI (xpm (xzg c) (m ^^^ 2 ^ (xmh c ex m s k more))))) ∧ xFz (xSI S3 187 65 (nI (xpm (xzg c) (m ^^^ 2 ^ (xmh c ex m s k more))))) c (m ^^^ 2 ^ (xmh c ex m s k more)) s k (xmh c ex m s k more) := ⟨F3.SI ⟨rfl, by decide, by decide⟩, xi k64 (Or.inr (by decide)), fun e => (by rw [hst] at e; cases e), fun _ => ⟨xi k66 (Or.inr (by decide)), xi k68 (Or.inr (by decide)), xi k69 (Or.inr (by decide)), fun _ => xI_same _ _ _ _, fun e => by rw [eov] at e; cases e⟩⟩
        refine wp_aload_n dX12_finish_101 rfl rfl (wp_aload_n dX12_finish_102 rfl rfl (gv11_430 dX12_finish_103 (xsh X3 sh_187) k66 (wp_iv2 dX12_finish_106 k11_439 q_X12_peopleIn (by decide) (xsh X3 sh_187) (by decide) (Nat.le_of_ble_eq_true rfl) gp (wp_istore dX12_finish_109 ⟨Nat.le_of_ble_eq_true rfl, Or.inr rfl⟩ rfl (wp_iload dX12_finish_111 rfl (wp_is1 dX12_finish_113 k11_442 q_X12_many (by decide) (Nat.le_of_ble_eq_true rfl) gm (wp_aload_n dX12_finish_116 rfl rfl (g11_272 dX12_finish_117 (xsh X3 sh_187) (xrr X3 r187_45) (wp_iconst (v := nI 5) dX12_finish_120 rfl (wn_iaload dX12_finish_121 (xsh X3 sh_208) rfl (by omega) (by decide) p5 ?_))))))))))
        refine wn_icmp_gt dX12_finish_122 rfl (by omega) (by omega) (fun c122 => absurd c122 (by omega)) (fun c122 => ?_)
        exact wp_aload_n dX12_finish_125 rfl rfl (wp_iload dX12_finish_126 rfl (p11_427 dX12_finish_128 (xsh X3 sh_187) (wp_return dX12_finish_131 rfl ⟨rfl, fin⟩)))
    have em : (nI ((k % c.1.2.length + 1)) - nI ((k % c.1.2.length + 1)) / nI c.1.2.length * nI c.1.2.length) = nI ((k + 1) % c.1.2.length) := by
      rw [pk_rem (by omega) (by omega) (by omega), Nat.mod_add_mod]
    have A2 : ∀ w3, xFl (fun i q => i = 187 ∧ 64 ≤ q ∧ q ≤ 69) S (xSI (xSI (xSI (xSI S 187 64 (nI (xmh c ex m s k more))) 187 65 (-1)) 187 66 (nI (m ^^^ 2 ^ (xmh c ex m s k more)))) 187 68 w3) := fun w3 => (F1.SI ⟨rfl, by decide, by decide⟩).SI ⟨rfl, by decide, by decide⟩
    have A1 : xFl (fun i q => i = 187 ∧ 64 ≤ q ∧ q ≤ 69) S (xSI (xSI (xSI S 187 64 (nI (xmh c ex m s k more))) 187 65 (-1)) 187 66 (nI (m ^^^ 2 ^ (xmh c ex m s k more)))) := F1.SI ⟨rfl, by decide, by decide⟩
    cases ht : xgt (xzg c) with
    | true =>
      have h4 : c.1.1 4 = 1 := of_decide_eq_true ht
      have nw := hw1 ht
      refine wp_aload_n dX12_finish_0 rfl rfl (wp_aload_n dX12_finish_1 rfl rfl (g11_342 dX12_finish_2 (xsh hX sh_187) (xrr hX r187_55) (wp_aload_n dX12_finish_5 rfl rfl (gv11_408 dX12_finish_6 (xsh hX sh_187) ks (wp_iload_n dX12_finish_9 rfl (wv_iadd dX12_finish_10 (nI_add _ _) (wp_iconst (v := nI 1) dX12_finish_11 rfl (wv_isub dX12_finish_12 (pk_sub (by omega)) (wp_aload_n dX12_finish_13 rfl rfl (gv11_405 dX12_finish_14 (xsh hX sh_187) kr (wv_irem dX12_finish_17 (nI_n0 (by omega) (by omega)) er (wn_iaload dX12_finish_18 (xsh hX sh_216) rfl (by omega) (by decide) v (p11_424 dX12_finish_19 (xsh hX sh_187) (wp_aload_n dX12_finish_22 rfl rfl (wp_iconst (v := -1) dX12_finish_23 rfl (p11_427 dX12_finish_24 (xsh hX sh_187) (wp_aload_n dX12_finish_27 rfl rfl (g11_272 dX12_finish_28 (xsh hX sh_187) (xrr hX r187_45) (wp_iconst (v := nI 2) dX12_finish_31 rfl (wn_iaload dX12_finish_32 (xsh hX sh_208) rfl (by omega) (by decide) (F1.i l2 (by omega)) (wp_iconst (v := nI 1) dX12_finish_33 rfl ?_)))))))))))))))))))))
      refine wn_icmp_ne dX12_finish_34 rfl (by omega) (by omega) (fun c34 => ?_) (fun c34 => absurd c34 (by omega))
      refine wp_aload_n dX12_finish_52 rfl rfl (wp_iload_n dX12_finish_53 rfl (wp_iconst (v := nI 1) dX12_finish_54 rfl (wp_aload_n dX12_finish_55 rfl rfl (gv11_424 dX12_finish_56 (xsh hX sh_187) (xi (xI_same _ _ _ _) (Or.inr (by decide))) (wv_ishl dX12_finish_59 (xshl1 (by omega)) (wp_iconst (v := -1) dX12_finish_60 rfl (wp_ixor dX12_finish_61 (wv_iand dX12_finish_62 (xrmb (by omega) hbit) (p11_430 dX12_finish_63 (xsh hX sh_187) (wp_aload_n dX12_finish_66 rfl rfl (wp_aload_n dX12_finish_67 rfl rfl (g11_272 dX12_finish_68 (xsh hX sh_187) (xrr hX r187_45) (wp_iconst (v := nI 4) dX12_finish_71 rfl (wn_iaload dX12_finish_72 (xsh hX sh_208) rfl (by omega) (by decide) (A1.i l4 (by omega)) (wp_iconst (v := nI 1) dX12_finish_73 rfl ?_)))))))))))))))
      refine wn_icmp_ne dX12_finish_74 rfl (by omega) (by omega) (fun c74 => absurd c74 (by omega)) (fun c74 => ?_)
      exact wp_iload dX12_finish_77 rfl (wv_ineg dX12_finish_79 nw (wp_goto dX12_finish_80 rfl (p11_433 dX12_finish_85 (xsh hX sh_187) (wp_aload_n dX12_finish_88 rfl rfl (wp_iload dX12_finish_89 rfl (wp_iconst (v := nI 1) dX12_finish_91 rfl (wv_iadd dX12_finish_92 (nI_add _ _) (wp_aload_n dX12_finish_93 rfl rfl (gv11_385 dX12_finish_94 (xsh hX sh_187) ((A2 _).i d2 (by omega)) (wv_irem dX12_finish_97 (nI_n0 (by omega) (by omega)) em (p11_436 dX12_finish_98 (xsh hX sh_187) rest)))))))))))
    | false =>
      have h4 : ¬ c.1.1 4 = 1 := of_decide_eq_false ht
      have nw := hw2 ht
      subst nw
      refine wp_aload_n dX12_finish_0 rfl rfl (wp_aload_n dX12_finish_1 rfl rfl (g11_342 dX12_finish_2 (xsh hX sh_187) (xrr hX r187_55) (wp_aload_n dX12_finish_5 rfl rfl (gv11_408 dX12_finish_6 (xsh hX sh_187) ks (wp_iload_n dX12_finish_9 rfl (wv_iadd dX12_finish_10 (nI_add _ _) (wp_iconst (v := nI 1) dX12_finish_11 rfl (wv_isub dX12_finish_12 (pk_sub (by omega)) (wp_aload_n dX12_finish_13 rfl rfl (gv11_405 dX12_finish_14 (xsh hX sh_187) kr (wv_irem dX12_finish_17 (nI_n0 (by omega) (by omega)) er (wn_iaload dX12_finish_18 (xsh hX sh_216) rfl (by omega) (by decide) v (p11_424 dX12_finish_19 (xsh hX sh_187) (wp_aload_n dX12_finish_22 rfl rfl (wp_iconst (v := -1) dX12_finish_23 rfl (p11_427 dX12_finish_24 (xsh hX sh_187) (wp_aload_n dX12_finish_27 rfl rfl (g11_272 dX12_finish_28 (xsh hX sh_187) (xrr hX r187_45) (wp_iconst (v := nI 2) dX12_finish_31 rfl (wn_iaload dX12_finish_32 (xsh hX sh_208) rfl (by omega) (by decide) (F1.i l2 (by omega)) (wp_iconst (v := nI 1) dX12_finish_33 rfl ?_)))))))))))))))))))))
      refine wn_icmp_ne dX12_finish_34 rfl (by omega) (by omega) (fun c34 => ?_) (fun c34 => absurd c34 (by omega))
      refine wp_aload_n dX12_finish_52 rfl rfl (wp_iload_n dX12_finish_53 rfl (wp_iconst (v := nI 1) dX12_finish_54 rfl (wp_aload_n dX12_finish_55 rfl rfl (gv11_424 dX12_finish_56 (xsh hX sh_187) (xi (xI_same _ _ _ _) (Or.inr (by decide))) (wv_ishl dX12_finish_59 (xshl1 (by omega)) (wp_iconst (v := -1) dX12_finish_60 rfl (wp_ixor dX12_finish_61 (wv_iand dX12_finish_62 (xrmb (by omega) hbit) (p11_430 dX12_finish_63 (xsh hX sh_187) (wp_aload_n dX12_finish_66 rfl rfl (wp_aload_n dX12_finish_67 rfl rfl (g11_272 dX12_finish_68 (xsh hX sh_187) (xrr hX r187_45) (wp_iconst (v := nI 4) dX12_finish_71 rfl (wn_iaload dX12_finish_72 (xsh hX sh_208) rfl (by omega) (by decide) (A1.i l4 (by omega)) (wp_iconst (v := nI 1) dX12_finish_73 rfl ?_)))))))))))))))
      refine wn_icmp_ne dX12_finish_74 rfl (by omega) (by omega) (fun c74 => ?_) (fun c74 => absurd c74 (by omega))
      exact wp_iload dX12_finish_83 rfl (p11_433 dX12_finish_85 (xsh hX sh_187) (wp_aload_n dX12_finish_88 rfl rfl (wp_iload dX12_finish_89 rfl (wp_iconst (v := nI 1) dX12_finish_91 rfl (wv_iadd dX12_finish_92 (nI_add _ _) (wp_aload_n dX12_finish_93 rfl rfl (gv11_385 dX12_finish_94 (xsh hX sh_187) ((A2 _).i d2 (by omega)) (wv_irem dX12_finish_97 (nI_n0 (by omega) (by omega)) em (p11_436 dX12_finish_98 (xsh hX sh_187) rest)))))))))
theorem m_finish {c : xPx} {ex m s k more : Nat} (d : Nat) (ho : xzo c) (ha : xzal c = true) (hm : m < 2 ^ xgH (xzg c)) (h0 : 0 < m) (hs : s < xgH (xzg c)) (hex : ex ≤ 1000) (hmore : more ≤ 100) {S : xS} (hX : XC S) (hD : xMpd S c ex) (hr : xMr S (xzR c m s k)) (ks : S.2.1 187 62 = nI (xzT c ex m s k)) : ∃ S', xcall false (d + 2) j_X12_finish [.ref 187, .int (nI more), .int (nI m), .int (nI s), .int (xwy (xbk (xzg c) k)), .int (nI (k % c.1.2.length))] S none S' ∧ xFl (fun i q => i = 187 ∧ 64 ≤ q ∧ q ≤ 69) S S' ∧ xFz S' c (m ^^^ 2 ^ (xmh c ex m s k more)) s k (xmh c ex m s k more) := by
  obtain ⟨r, S', g1, rfl, z⟩ := xcall_some (al := false) (d := d + 2) (ls := [.ref 187, .int (nI more), .int (nI m), .int (nI s), .int (xwy (xbk (xzg c) k)), .int (nI (k % c.1.2.length)), .float 0, .float 0, .float 0]) (S := S) (as := [.ref 187, .int (nI more), .int (nI m), .int (nI s), .int (xwy (xbk (xzg c) k)), .int (nI (k % c.1.2.length))]) q_X12_finish (by decide) rfl (Nat.le_of_ble_eq_true rfl) rfl (fn_all ho ha hm h0 hs hex hmore hX hD hr ks (fun h => xwy_neg h) (fun h => xwy_keep h))
  exact ⟨S', g1, z⟩
