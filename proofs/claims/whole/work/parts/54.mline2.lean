/-! A RHYME's text: a line of the reference, whole -/
def xLO (t : Nat → Nat) (n p : Nat) (D : List xLn) (S S' : xS) (b : Bool) : Prop :=
  (b = false → ∃ e z, xra t (min n 240) (decide (min n 240 < n)) (min n 240 - p) (0, D, 1, 0, [], (0, 0, 0)) = .error (e, z) ∧ S'.2.1 187 9 = nI e ∧ S'.2.1 187 10 = nI z) ∧
  (b = true → ∃ tm st I o p', xra t (min n 240) (decide (min n 240 < n)) (min n 240 - p) (0, D, 1, 0, [], (0, 0, 0)) = xra t (min n 240) (decide (min n 240 < n)) (min n 240 - p') ((if o.1 = 4 then 6 else 5), D, tm, st, I, o) ∧ p < p' ∧ p' ≤ min n 240 ∧ tm < 10 ∧ (∀ x ∈ I ++ [o], x.1 ≤ 4) ∧ (o.1 = 4 → p' = min n 240 ∧ min n 240 = n) ∧ (o.1 ≠ 4 → p' < min n 240 → t p' ≠ 32) ∧ S'.2.1 187 4 = nI p' ∧ S'.2.1 187 9 = S.2.1 187 9 ∧ 2 * ((D ++ [(tm, st, I ++ [o])]).flatMap xmit).length ≤ p' + 1 ∧ xMA S' ((D ++ [(tm, st, I ++ [o])]).flatMap xmit) ∧ xMLn S' (D ++ [(tm, st, I ++ [o])]))
def xLQ (t : Nat → Nat) (n p : Nat) (D : List xLn) (S : xS) (r : Option Value) (S' : xS) : Prop := ∃ b, r = some (.int (xB b)) ∧ xFl xFL2 S S' ∧ xLO t n p D S S' b
theorem xML_end {S1 S3 : xS} {D : List xLn} {tm st : Nat} {I : List xIt} (h1 : S3.2.1 187 40 = nI (D.length + 1)) (h2 : ∀ l, l ≤ D.length → S3.2.1 201 (102 + l) = nI (xof xmit D l)) (h3 : S3.2.1 201 (102 + (D.length + 1)) = nI ((D ++ [(tm, st, I)]).flatMap xmit).length) (h4 : ∀ l, l < D.length → S3.2.1 202 (96 + l) = nI (D.getD l (0, 0, [])).1) (h5 : S3.2.1 202 (96 + D.length) = nI tm) : xMLn S3 (D ++ [(tm, st, I)]) := by
  have hl := xlen1 D (tm, st, I)
  refine ⟨by rw [hl]; exact h1, fun _ l hlt => ?_, fun l hlt => ?_⟩
  · rw [hl] at hlt
    rcases Nat.lt_or_ge D.length l with w | w
    · have : l = D.length + 1 := by omega
      subst this
      rw [h3, ← hl, xof_all]
    · rw [xof_app _ _ _ _ w]
      exact h2 l w
  · rw [hl] at hlt
    rw [xgA D (tm, st, I) (0, 0, []) l (by rw [hl]; exact hlt)]
    split
    · rename_i w; exact h4 l w
    · rw [show l = D.length by omega]; exact h5
theorem xlast {M : List xIt} {o : xIt} {S : xS} (h : xMA S (M ++ [o])) : S.2.1 198 (732 + (M ++ [o]).length - 1) = nI o.1 := by
  have hl := xlen1 M o
  have h1 := (h.2 M.length (by rw [hl]; omega)).1
  rw [xgA M o (0, 0, 0) M.length (by rw [hl]; omega), if_neg (by omega)] at h1
  rw [show 732 + (M ++ [o]).length - 1 = 732 + M.length by omega]
  exact h1
theorem ml_219 {n p p' tm st d : Nat} {t : Nat → Nat} {D : List xLn} {I : List xIt} {o : xIt} {S S1 : xS} {x2 : Value} (htm : tm < 10) (hD : D.length < 16) (X1 : XC S1) (T1 : xTxM S1 n t) (hx : xra t (min n 240) (decide (min n 240 < n)) (min n 240 - p) (0, D, 1, 0, [], (0, 0, 0)) = xra t (min n 240) (decide (min n 240 < n)) (min n 240 - p') ((if o.1 = 4 then 6 else 5), D, tm, st, I, o)) (hpp : p < p') (hpm : p' ≤ min n 240) (hst : o.1 ≠ 4 → p' < min n 240 → t p' ≠ 32) (ho : ∀ x ∈ I ++ [o], x.1 ≤ 4) (ff : xFl xFL2 S S1) (hA : xMA S1 ((D ++ [(tm, st, I ++ [o])]).flatMap xmit)) (h4 : S1.2.1 187 4 = nI p') (h9 : S1.2.1 187 9 = S.2.1 187 9) (h2 : 2 * ((D ++ [(tm, st, I ++ [o])]).flatMap xmit).length ≤ p' + 1) (h40 : S1.2.1 187 40 = nI D.length) (l1 : ∀ l, l ≤ D.length → S1.2.1 201 (102 + l) = nI (xof xmit D l)) (l2 : ∀ l, l < D.length → S1.2.1 202 (96 + l) = nI (D.getD l (0, 0, [])).1) (l3 : S1.2.1 202 (96 + D.length) = nI tm) : Wp false (d + 3) 11 cX12_line (some .boolean) false 219 [.ref 187, .int (nI tm), x2] [] S1 (xLQ t n p D S) := by
  have hle := T1.2.1
  have ho4 : o.1 ≤ 4 := ho o (by simp)
  have h39 : S1.2.1 187 39 = nI ((D ++ [(tm, st, I ++ [o])]).flatMap xmit).length := hA.1
  have hfl : (D ++ [(tm, st, I ++ [o])]).flatMap xmit = (D.flatMap xmit ++ I) ++ [o] := by rw [xflat_snoc, List.append_assoc]; rfl
  have F0 : xFl (fun i k => (i = 187 ∧ k = 40) ∨ (i = 201 ∧ k = 102 + (D.length + 1))) S1 (xSI (xSI S1 187 40 (nI (D.length + 1))) 201 (102 + (D.length + 1)) (nI ((D ++ [(tm, st, I ++ [o])]).flatMap xmit).length)) := ((xFl.rf S1).SI (Or.inl ⟨rfl, rfl⟩)).SI (Or.inr ⟨rfl, rfl⟩)
  have F3 : xFl xFL2 S (xSI (xSI S1 187 40 (nI (D.length + 1))) 201 (102 + (D.length + 1)) (nI ((D ++ [(tm, st, I ++ [o])]).flatMap xmit).length)) := ff.tt (F0.mono (fun i k h => by unfold xFL2; omega))
  have X3 := F0.XC X1
  have T3 : xTxM (xSI (xSI S1 187 40 (nI (D.length + 1))) 201 (102 + (D.length + 1)) (nI ((D ++ [(tm, st, I ++ [o])]).flatMap xmit).length)) n t := T1.fr F0 (by omega) (fun k => by omega)
  have A3 := hA.fr F0 (fun i k h => by omega)
  have p3 : (xSI (xSI S1 187 40 (nI (D.length + 1))) 201 (102 + (D.length + 1)) (nI ((D ++ [(tm, st, I ++ [o])]).flatMap xmit).length)).2.1 187 4 = nI p' := F0.i h4 (by omega)
  have q9 : (xSI (xSI S1 187 40 (nI (D.length + 1))) 201 (102 + (D.length + 1)) (nI ((D ++ [(tm, st, I ++ [o])]).flatMap xmit).length)).2.1 187 9 = S.2.1 187 9 := F0.i h9 (by omega)
  have hlast : (xSI (xSI S1 187 40 (nI (D.length + 1))) 201 (102 + (D.length + 1)) (nI ((D ++ [(tm, st, I ++ [o])]).flatMap xmit).length)).2.1 198 (732 + ((D ++ [(tm, st, I ++ [o])]).flatMap xmit).length - 1) = nI o.1 := by
    have := A3
    rw [hfl] at this ⊢
    exact xlast this
  have LN := xML_end (S1 := S1) (S3 := xSI (xSI S1 187 40 (nI (D.length + 1))) 201 (102 + (D.length + 1)) (nI ((D ++ [(tm, st, I ++ [o])]).flatMap xmit).length)) (D := D) (tm := tm) (st := st) (I := I ++ [o]) (xi (xI_same _ _ _ _) (Or.inl (by decide))) (fun l hl => F0.i (l1 l hl) (by omega)) (xI_same _ _ _ _) (fun l hl => F0.i (l2 l hl) (by omega)) (F0.i l3 (by omega))
  have hpos : 1 ≤ ((D ++ [(tm, st, I ++ [o])]).flatMap xmit).length := by rw [hfl, xlen1]; omega
  have good (w4 : o.1 = 4 → p' = min n 240 ∧ min n 240 = n) : xLO t n p D S (xSI (xSI S1 187 40 (nI (D.length + 1))) 201 (102 + (D.length + 1)) (nI ((D ++ [(tm, st, I ++ [o])]).flatMap xmit).length)) true :=
    ⟨fun e => (by cases e), fun _ => ⟨tm, st, I, o, p', hx, hpp, hpm, htm, ho, w4, hst, p3, q9, h2, A3, LN⟩⟩
  have gb := m_isBeyond (d + 2) X3 T3 p3 hpm
  have gbad := m_bad (d + 1) X3 T3 p3 hpm
  generalize hS3 : xSI (xSI S1 187 40 (nI (D.length + 1))) 201 (102 + (D.length + 1)) (nI ((D ++ [(tm, st, I ++ [o])]).flatMap xmit).length) = S3 at F3 X3 T3 A3 p3 q9 hlast LN good gb gbad
  rcases Decidable.em (o.1 = 4) with e4 | e4
  · have bad (EX : xra t (min n 240) (decide (min n 240 < n)) (min n 240 - p) (0, D, 1, 0, [], (0, 0, 0)) = .error (1, p')) : xFl xFL2 S (xSI (xSI S3 187 9 (nI 1)) 187 10 (nI p')) ∧ xLO t n p D S (xSI (xSI S3 187 9 (nI 1)) 187 10 (nI p')) false :=
      ⟨(F3.SI (Or.inl ⟨rfl, by omega⟩)).SI (Or.inl ⟨rfl, by omega⟩), fun _ => ⟨1, p', EX, xi (xI_same _ _ _ _) (Or.inr (by decide)), xI_same _ _ _ _⟩, fun e => (by cases e)⟩
    rw [if_pos e4] at hx
    rcases Nat.lt_or_ge p' (min n 240) with hl | hl
    · have EX : xra t (min n 240) (decide (min n 240 < n)) (min n 240 - p) (0, D, 1, 0, [], (0, 0, 0)) = .error (1, p') := by
        rw [hx]
        refine xra_err hl ?_
        unfold xst
        rw [if_neg (by decide), if_neg (by decide), if_neg (by decide), if_neg (by decide), if_neg (by decide), if_neg (by decide)]
      obtain ⟨fb, qb⟩ := bad EX
      rw [show decide (240 < n ∧ 240 ≤ p') = false from decide_eq_false (by omega)] at gb
      have hs3 := T3.1
      subst hS3
      refine wp_aload_n dX12_line_219 rfl rfl (wp_dup dX12_line_220 rfl (gv11_198 dX12_line_221 (xsh X1 sh_187) h40 (wp_iconst (v := nI 1) dX12_line_224 rfl (wv_iadd dX12_line_225 (nI_add _ _) (p11_198 dX12_line_226 (xsh X1 sh_187) (wp_aload_n dX12_line_229 rfl rfl (g11_216 dX12_line_230 (xsh X1 sh_187) (xrr X1 r187_35) (wp_bipush (v := nI 102) dX12_line_233 rfl (wp_aload_n dX12_line_235 rfl rfl (gv11_198 dX12_line_236 (xsh X1 sh_187) (xI_same _ _ _ _) (wv_iadd dX12_line_239 (nI_add _ _) (wp_aload_n dX12_line_240 rfl rfl (gv11_195 dX12_line_241 (xsh X1 sh_187) (xi h39 (Or.inr (by decide))) (wn_iastore dX12_line_244 (xsh X1 sh_201) rfl (by omega) (by decide) (wp_aload_n dX12_line_245 rfl rfl (g11_207 dX12_line_246 (xsh X1 sh_187) (xrr X1 r187_32) (wp_sipush (v := nI 732) dX12_line_249 rfl (wp_aload_n dX12_line_252 rfl rfl (gv11_195 dX12_line_253 (xsh X1 sh_187) (xi (xi h39 (Or.inr (by decide))) (Or.inl (by decide))) (wv_iadd dX12_line_256 (nI_add _ _) (wp_iconst (v := nI 1) dX12_line_257 rfl (wv_isub dX12_line_258 (pk_sub (by omega)) (wn_iaload dX12_line_259 (xsh X1 sh_198) rfl (by omega) (by decide) hlast (wp_iconst (v := nI 4) dX12_line_260 rfl ?_))))))))))))))))))))))))
      refine wn_icmp_ne dX12_line_261 rfl (by omega) (by omega) (fun c261 => absurd c261 (by omega)) (fun c261 => ?_)
      refine wp_aload_n dX12_line_264 rfl rfl (wp_iv1 dX12_line_265 k11_192 q_X12_isBeyond (by decide) (xsh X1 sh_187) (by decide) (Nat.le_of_ble_eq_true rfl) gb ?_)
      refine wb_if_ne dX12_line_268 rfl (fun c268 => absurd c268 (by decide)) (fun c268 => ?_)
      refine wp_aload_n dX12_line_271 rfl rfl (gv11_21 dX12_line_272 (xsh X1 sh_187) p3 (wp_aload_n dX12_line_275 rfl rfl (gv11_18 dX12_line_276 (xsh X1 sh_187) hs3 ?_)))
      refine wn_icmp_ge dX12_line_279 rfl (by omega) (by omega) (fun c279 => absurd c279 (by omega)) (fun c279 => ?_)
      exact wp_aload_n dX12_line_282 rfl rfl (wp_iv1 dX12_line_283 k11_204 q_X12_bad (by decide) (xsh X1 sh_187) (by decide) (Nat.le_of_ble_eq_true rfl) gbad (wb_ret dX12_line_286 rfl rfl ⟨false, rfl, fb, qb⟩))
    · have hpe : p' = min n 240 := by omega
      rcases Nat.lt_or_ge (min n 240) n with hb | hb
      · have EX : xra t (min n 240) (decide (min n 240 < n)) (min n 240 - p) (0, D, 1, 0, [], (0, 0, 0)) = .error (1, p') := by
          rw [hx, hpe, Nat.sub_self]
          unfold xra
          rw [if_pos (Or.inl (decide_eq_true hb))]
        obtain ⟨fb, qb⟩ := bad EX
        rw [show decide (240 < n ∧ 240 ≤ p') = true from decide_eq_true (by omega)] at gb
        subst hS3
        refine wp_aload_n dX12_line_219 rfl rfl (wp_dup dX12_line_220 rfl (gv11_198 dX12_line_221 (xsh X1 sh_187) h40 (wp_iconst (v := nI 1) dX12_line_224 rfl (wv_iadd dX12_line_225 (nI_add _ _) (p11_198 dX12_line_226 (xsh X1 sh_187) (wp_aload_n dX12_line_229 rfl rfl (g11_216 dX12_line_230 (xsh X1 sh_187) (xrr X1 r187_35) (wp_bipush (v := nI 102) dX12_line_233 rfl (wp_aload_n dX12_line_235 rfl rfl (gv11_198 dX12_line_236 (xsh X1 sh_187) (xI_same _ _ _ _) (wv_iadd dX12_line_239 (nI_add _ _) (wp_aload_n dX12_line_240 rfl rfl (gv11_195 dX12_line_241 (xsh X1 sh_187) (xi h39 (Or.inr (by decide))) (wn_iastore dX12_line_244 (xsh X1 sh_201) rfl (by omega) (by decide) (wp_aload_n dX12_line_245 rfl rfl (g11_207 dX12_line_246 (xsh X1 sh_187) (xrr X1 r187_32) (wp_sipush (v := nI 732) dX12_line_249 rfl (wp_aload_n dX12_line_252 rfl rfl (gv11_195 dX12_line_253 (xsh X1 sh_187) (xi (xi h39 (Or.inr (by decide))) (Or.inl (by decide))) (wv_iadd dX12_line_256 (nI_add _ _) (wp_iconst (v := nI 1) dX12_line_257 rfl (wv_isub dX12_line_258 (pk_sub (by omega)) (wn_iaload dX12_line_259 (xsh X1 sh_198) rfl (by omega) (by decide) hlast (wp_iconst (v := nI 4) dX12_line_260 rfl ?_))))))))))))))))))))))))
        refine wn_icmp_ne dX12_line_261 rfl (by omega) (by omega) (fun c261 => absurd c261 (by omega)) (fun c261 => ?_)
        refine wp_aload_n dX12_line_264 rfl rfl (wp_iv1 dX12_line_265 k11_192 q_X12_isBeyond (by decide) (xsh X1 sh_187) (by decide) (Nat.le_of_ble_eq_true rfl) gb ?_)
        refine wb_if_ne dX12_line_268 rfl (fun c268 => ?_) (fun c268 => absurd c268 (by decide))
        exact wp_aload_n dX12_line_282 rfl rfl (wp_iv1 dX12_line_283 k11_204 q_X12_bad (by decide) (xsh X1 sh_187) (by decide) (Nat.le_of_ble_eq_true rfl) gbad (wb_ret dX12_line_286 rfl rfl ⟨false, rfl, fb, qb⟩))
      · have qq := good (fun _ => ⟨hpe, by omega⟩)
        rw [show decide (240 < n ∧ 240 ≤ p') = false from decide_eq_false (by omega)] at gb
        have hs3 := T3.1
        subst hS3
        refine wp_aload_n dX12_line_219 rfl rfl (wp_dup dX12_line_220 rfl (gv11_198 dX12_line_221 (xsh X1 sh_187) h40 (wp_iconst (v := nI 1) dX12_line_224 rfl (wv_iadd dX12_line_225 (nI_add _ _) (p11_198 dX12_line_226 (xsh X1 sh_187) (wp_aload_n dX12_line_229 rfl rfl (g11_216 dX12_line_230 (xsh X1 sh_187) (xrr X1 r187_35) (wp_bipush (v := nI 102) dX12_line_233 rfl (wp_aload_n dX12_line_235 rfl rfl (gv11_198 dX12_line_236 (xsh X1 sh_187) (xI_same _ _ _ _) (wv_iadd dX12_line_239 (nI_add _ _) (wp_aload_n dX12_line_240 rfl rfl (gv11_195 dX12_line_241 (xsh X1 sh_187) (xi h39 (Or.inr (by decide))) (wn_iastore dX12_line_244 (xsh X1 sh_201) rfl (by omega) (by decide) (wp_aload_n dX12_line_245 rfl rfl (g11_207 dX12_line_246 (xsh X1 sh_187) (xrr X1 r187_32) (wp_sipush (v := nI 732) dX12_line_249 rfl (wp_aload_n dX12_line_252 rfl rfl (gv11_195 dX12_line_253 (xsh X1 sh_187) (xi (xi h39 (Or.inr (by decide))) (Or.inl (by decide))) (wv_iadd dX12_line_256 (nI_add _ _) (wp_iconst (v := nI 1) dX12_line_257 rfl (wv_isub dX12_line_258 (pk_sub (by omega)) (wn_iaload dX12_line_259 (xsh X1 sh_198) rfl (by omega) (by decide) hlast (wp_iconst (v := nI 4) dX12_line_260 rfl ?_))))))))))))))))))))))))
        refine wn_icmp_ne dX12_line_261 rfl (by omega) (by omega) (fun c261 => absurd c261 (by omega)) (fun c261 => ?_)
        refine wp_aload_n dX12_line_264 rfl rfl (wp_iv1 dX12_line_265 k11_192 q_X12_isBeyond (by decide) (xsh X1 sh_187) (by decide) (Nat.le_of_ble_eq_true rfl) gb ?_)
        refine wb_if_ne dX12_line_268 rfl (fun c268 => absurd c268 (by decide)) (fun c268 => ?_)
        refine wp_aload_n dX12_line_271 rfl rfl (gv11_21 dX12_line_272 (xsh X1 sh_187) p3 (wp_aload_n dX12_line_275 rfl rfl (gv11_18 dX12_line_276 (xsh X1 sh_187) hs3 ?_)))
        refine wn_icmp_ge dX12_line_279 rfl (by omega) (by omega) (fun c279 => ?_) (fun c279 => absurd c279 (by omega))
        exact wp_iconst (v := nI 1) dX12_line_287 rfl (wb_ret dX12_line_288 rfl rfl ⟨true, rfl, F3, qq⟩)
  · have qq := good (fun w => absurd w e4)
    subst hS3
    refine wp_aload_n dX12_line_219 rfl rfl (wp_dup dX12_line_220 rfl (gv11_198 dX12_line_221 (xsh X1 sh_187) h40 (wp_iconst (v := nI 1) dX12_line_224 rfl (wv_iadd dX12_line_225 (nI_add _ _) (p11_198 dX12_line_226 (xsh X1 sh_187) (wp_aload_n dX12_line_229 rfl rfl (g11_216 dX12_line_230 (xsh X1 sh_187) (xrr X1 r187_35) (wp_bipush (v := nI 102) dX12_line_233 rfl (wp_aload_n dX12_line_235 rfl rfl (gv11_198 dX12_line_236 (xsh X1 sh_187) (xI_same _ _ _ _) (wv_iadd dX12_line_239 (nI_add _ _) (wp_aload_n dX12_line_240 rfl rfl (gv11_195 dX12_line_241 (xsh X1 sh_187) (xi h39 (Or.inr (by decide))) (wn_iastore dX12_line_244 (xsh X1 sh_201) rfl (by omega) (by decide) (wp_aload_n dX12_line_245 rfl rfl (g11_207 dX12_line_246 (xsh X1 sh_187) (xrr X1 r187_32) (wp_sipush (v := nI 732) dX12_line_249 rfl (wp_aload_n dX12_line_252 rfl rfl (gv11_195 dX12_line_253 (xsh X1 sh_187) (xi (xi h39 (Or.inr (by decide))) (Or.inl (by decide))) (wv_iadd dX12_line_256 (nI_add _ _) (wp_iconst (v := nI 1) dX12_line_257 rfl (wv_isub dX12_line_258 (pk_sub (by omega)) (wn_iaload dX12_line_259 (xsh X1 sh_198) rfl (by omega) (by decide) hlast (wp_iconst (v := nI 4) dX12_line_260 rfl ?_))))))))))))))))))))))))
    refine wn_icmp_ne dX12_line_261 rfl (by omega) (by omega) (fun c261 => ?_) (fun c261 => absurd c261 (by omega))
    exact wp_iconst (v := nI 1) dX12_line_287 rfl (wb_ret dX12_line_288 rfl rfl ⟨true, rfl, F3, qq⟩)
theorem ml_107 {n p p1 tm st d : Nat} {t : Nat → Nat} {D : List xLn} {S S1 : xS} {x2 : Value} (htm : tm < 10) (hD : D.length < 16) (X1 : XC S1) (T1 : xTxM S1 n t) (hx : xra t (min n 240) (decide (min n 240 < n)) (min n 240 - p) (0, D, 1, 0, [], (0, 0, 0)) = xra t (min n 240) (decide (min n 240 < n)) (min n 240 - p1) (3, D, tm, st, [], (0, 0, 0))) (hpp : p ≤ p1) (hpm : p1 ≤ min n 240) (f1 : xFl (fun i k => i = 187 ∧ k = 4) S S1) (hA : xMA S (D.flatMap xmit)) (hL : xMLn S D) (h4 : S1.2.1 187 4 = nI p1) (h2 : 2 * (D.flatMap xmit).length ≤ p1) : Wp false (d + 3) 11 cX12_line (some .boolean) false 107 [.ref 187, .int (nI tm), x2] [] S1 (xLQ t n p D S) := by
  have hle := T1.2.1
  have A1 := hA.fr f1 (fun i k h => by omega)
  have L1 := hL.fr f1 (fun i k h => by omega)
  have h40 := L1.1
  have h39 := A1.1
  have F0 : xFl (fun i k => (i = 201 ∧ k = 102 + D.length) ∨ (i = 202 ∧ k = 96 + D.length)) S1 (xSI (xSI S1 201 (102 + D.length) (nI (D.flatMap xmit).length)) 202 (96 + D.length) (nI tm)) := ((xFl.rf S1).SI (Or.inl ⟨rfl, rfl⟩)).SI (Or.inr ⟨rfl, rfl⟩)
  have X2 := F0.XC X1
  have T2 : xTxM (xSI (xSI S1 201 (102 + D.length) (nI (D.flatMap xmit).length)) 202 (96 + D.length) (nI tm)) n t := T1.fr F0 (by omega) (fun k => by omega)
  have A2 := A1.fr F0 (fun i k h => by omega)
  have F2 : xFl xFL2 S (xSI (xSI S1 201 (102 + D.length) (nI (D.flatMap xmit).length)) 202 (96 + D.length) (nI tm)) := (f1.mono (fun i k h => Or.inl ⟨h.1, by omega⟩)).tt (F0.mono (fun i k h => by omega))
  have q40 := F0.i h40 (by omega)
  have l1 : ∀ l, l ≤ D.length → (xSI (xSI S1 201 (102 + D.length) (nI (D.flatMap xmit).length)) 202 (96 + D.length) (nI tm)).2.1 201 (102 + l) = nI (xof xmit D l) := by
    intro l hl
    rcases Nat.lt_or_ge l D.length with w | w
    · exact F0.i (L1.2.1 (fun e => by rw [e] at w; exact absurd w (Nat.not_lt_zero _)) l hl) (by omega)
    · rw [show l = D.length by omega, xof_all]
      exact xi (xI_same _ _ _ _) (Or.inl (by decide))
  have l2 : ∀ l, l < D.length → (xSI (xSI S1 201 (102 + D.length) (nI (D.flatMap xmit).length)) 202 (96 + D.length) (nI tm)).2.1 202 (96 + l) = nI (D.getD l (0, 0, [])).1 := fun l hl => F0.i (L1.2.2 l hl) (by omega)
  have l3 : (xSI (xSI S1 201 (102 + D.length) (nI (D.flatMap xmit).length)) 202 (96 + D.length) (nI tm)).2.1 202 (96 + D.length) = nI tm := xI_same _ _ _ _
  have e9 : (xSI (xSI S1 201 (102 + D.length) (nI (D.flatMap xmit).length)) 202 (96 + D.length) (nI tm)).2.1 187 9 = S.2.1 187 9 := F0.i (f1.2.2 187 9 (by omega)) (by omega)
  refine wp_aload_n dX12_line_107 rfl rfl (g11_216 dX12_line_108 (xsh X1 sh_187) (xrr X1 r187_35) (wp_bipush (v := nI 102) dX12_line_111 rfl (wp_aload_n dX12_line_113 rfl rfl (gv11_198 dX12_line_114 (xsh X1 sh_187) h40 (wv_iadd dX12_line_117 (nI_add _ _) (wp_aload_n dX12_line_118 rfl rfl (gv11_195 dX12_line_119 (xsh X1 sh_187) h39 (wn_iastore dX12_line_122 (xsh X1 sh_201) rfl (by omega) (by decide) (wp_aload_n dX12_line_123 rfl rfl (g11_219 dX12_line_124 (xsh X1 sh_187) (xrr X1 r187_36) (wp_bipush (v := nI 96) dX12_line_127 rfl (wp_aload_n dX12_line_129 rfl rfl (gv11_198 dX12_line_130 (xsh X1 sh_187) (xi h40 (Or.inl (by decide))) (wv_iadd dX12_line_133 (nI_add _ _) (wp_iload_n dX12_line_134 rfl (wn_iastore dX12_line_135 (xsh X1 sh_202) rfl (by omega) (by decide) (wp_iconst (v := nI 1) dX12_line_136 rfl (wp_istore_n dX12_line_137 ⟨Nat.le_of_ble_eq_true rfl, Or.inr rfl⟩ rfl ?_))))))))))))))))))
  refine ml_loop (st := st) (D := D) (by omega) _ p1 [] _ (Nat.le_refl _) hpm X2 T2 (F0.i h4 (by omega)) (by rw [List.append_nil]; exact A2) (by rw [List.append_nil]; exact h2) (fun x hx => by cases hx) (fun e z S' hx2 hf h9 h10 => ?_) (fun I o p2 S' hx2 q1 q2 qk q3 hf hm q4 q5 q6 => ?_)
  · exact ⟨false, rfl, F2.tt (hf.mono xFL1_2), fun _ => ⟨e, z, hx.trans hx2, h9, h10⟩, fun e => (by cases e)⟩
  · have hfl : (D ++ [(tm, st, I ++ [o])]).flatMap xmit = D.flatMap xmit ++ (I ++ [o]) := xflat_snoc _ _ _
    rw [← hfl] at hm q6
    exact ml_219 htm hD (hf.XC X2) (T2.fr hf (by unfold xFL1; omega) (fun k => by unfold xFL1; omega)) (hx.trans hx2) (by omega) q2 q3 qk (F2.tt (hf.mono xFL1_2)) hm q4 (q5.trans e9) q6 (hf.i q40 (by unfold xFL1; omega)) (fun l hl => hf.i (l1 l hl) (by unfold xFL1; omega)) (fun l hl => hf.i (l2 l hl) (by unfold xFL1; omega)) (hf.i l3 (by unfold xFL1; omega))
theorem m_line {n p : Nat} {t : Nat → Nat} {D : List xLn} (d : Nat) {S : xS} (hX : XC S) (hT : xTxM S n t) (hp : S.2.1 187 4 = nI p) (hpm : p ≤ min n 240) (hD : D.length < 16) (hA : xMA S (D.flatMap xmit)) (hL : xMLn S D) (h2 : 2 * (D.flatMap xmit).length ≤ p) : ∃ b S', xcall false (d + 3) j_X12_line [.ref 187] S (some (.int (xB b))) S' ∧ xFl xFL2 S S' ∧ xLO t n p D S S' b := by
  suffices key : ∃ r S', xcall false (d + 3) j_X12_line [.ref 187] S r S' ∧ xLQ t n p D S r S' by
    obtain ⟨r, S', g, b, rfl, z⟩ := key
    exact ⟨b, S', g, z⟩
  have hle := hT.2.1
  have gb := m_isBeyond (d + 2) hX hT hp hpm
  have rf0 : xFl (fun i k => i = 187 ∧ k = 4) S S := xFl.rf S
  refine xcall_some (ls := [.ref 187, .float 0, .float 0]) q_X12_line (by decide) rfl (Nat.le_of_ble_eq_true rfl) rfl ?_
  -- without times
  have plain (hno : p < min n 240 → ¬ (50 ≤ t p ∧ t p ≤ 57)) : xra t (min n 240) (decide (min n 240 < n)) (min n 240 - p) (0, D, 1, 0, [], (0, 0, 0)) = xra t (min n 240) (decide (min n 240 < n)) (min n 240 - p) (3, D, 1, p, [], (0, 0, 0)) := by
    rcases Nat.lt_or_ge p (min n 240) with q | q
    · obtain ⟨j, hj⟩ : ∃ j, min n 240 - p = j + 1 := ⟨min n 240 - p - 1, by omega⟩
      have hpj : min n 240 - (j + 1) = p := by omega
      rw [hj]
      unfold xra
      rw [hpj]
      have e : xst (t p) p 0 D 1 0 [] (0, 0, 0) = xst (t p) p 3 D 1 p [] (0, 0, 0) := by
        unfold xst
        rw [if_pos rfl, if_neg (hno q), if_neg (by decide), if_neg (by decide), if_neg (by decide), if_pos rfl]
      rw [e]
    · rw [show min n 240 - p = 0 by omega]
      unfold xra
      rw [if_pos (Or.inr (by decide)), if_pos (Or.inr (by decide))]
  have go (hno : p < min n 240 → ¬ (50 ≤ t p ∧ t p ≤ 57)) {x2 : Value} : Wp false (d + 3) 11 cX12_line (some .boolean) false 107 [.ref 187, .int (nI 1), x2] [] S (xLQ t n p D S) := ml_107 (by decide) hD hX hT (plain hno) (Nat.le_refl _) hpm rf0 hA hL hp h2
  rcases Nat.lt_or_ge p (min n 240) with hlt | hge
  · rw [show decide (240 < n ∧ 240 ≤ p) = false from decide_eq_false (by omega)] at gb
    have gp := m_peek (d + 2) hX hT hp (by omega)
    have hc := (hT.2.2 p (by omega)).1
    rcases Nat.lt_or_ge (t p) 50 with h50 | h50
    · refine wp_iconst (v := nI 1) dX12_line_0 rfl (wp_istore_n dX12_line_1 ⟨Nat.le_of_ble_eq_true rfl, Or.inr rfl⟩ rfl (wp_aload_n dX12_line_2 rfl rfl (wp_iv1 dX12_line_3 k11_192 q_X12_isBeyond (by decide) (xsh hX sh_187) (by decide) (Nat.le_of_ble_eq_true rfl) gb ?_)))
      refine wb_if_ne dX12_line_6 rfl (fun c6 => absurd c6 (by decide)) (fun c6 => ?_)
      refine wp_aload_n dX12_line_9 rfl rfl (wp_iv1 dX12_line_10 k11_24 q_X12_peek (by decide) (xsh hX sh_187) (by decide) (Nat.le_of_ble_eq_true rfl) gp (wp_bipush (v := nI 50) dX12_line_13 rfl ?_))
      refine wn_icmp_lt dX12_line_15 rfl (by omega) (by omega) (fun c15 => ?_) (fun c15 => absurd c15 (by omega))
      exact go (fun _ w => by omega)
    rcases Nat.lt_or_ge 57 (t p) with h57 | h57
    · refine wp_iconst (v := nI 1) dX12_line_0 rfl (wp_istore_n dX12_line_1 ⟨Nat.le_of_ble_eq_true rfl, Or.inr rfl⟩ rfl (wp_aload_n dX12_line_2 rfl rfl (wp_iv1 dX12_line_3 k11_192 q_X12_isBeyond (by decide) (xsh hX sh_187) (by decide) (Nat.le_of_ble_eq_true rfl) gb ?_)))
      refine wb_if_ne dX12_line_6 rfl (fun c6 => absurd c6 (by decide)) (fun c6 => ?_)
      refine wp_aload_n dX12_line_9 rfl rfl (wp_iv1 dX12_line_10 k11_24 q_X12_peek (by decide) (xsh hX sh_187) (by decide) (Nat.le_of_ble_eq_true rfl) gp (wp_bipush (v := nI 50) dX12_line_13 rfl ?_))
      refine wn_icmp_lt dX12_line_15 rfl (by omega) (by omega) (fun c15 => absurd c15 (by omega)) (fun c15 => ?_)
      refine wp_aload_n dX12_line_18 rfl rfl (wp_iv1 dX12_line_19 k11_24 q_X12_peek (by decide) (xsh hX sh_187) (by decide) (Nat.le_of_ble_eq_true rfl) gp (wp_bipush (v := nI 57) dX12_line_22 rfl ?_))
      refine wn_icmp_gt dX12_line_24 rfl (by omega) (by omega) (fun c24 => ?_) (fun c24 => absurd c24 (by omega))
      exact go (fun _ w => by omega)
    have F1 : xFl (fun i k => i = 187 ∧ k = 4) S (xSI S 187 4 (nI (p + 1))) := (xFl.rf S).SI ⟨rfl, rfl⟩
    have T1 : xTxM (xSI S 187 4 (nI (p + 1))) n t := hT.fr F1 (by omega) (fun k => by omega)
    have hp1 : (xSI S 187 4 (nI (p + 1))).2.1 187 4 = nI (p + 1) := xI_same _ _ _ _
    have X1 := F1.XC hX
    have gb1 := m_isBeyond (d + 2) X1 T1 hp1 (by omega)
    have G1 : xFl xFL2 S (xSI S 187 4 (nI (p + 1))) := F1.mono (fun i k h => Or.inl ⟨h.1, by omega⟩)
    have e1 : xra t (min n 240) (decide (min n 240 < n)) (min n 240 - p) (0, D, 1, 0, [], (0, 0, 0)) = xra t (min n 240) (decide (min n 240 < n)) (min n 240 - (p + 1)) (1, D, t p - 48, p, [], (0, 0, 0)) := by
      refine xra_step hlt ?_
      unfold xst
      rw [if_pos rfl, if_pos ⟨h50, h57⟩]
    rcases Nat.lt_or_ge (p + 1) (min n 240) with hlt1 | hge1
    rotate_left
    · have EX : xra t (min n 240) (decide (min n 240 < n)) (min n 240 - p) (0, D, 1, 0, [], (0, 0, 0)) = .error (1, p + 1) := by
        rw [e1, show min n 240 - (p + 1) = 0 by omega]
        unfold xra
        rw [if_pos (Or.inr (by decide)), show min n 240 = p + 1 by omega]
      have gbad := m_bad (d + 1) (S := xSI S 187 4 (nI (p + 1))) X1 T1 hp1 (by omega)
      have fb : xFl xFL2 S (xSI (xSI (xSI S 187 4 (nI (p + 1))) 187 9 (nI 1)) 187 10 (nI (p + 1))) := ((G1).SI (Or.inl ⟨rfl, by omega⟩)).SI (Or.inl ⟨rfl, by omega⟩)
      have qb : xLO t n p D S (xSI (xSI (xSI S 187 4 (nI (p + 1))) 187 9 (nI 1)) 187 10 (nI (p + 1))) false := ⟨fun _ => ⟨1, p + 1, EX, xi (xI_same _ _ _ _) (Or.inr (by decide)), xI_same _ _ _ _⟩, fun e => (by cases e)⟩
      cases hb1 : decide (240 < n ∧ 240 ≤ p + 1) with
      | true =>
        rw [hb1] at gb1
        refine wp_iconst (v := nI 1) dX12_line_0 rfl (wp_istore_n dX12_line_1 ⟨Nat.le_of_ble_eq_true rfl, Or.inr rfl⟩ rfl (wp_aload_n dX12_line_2 rfl rfl (wp_iv1 dX12_line_3 k11_192 q_X12_isBeyond (by decide) (xsh hX sh_187) (by decide) (Nat.le_of_ble_eq_true rfl) gb ?_)))
        refine wb_if_ne dX12_line_6 rfl (fun c6 => absurd c6 (by decide)) (fun c6 => ?_)
        refine wp_aload_n dX12_line_9 rfl rfl (wp_iv1 dX12_line_10 k11_24 q_X12_peek (by decide) (xsh hX sh_187) (by decide) (Nat.le_of_ble_eq_true rfl) gp (wp_bipush (v := nI 50) dX12_line_13 rfl ?_))
        refine wn_icmp_lt dX12_line_15 rfl (by omega) (by omega) (fun c15 => absurd c15 (by omega)) (fun c15 => ?_)
        refine wp_aload_n dX12_line_18 rfl rfl (wp_iv1 dX12_line_19 k11_24 q_X12_peek (by decide) (xsh hX sh_187) (by decide) (Nat.le_of_ble_eq_true rfl) gp (wp_bipush (v := nI 57) dX12_line_22 rfl ?_))
        refine wn_icmp_gt dX12_line_24 rfl (by omega) (by omega) (fun c24 => absurd c24 (by omega)) (fun c24 => ?_)
        refine wp_aload_n dX12_line_27 rfl rfl (wp_iv1 dX12_line_28 k11_24 q_X12_peek (by decide) (xsh hX sh_187) (by decide) (Nat.le_of_ble_eq_true rfl) gp (wp_bipush (v := nI 48) dX12_line_31 rfl (wv_isub dX12_line_33 (pk_sub (by omega)) (wp_istore_n dX12_line_34 ⟨Nat.le_of_ble_eq_true rfl, Or.inr rfl⟩ rfl (wp_aload_n dX12_line_35 rfl rfl (wp_dup dX12_line_36 rfl (gv11_21 dX12_line_37 (xsh hX sh_187) hp (wp_iconst (v := nI 1) dX12_line_40 rfl (wv_iadd dX12_line_41 (nI_add _ _) (p11_21 dX12_line_42 (xsh hX sh_187) (wp_aload_n dX12_line_45 rfl rfl (wp_iv1 dX12_line_46 k11_192 q_X12_isBeyond (by decide) (xsh hX sh_187) (by decide) (Nat.le_of_ble_eq_true rfl) gb1 ?_))))))))))))
        refine wb_if_ne dX12_line_49 rfl (fun c49 => ?_) (fun c49 => absurd c49 (by decide))
        exact wp_aload_n dX12_line_61 rfl rfl (wp_iv1 dX12_line_62 k11_204 q_X12_bad (by decide) (xsh hX sh_187) (by decide) (Nat.le_of_ble_eq_true rfl) gbad (wb_ret dX12_line_65 rfl rfl ⟨false, rfl, fb, qb⟩))
      | false =>
        have hb1' := of_decide_eq_false hb1
        rw [hb1] at gb1
        have gp1 := m_peek_e (d + 2) X1 T1 hp1 (by omega) (by omega)
        refine wp_iconst (v := nI 1) dX12_line_0 rfl (wp_istore_n dX12_line_1 ⟨Nat.le_of_ble_eq_true rfl, Or.inr rfl⟩ rfl (wp_aload_n dX12_line_2 rfl rfl (wp_iv1 dX12_line_3 k11_192 q_X12_isBeyond (by decide) (xsh hX sh_187) (by decide) (Nat.le_of_ble_eq_true rfl) gb ?_)))
        refine wb_if_ne dX12_line_6 rfl (fun c6 => absurd c6 (by decide)) (fun c6 => ?_)
        refine wp_aload_n dX12_line_9 rfl rfl (wp_iv1 dX12_line_10 k11_24 q_X12_peek (by decide) (xsh hX sh_187) (by decide) (Nat.le_of_ble_eq_true rfl) gp (wp_bipush (v := nI 50) dX12_line_13 rfl ?_))
        refine wn_icmp_lt dX12_line_15 rfl (by omega) (by omega) (fun c15 => absurd c15 (by omega)) (fun c15 => ?_)
        refine wp_aload_n dX12_line_18 rfl rfl (wp_iv1 dX12_line_19 k11_24 q_X12_peek (by decide) (xsh hX sh_187) (by decide) (Nat.le_of_ble_eq_true rfl) gp (wp_bipush (v := nI 57) dX12_line_22 rfl ?_))
        refine wn_icmp_gt dX12_line_24 rfl (by omega) (by omega) (fun c24 => absurd c24 (by omega)) (fun c24 => ?_)
        refine wp_aload_n dX12_line_27 rfl rfl (wp_iv1 dX12_line_28 k11_24 q_X12_peek (by decide) (xsh hX sh_187) (by decide) (Nat.le_of_ble_eq_true rfl) gp (wp_bipush (v := nI 48) dX12_line_31 rfl (wv_isub dX12_line_33 (pk_sub (by omega)) (wp_istore_n dX12_line_34 ⟨Nat.le_of_ble_eq_true rfl, Or.inr rfl⟩ rfl (wp_aload_n dX12_line_35 rfl rfl (wp_dup dX12_line_36 rfl (gv11_21 dX12_line_37 (xsh hX sh_187) hp (wp_iconst (v := nI 1) dX12_line_40 rfl (wv_iadd dX12_line_41 (nI_add _ _) (p11_21 dX12_line_42 (xsh hX sh_187) (wp_aload_n dX12_line_45 rfl rfl (wp_iv1 dX12_line_46 k11_192 q_X12_isBeyond (by decide) (xsh hX sh_187) (by decide) (Nat.le_of_ble_eq_true rfl) gb1 ?_))))))))))))
        refine wb_if_ne dX12_line_49 rfl (fun c49 => absurd c49 (by decide)) (fun c49 => ?_)
        refine wp_aload_n dX12_line_52 rfl rfl (wp_iv1 dX12_line_53 k11_24 q_X12_peek (by decide) (xsh hX sh_187) (by decide) (Nat.le_of_ble_eq_true rfl) gp1 (wp_bipush (v := nI 120) dX12_line_56 rfl ?_))
        refine wp_icmp_eq dX12_line_58 rfl (fun c58 => absurd c58 (by decide)) (fun c58 => ?_)
        exact wp_aload_n dX12_line_61 rfl rfl (wp_iv1 dX12_line_62 k11_204 q_X12_bad (by decide) (xsh hX sh_187) (by decide) (Nat.le_of_ble_eq_true rfl) gbad (wb_ret dX12_line_65 rfl rfl ⟨false, rfl, fb, qb⟩))
    rw [show decide (240 < n ∧ 240 ≤ p + 1) = false from decide_eq_false (by omega)] at gb1
    have gp1 := m_peek (d + 2) X1 T1 hp1 (by omega)
    have hc1 := (hT.2.2 (p + 1) (by omega)).1
    rcases Decidable.em (t (p + 1) = 120) with e120 | e120
    rotate_left
    · have EX : xra t (min n 240) (decide (min n 240 < n)) (min n 240 - p) (0, D, 1, 0, [], (0, 0, 0)) = .error (1, p + 1) := by
        rw [e1]
        refine xra_err hlt1 ?_
        unfold xst
        rw [if_neg (by decide), if_pos rfl, if_neg e120]
      have gbad := m_bad (d + 1) (S := xSI S 187 4 (nI (p + 1))) X1 T1 hp1 (by omega)
      have fb : xFl xFL2 S (xSI (xSI (xSI S 187 4 (nI (p + 1))) 187 9 (nI 1)) 187 10 (nI (p + 1))) := ((G1).SI (Or.inl ⟨rfl, by omega⟩)).SI (Or.inl ⟨rfl, by omega⟩)
      have qb : xLO t n p D S (xSI (xSI (xSI S 187 4 (nI (p + 1))) 187 9 (nI 1)) 187 10 (nI (p + 1))) false := ⟨fun _ => ⟨1, p + 1, EX, xi (xI_same _ _ _ _) (Or.inr (by decide)), xI_same _ _ _ _⟩, fun e => (by cases e)⟩
      refine wp_iconst (v := nI 1) dX12_line_0 rfl (wp_istore_n dX12_line_1 ⟨Nat.le_of_ble_eq_true rfl, Or.inr rfl⟩ rfl (wp_aload_n dX12_line_2 rfl rfl (wp_iv1 dX12_line_3 k11_192 q_X12_isBeyond (by decide) (xsh hX sh_187) (by decide) (Nat.le_of_ble_eq_true rfl) gb ?_)))
      refine wb_if_ne dX12_line_6 rfl (fun c6 => absurd c6 (by decide)) (fun c6 => ?_)
      refine wp_aload_n dX12_line_9 rfl rfl (wp_iv1 dX12_line_10 k11_24 q_X12_peek (by decide) (xsh hX sh_187) (by decide) (Nat.le_of_ble_eq_true rfl) gp (wp_bipush (v := nI 50) dX12_line_13 rfl ?_))
      refine wn_icmp_lt dX12_line_15 rfl (by omega) (by omega) (fun c15 => absurd c15 (by omega)) (fun c15 => ?_)
      refine wp_aload_n dX12_line_18 rfl rfl (wp_iv1 dX12_line_19 k11_24 q_X12_peek (by decide) (xsh hX sh_187) (by decide) (Nat.le_of_ble_eq_true rfl) gp (wp_bipush (v := nI 57) dX12_line_22 rfl ?_))
      refine wn_icmp_gt dX12_line_24 rfl (by omega) (by omega) (fun c24 => absurd c24 (by omega)) (fun c24 => ?_)
      refine wp_aload_n dX12_line_27 rfl rfl (wp_iv1 dX12_line_28 k11_24 q_X12_peek (by decide) (xsh hX sh_187) (by decide) (Nat.le_of_ble_eq_true rfl) gp (wp_bipush (v := nI 48) dX12_line_31 rfl (wv_isub dX12_line_33 (pk_sub (by omega)) (wp_istore_n dX12_line_34 ⟨Nat.le_of_ble_eq_true rfl, Or.inr rfl⟩ rfl (wp_aload_n dX12_line_35 rfl rfl (wp_dup dX12_line_36 rfl (gv11_21 dX12_line_37 (xsh hX sh_187) hp (wp_iconst (v := nI 1) dX12_line_40 rfl (wv_iadd dX12_line_41 (nI_add _ _) (p11_21 dX12_line_42 (xsh hX sh_187) (wp_aload_n dX12_line_45 rfl rfl (wp_iv1 dX12_line_46 k11_192 q_X12_isBeyond (by decide) (xsh hX sh_187) (by decide) (Nat.le_of_ble_eq_true rfl) gb1 ?_))))))))))))
      refine wb_if_ne dX12_line_49 rfl (fun c49 => absurd c49 (by decide)) (fun c49 => ?_)
      refine wp_aload_n dX12_line_52 rfl rfl (wp_iv1 dX12_line_53 k11_24 q_X12_peek (by decide) (xsh hX sh_187) (by decide) (Nat.le_of_ble_eq_true rfl) gp1 (wp_bipush (v := nI 120) dX12_line_56 rfl ?_))
      refine wn_icmp_eq dX12_line_58 rfl (by omega) (by omega) (fun c58 => absurd c58 (by omega)) (fun c58 => ?_)
      exact wp_aload_n dX12_line_61 rfl rfl (wp_iv1 dX12_line_62 k11_204 q_X12_bad (by decide) (xsh hX sh_187) (by decide) (Nat.le_of_ble_eq_true rfl) gbad (wb_ret dX12_line_65 rfl rfl ⟨false, rfl, fb, qb⟩))
    have e2 : xra t (min n 240) (decide (min n 240 < n)) (min n 240 - p) (0, D, 1, 0, [], (0, 0, 0)) = xra t (min n 240) (decide (min n 240 < n)) (min n 240 - (p + 1 + 1)) (2, D, t p - 48, p, [], (0, 0, 0)) := by
      rw [e1]
      refine xra_step hlt1 ?_
      unfold xst
      rw [if_neg (by decide), if_pos rfl, if_pos e120]
    have F2 : xFl (fun i k => i = 187 ∧ k = 4) S (xSI (xSI S 187 4 (nI (p + 1))) 187 4 (nI (p + 1 + 1))) := F1.SI ⟨rfl, rfl⟩
    have T2 : xTxM (xSI (xSI S 187 4 (nI (p + 1))) 187 4 (nI (p + 1 + 1))) n t := hT.fr F2 (by omega) (fun k => by omega)
    have hp2 : (xSI (xSI S 187 4 (nI (p + 1))) 187 4 (nI (p + 1 + 1))).2.1 187 4 = nI (p + 1 + 1) := xI_same _ _ _ _
    have X2 := F2.XC hX
    have gb2 := m_isBeyond (d + 2) X2 T2 hp2 (by omega)
    have G2 : xFl xFL2 S (xSI (xSI S 187 4 (nI (p + 1))) 187 4 (nI (p + 1 + 1))) := F2.mono (fun i k h => Or.inl ⟨h.1, by omega⟩)
    rcases Nat.lt_or_ge (p + 1 + 1) (min n 240) with hlt2 | hge2
    rotate_left
    · have EX : xra t (min n 240) (decide (min n 240 < n)) (min n 240 - p) (0, D, 1, 0, [], (0, 0, 0)) = .error (1, p + 1 + 1) := by
        rw [e2, show min n 240 - (p + 1 + 1) = 0 by omega]
        unfold xra
        rw [if_pos (Or.inr (by decide)), show min n 240 = p + 1 + 1 by omega]
      have gbad := m_bad (d + 1) (S := xSI (xSI S 187 4 (nI (p + 1))) 187 4 (nI (p + 1 + 1))) X2 T2 hp2 (by omega)
      have fb : xFl xFL2 S (xSI (xSI (xSI (xSI S 187 4 (nI (p + 1))) 187 4 (nI (p + 1 + 1))) 187 9 (nI 1)) 187 10 (nI (p + 1 + 1))) := ((G2).SI (Or.inl ⟨rfl, by omega⟩)).SI (Or.inl ⟨rfl, by omega⟩)
      have qb : xLO t n p D S (xSI (xSI (xSI (xSI S 187 4 (nI (p + 1))) 187 4 (nI (p + 1 + 1))) 187 9 (nI 1)) 187 10 (nI (p + 1 + 1))) false := ⟨fun _ => ⟨1, p + 1 + 1, EX, xi (xI_same _ _ _ _) (Or.inr (by decide)), xI_same _ _ _ _⟩, fun e => (by cases e)⟩
      cases hb2 : decide (240 < n ∧ 240 ≤ p + 1 + 1) with
      | true =>
        rw [hb2] at gb2
        refine wp_iconst (v := nI 1) dX12_line_0 rfl (wp_istore_n dX12_line_1 ⟨Nat.le_of_ble_eq_true rfl, Or.inr rfl⟩ rfl (wp_aload_n dX12_line_2 rfl rfl (wp_iv1 dX12_line_3 k11_192 q_X12_isBeyond (by decide) (xsh hX sh_187) (by decide) (Nat.le_of_ble_eq_true rfl) gb ?_)))
        refine wb_if_ne dX12_line_6 rfl (fun c6 => absurd c6 (by decide)) (fun c6 => ?_)
        refine wp_aload_n dX12_line_9 rfl rfl (wp_iv1 dX12_line_10 k11_24 q_X12_peek (by decide) (xsh hX sh_187) (by decide) (Nat.le_of_ble_eq_true rfl) gp (wp_bipush (v := nI 50) dX12_line_13 rfl ?_))
        refine wn_icmp_lt dX12_line_15 rfl (by omega) (by omega) (fun c15 => absurd c15 (by omega)) (fun c15 => ?_)
        refine wp_aload_n dX12_line_18 rfl rfl (wp_iv1 dX12_line_19 k11_24 q_X12_peek (by decide) (xsh hX sh_187) (by decide) (Nat.le_of_ble_eq_true rfl) gp (wp_bipush (v := nI 57) dX12_line_22 rfl ?_))
        refine wn_icmp_gt dX12_line_24 rfl (by omega) (by omega) (fun c24 => absurd c24 (by omega)) (fun c24 => ?_)
        refine wp_aload_n dX12_line_27 rfl rfl (wp_iv1 dX12_line_28 k11_24 q_X12_peek (by decide) (xsh hX sh_187) (by decide) (Nat.le_of_ble_eq_true rfl) gp (wp_bipush (v := nI 48) dX12_line_31 rfl (wv_isub dX12_line_33 (pk_sub (by omega)) (wp_istore_n dX12_line_34 ⟨Nat.le_of_ble_eq_true rfl, Or.inr rfl⟩ rfl (wp_aload_n dX12_line_35 rfl rfl (wp_dup dX12_line_36 rfl (gv11_21 dX12_line_37 (xsh hX sh_187) hp (wp_iconst (v := nI 1) dX12_line_40 rfl (wv_iadd dX12_line_41 (nI_add _ _) (p11_21 dX12_line_42 (xsh hX sh_187) (wp_aload_n dX12_line_45 rfl rfl (wp_iv1 dX12_line_46 k11_192 q_X12_isBeyond (by decide) (xsh hX sh_187) (by decide) (Nat.le_of_ble_eq_true rfl) gb1 ?_))))))))))))
        refine wb_if_ne dX12_line_49 rfl (fun c49 => absurd c49 (by decide)) (fun c49 => ?_)
        refine wp_aload_n dX12_line_52 rfl rfl (wp_iv1 dX12_line_53 k11_24 q_X12_peek (by decide) (xsh hX sh_187) (by decide) (Nat.le_of_ble_eq_true rfl) gp1 (wp_bipush (v := nI 120) dX12_line_56 rfl ?_))
        refine wn_icmp_eq dX12_line_58 rfl (by omega) (by omega) (fun c58 => ?_) (fun c58 => absurd c58 (by omega))
        refine wp_aload_n dX12_line_66 rfl rfl (wp_dup dX12_line_67 rfl (gv11_21 dX12_line_68 (xsh hX sh_187) (xI_same _ _ _ _) (wp_iconst (v := nI 1) dX12_line_71 rfl (wv_iadd dX12_line_72 (nI_add _ _) (p11_21 dX12_line_73 (xsh hX sh_187) (wp_aload_n dX12_line_76 rfl rfl (wp_iv1 dX12_line_77 k11_192 q_X12_isBeyond (by decide) (xsh hX sh_187) (by decide) (Nat.le_of_ble_eq_true rfl) gb2 ?_)))))))
        refine wb_if_ne dX12_line_80 rfl (fun c80 => ?_) (fun c80 => absurd c80 (by decide))
        exact wp_aload_n dX12_line_92 rfl rfl (wp_iv1 dX12_line_93 k11_204 q_X12_bad (by decide) (xsh hX sh_187) (by decide) (Nat.le_of_ble_eq_true rfl) gbad (wb_ret dX12_line_96 rfl rfl ⟨false, rfl, fb, qb⟩))
      | false =>
        have hb2' := of_decide_eq_false hb2
        rw [hb2] at gb2
        have gp2 := m_peek_e (d + 2) X2 T2 hp2 (by omega) (by omega)
        refine wp_iconst (v := nI 1) dX12_line_0 rfl (wp_istore_n dX12_line_1 ⟨Nat.le_of_ble_eq_true rfl, Or.inr rfl⟩ rfl (wp_aload_n dX12_line_2 rfl rfl (wp_iv1 dX12_line_3 k11_192 q_X12_isBeyond (by decide) (xsh hX sh_187) (by decide) (Nat.le_of_ble_eq_true rfl) gb ?_)))
        refine wb_if_ne dX12_line_6 rfl (fun c6 => absurd c6 (by decide)) (fun c6 => ?_)
        refine wp_aload_n dX12_line_9 rfl rfl (wp_iv1 dX12_line_10 k11_24 q_X12_peek (by decide) (xsh hX sh_187) (by decide) (Nat.le_of_ble_eq_true rfl) gp (wp_bipush (v := nI 50) dX12_line_13 rfl ?_))
        refine wn_icmp_lt dX12_line_15 rfl (by omega) (by omega) (fun c15 => absurd c15 (by omega)) (fun c15 => ?_)
        refine wp_aload_n dX12_line_18 rfl rfl (wp_iv1 dX12_line_19 k11_24 q_X12_peek (by decide) (xsh hX sh_187) (by decide) (Nat.le_of_ble_eq_true rfl) gp (wp_bipush (v := nI 57) dX12_line_22 rfl ?_))
        refine wn_icmp_gt dX12_line_24 rfl (by omega) (by omega) (fun c24 => absurd c24 (by omega)) (fun c24 => ?_)
        refine wp_aload_n dX12_line_27 rfl rfl (wp_iv1 dX12_line_28 k11_24 q_X12_peek (by decide) (xsh hX sh_187) (by decide) (Nat.le_of_ble_eq_true rfl) gp (wp_bipush (v := nI 48) dX12_line_31 rfl (wv_isub dX12_line_33 (pk_sub (by omega)) (wp_istore_n dX12_line_34 ⟨Nat.le_of_ble_eq_true rfl, Or.inr rfl⟩ rfl (wp_aload_n dX12_line_35 rfl rfl (wp_dup dX12_line_36 rfl (gv11_21 dX12_line_37 (xsh hX sh_187) hp (wp_iconst (v := nI 1) dX12_line_40 rfl (wv_iadd dX12_line_41 (nI_add _ _) (p11_21 dX12_line_42 (xsh hX sh_187) (wp_aload_n dX12_line_45 rfl rfl (wp_iv1 dX12_line_46 k11_192 q_X12_isBeyond (by decide) (xsh hX sh_187) (by decide) (Nat.le_of_ble_eq_true rfl) gb1 ?_))))))))))))
        refine wb_if_ne dX12_line_49 rfl (fun c49 => absurd c49 (by decide)) (fun c49 => ?_)
        refine wp_aload_n dX12_line_52 rfl rfl (wp_iv1 dX12_line_53 k11_24 q_X12_peek (by decide) (xsh hX sh_187) (by decide) (Nat.le_of_ble_eq_true rfl) gp1 (wp_bipush (v := nI 120) dX12_line_56 rfl ?_))
        refine wn_icmp_eq dX12_line_58 rfl (by omega) (by omega) (fun c58 => ?_) (fun c58 => absurd c58 (by omega))
        refine wp_aload_n dX12_line_66 rfl rfl (wp_dup dX12_line_67 rfl (gv11_21 dX12_line_68 (xsh hX sh_187) (xI_same _ _ _ _) (wp_iconst (v := nI 1) dX12_line_71 rfl (wv_iadd dX12_line_72 (nI_add _ _) (p11_21 dX12_line_73 (xsh hX sh_187) (wp_aload_n dX12_line_76 rfl rfl (wp_iv1 dX12_line_77 k11_192 q_X12_isBeyond (by decide) (xsh hX sh_187) (by decide) (Nat.le_of_ble_eq_true rfl) gb2 ?_)))))))
        refine wb_if_ne dX12_line_80 rfl (fun c80 => absurd c80 (by decide)) (fun c80 => ?_)
        refine wp_aload_n dX12_line_83 rfl rfl (wp_iv1 dX12_line_84 k11_24 q_X12_peek (by decide) (xsh hX sh_187) (by decide) (Nat.le_of_ble_eq_true rfl) gp2 (wp_bipush (v := nI 32) dX12_line_87 rfl ?_))
        refine wp_icmp_eq dX12_line_89 rfl (fun c89 => absurd c89 (by decide)) (fun c89 => ?_)
        exact wp_aload_n dX12_line_92 rfl rfl (wp_iv1 dX12_line_93 k11_204 q_X12_bad (by decide) (xsh hX sh_187) (by decide) (Nat.le_of_ble_eq_true rfl) gbad (wb_ret dX12_line_96 rfl rfl ⟨false, rfl, fb, qb⟩))
    rw [show decide (240 < n ∧ 240 ≤ p + 1 + 1) = false from decide_eq_false (by omega)] at gb2
    have gp2 := m_peek (d + 2) X2 T2 hp2 (by omega)
    have hc2 := (hT.2.2 (p + 1 + 1) (by omega)).1
    rcases Decidable.em (t (p + 1 + 1) = 32) with e32 | e32
    rotate_left
    · have EX : xra t (min n 240) (decide (min n 240 < n)) (min n 240 - p) (0, D, 1, 0, [], (0, 0, 0)) = .error (1, p + 1 + 1) := by
        rw [e2]
        refine xra_err hlt2 ?_
        unfold xst
        rw [if_neg (by decide), if_neg (by decide), if_pos rfl, if_neg e32]
      have gbad := m_bad (d + 1) (S := xSI (xSI S 187 4 (nI (p + 1))) 187 4 (nI (p + 1 + 1))) X2 T2 hp2 (by omega)
      have fb : xFl xFL2 S (xSI (xSI (xSI (xSI S 187 4 (nI (p + 1))) 187 4 (nI (p + 1 + 1))) 187 9 (nI 1)) 187 10 (nI (p + 1 + 1))) := ((G2).SI (Or.inl ⟨rfl, by omega⟩)).SI (Or.inl ⟨rfl, by omega⟩)
      have qb : xLO t n p D S (xSI (xSI (xSI (xSI S 187 4 (nI (p + 1))) 187 4 (nI (p + 1 + 1))) 187 9 (nI 1)) 187 10 (nI (p + 1 + 1))) false := ⟨fun _ => ⟨1, p + 1 + 1, EX, xi (xI_same _ _ _ _) (Or.inr (by decide)), xI_same _ _ _ _⟩, fun e => (by cases e)⟩
      refine wp_iconst (v := nI 1) dX12_line_0 rfl (wp_istore_n dX12_line_1 ⟨Nat.le_of_ble_eq_true rfl, Or.inr rfl⟩ rfl (wp_aload_n dX12_line_2 rfl rfl (wp_iv1 dX12_line_3 k11_192 q_X12_isBeyond (by decide) (xsh hX sh_187) (by decide) (Nat.le_of_ble_eq_true rfl) gb ?_)))
      refine wb_if_ne dX12_line_6 rfl (fun c6 => absurd c6 (by decide)) (fun c6 => ?_)
      refine wp_aload_n dX12_line_9 rfl rfl (wp_iv1 dX12_line_10 k11_24 q_X12_peek (by decide) (xsh hX sh_187) (by decide) (Nat.le_of_ble_eq_true rfl) gp (wp_bipush (v := nI 50) dX12_line_13 rfl ?_))
      refine wn_icmp_lt dX12_line_15 rfl (by omega) (by omega) (fun c15 => absurd c15 (by omega)) (fun c15 => ?_)
      refine wp_aload_n dX12_line_18 rfl rfl (wp_iv1 dX12_line_19 k11_24 q_X12_peek (by decide) (xsh hX sh_187) (by decide) (Nat.le_of_ble_eq_true rfl) gp (wp_bipush (v := nI 57) dX12_line_22 rfl ?_))
      refine wn_icmp_gt dX12_line_24 rfl (by omega) (by omega) (fun c24 => absurd c24 (by omega)) (fun c24 => ?_)
      refine wp_aload_n dX12_line_27 rfl rfl (wp_iv1 dX12_line_28 k11_24 q_X12_peek (by decide) (xsh hX sh_187) (by decide) (Nat.le_of_ble_eq_true rfl) gp (wp_bipush (v := nI 48) dX12_line_31 rfl (wv_isub dX12_line_33 (pk_sub (by omega)) (wp_istore_n dX12_line_34 ⟨Nat.le_of_ble_eq_true rfl, Or.inr rfl⟩ rfl (wp_aload_n dX12_line_35 rfl rfl (wp_dup dX12_line_36 rfl (gv11_21 dX12_line_37 (xsh hX sh_187) hp (wp_iconst (v := nI 1) dX12_line_40 rfl (wv_iadd dX12_line_41 (nI_add _ _) (p11_21 dX12_line_42 (xsh hX sh_187) (wp_aload_n dX12_line_45 rfl rfl (wp_iv1 dX12_line_46 k11_192 q_X12_isBeyond (by decide) (xsh hX sh_187) (by decide) (Nat.le_of_ble_eq_true rfl) gb1 ?_))))))))))))
      refine wb_if_ne dX12_line_49 rfl (fun c49 => absurd c49 (by decide)) (fun c49 => ?_)
      refine wp_aload_n dX12_line_52 rfl rfl (wp_iv1 dX12_line_53 k11_24 q_X12_peek (by decide) (xsh hX sh_187) (by decide) (Nat.le_of_ble_eq_true rfl) gp1 (wp_bipush (v := nI 120) dX12_line_56 rfl ?_))
      refine wn_icmp_eq dX12_line_58 rfl (by omega) (by omega) (fun c58 => ?_) (fun c58 => absurd c58 (by omega))
      refine wp_aload_n dX12_line_66 rfl rfl (wp_dup dX12_line_67 rfl (gv11_21 dX12_line_68 (xsh hX sh_187) (xI_same _ _ _ _) (wp_iconst (v := nI 1) dX12_line_71 rfl (wv_iadd dX12_line_72 (nI_add _ _) (p11_21 dX12_line_73 (xsh hX sh_187) (wp_aload_n dX12_line_76 rfl rfl (wp_iv1 dX12_line_77 k11_192 q_X12_isBeyond (by decide) (xsh hX sh_187) (by decide) (Nat.le_of_ble_eq_true rfl) gb2 ?_)))))))
      refine wb_if_ne dX12_line_80 rfl (fun c80 => absurd c80 (by decide)) (fun c80 => ?_)
      refine wp_aload_n dX12_line_83 rfl rfl (wp_iv1 dX12_line_84 k11_24 q_X12_peek (by decide) (xsh hX sh_187) (by decide) (Nat.le_of_ble_eq_true rfl) gp2 (wp_bipush (v := nI 32) dX12_line_87 rfl ?_))
      refine wn_icmp_eq dX12_line_89 rfl (by omega) (by omega) (fun c89 => absurd c89 (by omega)) (fun c89 => ?_)
      exact wp_aload_n dX12_line_92 rfl rfl (wp_iv1 dX12_line_93 k11_204 q_X12_bad (by decide) (xsh hX sh_187) (by decide) (Nat.le_of_ble_eq_true rfl) gbad (wb_ret dX12_line_96 rfl rfl ⟨false, rfl, fb, qb⟩))
    have e3 : xra t (min n 240) (decide (min n 240 < n)) (min n 240 - p) (0, D, 1, 0, [], (0, 0, 0)) = xra t (min n 240) (decide (min n 240 < n)) (min n 240 - (p + 1 + 1 + 1)) (3, D, t p - 48, p, [], (0, 0, 0)) := by
      rw [e2]
      refine xra_step hlt2 ?_
      unfold xst
      rw [if_neg (by decide), if_neg (by decide), if_pos rfl, if_pos e32]
    have F3 : xFl (fun i k => i = 187 ∧ k = 4) S (xSI (xSI (xSI S 187 4 (nI (p + 1))) 187 4 (nI (p + 1 + 1))) 187 4 (nI (p + 1 + 1 + 1))) := F2.SI ⟨rfl, rfl⟩
    have T3 : xTxM (xSI (xSI (xSI S 187 4 (nI (p + 1))) 187 4 (nI (p + 1 + 1))) 187 4 (nI (p + 1 + 1 + 1))) n t := hT.fr F3 (by omega) (fun k => by omega)
    refine wp_iconst (v := nI 1) dX12_line_0 rfl (wp_istore_n dX12_line_1 ⟨Nat.le_of_ble_eq_true rfl, Or.inr rfl⟩ rfl (wp_aload_n dX12_line_2 rfl rfl (wp_iv1 dX12_line_3 k11_192 q_X12_isBeyond (by decide) (xsh hX sh_187) (by decide) (Nat.le_of_ble_eq_true rfl) gb ?_)))
    refine wb_if_ne dX12_line_6 rfl (fun c6 => absurd c6 (by decide)) (fun c6 => ?_)
    refine wp_aload_n dX12_line_9 rfl rfl (wp_iv1 dX12_line_10 k11_24 q_X12_peek (by decide) (xsh hX sh_187) (by decide) (Nat.le_of_ble_eq_true rfl) gp (wp_bipush (v := nI 50) dX12_line_13 rfl ?_))
    refine wn_icmp_lt dX12_line_15 rfl (by omega) (by omega) (fun c15 => absurd c15 (by omega)) (fun c15 => ?_)
    refine wp_aload_n dX12_line_18 rfl rfl (wp_iv1 dX12_line_19 k11_24 q_X12_peek (by decide) (xsh hX sh_187) (by decide) (Nat.le_of_ble_eq_true rfl) gp (wp_bipush (v := nI 57) dX12_line_22 rfl ?_))
    refine wn_icmp_gt dX12_line_24 rfl (by omega) (by omega) (fun c24 => absurd c24 (by omega)) (fun c24 => ?_)
    refine wp_aload_n dX12_line_27 rfl rfl (wp_iv1 dX12_line_28 k11_24 q_X12_peek (by decide) (xsh hX sh_187) (by decide) (Nat.le_of_ble_eq_true rfl) gp (wp_bipush (v := nI 48) dX12_line_31 rfl (wv_isub dX12_line_33 (pk_sub (by omega)) (wp_istore_n dX12_line_34 ⟨Nat.le_of_ble_eq_true rfl, Or.inr rfl⟩ rfl (wp_aload_n dX12_line_35 rfl rfl (wp_dup dX12_line_36 rfl (gv11_21 dX12_line_37 (xsh hX sh_187) hp (wp_iconst (v := nI 1) dX12_line_40 rfl (wv_iadd dX12_line_41 (nI_add _ _) (p11_21 dX12_line_42 (xsh hX sh_187) (wp_aload_n dX12_line_45 rfl rfl (wp_iv1 dX12_line_46 k11_192 q_X12_isBeyond (by decide) (xsh hX sh_187) (by decide) (Nat.le_of_ble_eq_true rfl) gb1 ?_))))))))))))
    refine wb_if_ne dX12_line_49 rfl (fun c49 => absurd c49 (by decide)) (fun c49 => ?_)
    refine wp_aload_n dX12_line_52 rfl rfl (wp_iv1 dX12_line_53 k11_24 q_X12_peek (by decide) (xsh hX sh_187) (by decide) (Nat.le_of_ble_eq_true rfl) gp1 (wp_bipush (v := nI 120) dX12_line_56 rfl ?_))
    refine wn_icmp_eq dX12_line_58 rfl (by omega) (by omega) (fun c58 => ?_) (fun c58 => absurd c58 (by omega))
    refine wp_aload_n dX12_line_66 rfl rfl (wp_dup dX12_line_67 rfl (gv11_21 dX12_line_68 (xsh hX sh_187) (xI_same _ _ _ _) (wp_iconst (v := nI 1) dX12_line_71 rfl (wv_iadd dX12_line_72 (nI_add _ _) (p11_21 dX12_line_73 (xsh hX sh_187) (wp_aload_n dX12_line_76 rfl rfl (wp_iv1 dX12_line_77 k11_192 q_X12_isBeyond (by decide) (xsh hX sh_187) (by decide) (Nat.le_of_ble_eq_true rfl) gb2 ?_)))))))
    refine wb_if_ne dX12_line_80 rfl (fun c80 => absurd c80 (by decide)) (fun c80 => ?_)
    refine wp_aload_n dX12_line_83 rfl rfl (wp_iv1 dX12_line_84 k11_24 q_X12_peek (by decide) (xsh hX sh_187) (by decide) (Nat.le_of_ble_eq_true rfl) gp2 (wp_bipush (v := nI 32) dX12_line_87 rfl ?_))
    refine wn_icmp_eq dX12_line_89 rfl (by omega) (by omega) (fun c89 => ?_) (fun c89 => absurd c89 (by omega))
    exact wp_aload_n dX12_line_97 rfl rfl (wp_dup dX12_line_98 rfl (gv11_21 dX12_line_99 (xsh hX sh_187) (xI_same _ _ _ _) (wp_iconst (v := nI 1) dX12_line_102 rfl (wv_iadd dX12_line_103 (nI_add _ _) (p11_21 dX12_line_104 (xsh hX sh_187) (ml_107 (by omega) hD (F3.XC hX) T3 e3 (by omega) (by omega) F3 hA hL (xI_same _ _ _ _) (by omega)))))))
  · cases hb : decide (240 < n ∧ 240 ≤ p) with
    | true =>
      rw [hb] at gb
      refine wp_iconst (v := nI 1) dX12_line_0 rfl (wp_istore_n dX12_line_1 ⟨Nat.le_of_ble_eq_true rfl, Or.inr rfl⟩ rfl (wp_aload_n dX12_line_2 rfl rfl (wp_iv1 dX12_line_3 k11_192 q_X12_isBeyond (by decide) (xsh hX sh_187) (by decide) (Nat.le_of_ble_eq_true rfl) gb ?_)))
      refine wb_if_ne dX12_line_6 rfl (fun c6 => ?_) (fun c6 => absurd c6 (by decide))
      exact go (fun w => absurd w (by omega))
    | false =>
      have hb' := of_decide_eq_false hb
      rw [hb] at gb
      have gp := m_peek_e (d + 2) hX hT hp (by omega) (by omega)
      refine wp_iconst (v := nI 1) dX12_line_0 rfl (wp_istore_n dX12_line_1 ⟨Nat.le_of_ble_eq_true rfl, Or.inr rfl⟩ rfl (wp_aload_n dX12_line_2 rfl rfl (wp_iv1 dX12_line_3 k11_192 q_X12_isBeyond (by decide) (xsh hX sh_187) (by decide) (Nat.le_of_ble_eq_true rfl) gb ?_)))
      refine wb_if_ne dX12_line_6 rfl (fun c6 => absurd c6 (by decide)) (fun c6 => ?_)
      refine wp_aload_n dX12_line_9 rfl rfl (wp_iv1 dX12_line_10 k11_24 q_X12_peek (by decide) (xsh hX sh_187) (by decide) (Nat.le_of_ble_eq_true rfl) gp (wp_bipush (v := nI 50) dX12_line_13 rfl ?_))
      refine wp_icmp_lt dX12_line_15 rfl (fun c15 => ?_) (fun c15 => absurd c15 (by decide))
      exact go (fun w => absurd w (by omega))
