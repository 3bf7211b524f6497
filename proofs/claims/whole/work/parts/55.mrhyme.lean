/-! rhyme of the reference: its loops -/
/-- a rhyme in the reference's rows of a slot -/
def xRM (s : Nat) (S : xS) (n : Nat) (t : Nat → Nat) (L : List xLn) : Prop :=
  (∀ k, k < n → S.2.1 195 (260 + 240 * s + k) = xby (t k)) ∧ (∀ i, i < (L.flatMap xmit).length → S.2.1 198 (122 * s + i) = nI ((L.flatMap xmit).getD i (0, 0, 0)).1 ∧ S.2.1 199 (122 * s + i) = nI (260 + 240 * s + ((L.flatMap xmit).getD i (0, 0, 0)).2.1) ∧ S.2.1 200 (122 * s + i) = nI ((L.flatMap xmit).getD i (0, 0, 0)).2.2) ∧ (∀ l, l ≤ L.length → S.2.1 201 (17 * s + l) = nI (xof xmit L l)) ∧ (∀ l, l < L.length → S.2.1 202 (16 * s + l) = nI (L.getD l (0, 0, [])).1) ∧ S.2.1 203 s = nI L.length
theorem xsnd_flat (L : List xLn) : xsnd L = (L.flatMap xmit).any xkz := by
  unfold xsnd
  rw [List.any_flatMap]
  rfl
theorem xany_succ {M : List xIt} {i : Nat} (h : i < M.length) : (M.take (i + 1)).any xkz = ((M.take i).any xkz || xkz (M.getD i (0, 0, 0))) := by
  rw [List.take_succ, List.getElem?_eq_getElem h, List.any_append]
  rw [List.getD_eq_getElem?_getD, List.getElem?_eq_getElem h]
  simp
theorem ra_any {s d : Nat} {x2 : Int32} {M : List xIt} {S : xS} {Q : Option Value → xS → Prop} (hX : XC S) (hA : xMA S M) (hM : M.length ≤ 121) (hk4 : ∀ x ∈ M, x.1 ≤ 4) (K : Wp false (d + 4) 11 cX12_rhyme (some .int) false 234 [.ref 187, .int (nI s), .int x2, .int (xB (M.any xkz)), .int (nI (M.length))] [] S Q) : ∀ (j i : Nat) (b : Bool), i + j = M.length → b = (M.take i).any xkz → Wp false (d + 4) 11 cX12_rhyme (some .int) false 165 [.ref 187, .int (nI s), .int x2, .int (xB b), .int (nI (i))] [] S Q := by
  have h39 := hA.1
  intro j
  induction j with
  | zero =>
    intro i b hi hb
    have hii : i = M.length := by omega
    subst hii
    rw [List.take_length] at hb
    subst hb
    refine wp_iload dX12_rhyme_165 rfl (wp_aload_n dX12_rhyme_167 rfl rfl (gv11_195 dX12_rhyme_168 (xsh hX sh_187) h39 ?_))
    refine wn_icmp_ge dX12_rhyme_171 rfl (by omega) (by omega) (fun c171 => ?_) (fun c171 => absurd c171 (by omega))
    exact K
  | succ j ih =>
    intro i b hi hb
    have hk := (hA.2 i (by omega)).1
    have h4 := hk4 _ (xmem_getD (d := (0, 0, 0)) (show i < M.length by omega))
    cases b with
    | true =>
      refine wp_iload dX12_rhyme_165 rfl (wp_aload_n dX12_rhyme_167 rfl rfl (gv11_195 dX12_rhyme_168 (xsh hX sh_187) h39 ?_))
      refine wn_icmp_ge dX12_rhyme_171 rfl (by omega) (by omega) (fun c171 => absurd c171 (by omega)) (fun c171 => ?_)
      refine wp_iload_n dX12_rhyme_174 rfl ?_
      refine wb_if_ne dX12_rhyme_175 rfl (fun c175 => ?_) (fun c175 => absurd c175 (by decide))
      exact wp_iconst (v := nI 1) dX12_rhyme_222 rfl (wp_goto dX12_rhyme_223 rfl (wp_istore_n dX12_rhyme_227 ⟨Nat.le_of_ble_eq_true rfl, Or.inr rfl⟩ rfl (wp_iinc dX12_rhyme_228 rfl (nI_1 _) ⟨Nat.le_of_ble_eq_true rfl, Or.inr rfl⟩ rfl (wp_goto dX12_rhyme_231 rfl (ih (i + 1) true (by omega) (by rw [xany_succ (by omega), ← hb, Bool.true_or]))))))
    | false =>
      have ek : ∀ w, xkz (M.getD i (0, 0, 0)) = w → (false || xkz (M.getD i (0, 0, 0))) = w := fun w h => by rw [Bool.false_or]; exact h
      rcases Decidable.em ((M.getD i (0, 0, 0)).1 = 0) with e0 | e0
      · have e := ek true (decide_eq_true (Or.inl e0))
        refine wp_iload dX12_rhyme_165 rfl (wp_aload_n dX12_rhyme_167 rfl rfl (gv11_195 dX12_rhyme_168 (xsh hX sh_187) h39 ?_))
        refine wn_icmp_ge dX12_rhyme_171 rfl (by omega) (by omega) (fun c171 => absurd c171 (by omega)) (fun c171 => ?_)
        refine wp_iload_n dX12_rhyme_174 rfl ?_
        refine wb_if_ne dX12_rhyme_175 rfl (fun c175 => absurd c175 (by decide)) (fun c175 => ?_)
        refine wp_aload_n dX12_rhyme_178 rfl rfl (g11_207 dX12_rhyme_179 (xsh hX sh_187) (xrr hX r187_32) (wp_sipush (v := nI 732) dX12_rhyme_182 rfl (wp_iload dX12_rhyme_185 rfl (wv_iadd dX12_rhyme_187 (nI_add _ _) (wn_iaload dX12_rhyme_188 (xsh hX sh_198) rfl (by omega) (by decide) hk ?_)))))
        refine wn_if_eq dX12_rhyme_189 rfl (by omega) (fun c189 => ?_) (fun c189 => absurd c189 (by omega))
        exact wp_iconst (v := nI 1) dX12_rhyme_222 rfl (wp_goto dX12_rhyme_223 rfl (wp_istore_n dX12_rhyme_227 ⟨Nat.le_of_ble_eq_true rfl, Or.inr rfl⟩ rfl (wp_iinc dX12_rhyme_228 rfl (nI_1 _) ⟨Nat.le_of_ble_eq_true rfl, Or.inr rfl⟩ rfl (wp_goto dX12_rhyme_231 rfl (ih (i + 1) true (by omega) (by rw [xany_succ (by omega), ← hb, e]))))))
      rcases Decidable.em ((M.getD i (0, 0, 0)).1 = 1) with e1 | e1
      · have e := ek true (decide_eq_true (Or.inr (Or.inl e1)))
        refine wp_iload dX12_rhyme_165 rfl (wp_aload_n dX12_rhyme_167 rfl rfl (gv11_195 dX12_rhyme_168 (xsh hX sh_187) h39 ?_))
        refine wn_icmp_ge dX12_rhyme_171 rfl (by omega) (by omega) (fun c171 => absurd c171 (by omega)) (fun c171 => ?_)
        refine wp_iload_n dX12_rhyme_174 rfl ?_
        refine wb_if_ne dX12_rhyme_175 rfl (fun c175 => absurd c175 (by decide)) (fun c175 => ?_)
        refine wp_aload_n dX12_rhyme_178 rfl rfl (g11_207 dX12_rhyme_179 (xsh hX sh_187) (xrr hX r187_32) (wp_sipush (v := nI 732) dX12_rhyme_182 rfl (wp_iload dX12_rhyme_185 rfl (wv_iadd dX12_rhyme_187 (nI_add _ _) (wn_iaload dX12_rhyme_188 (xsh hX sh_198) rfl (by omega) (by decide) hk ?_)))))
        refine wn_if_eq dX12_rhyme_189 rfl (by omega) (fun c189 => absurd c189 (by omega)) (fun c189 => ?_)
        refine wp_aload_n dX12_rhyme_192 rfl rfl (g11_207 dX12_rhyme_193 (xsh hX sh_187) (xrr hX r187_32) (wp_sipush (v := nI 732) dX12_rhyme_196 rfl (wp_iload dX12_rhyme_199 rfl (wv_iadd dX12_rhyme_201 (nI_add _ _) (wn_iaload dX12_rhyme_202 (xsh hX sh_198) rfl (by omega) (by decide) hk (wp_iconst (v := nI 1) dX12_rhyme_203 rfl ?_))))))
        refine wn_icmp_eq dX12_rhyme_204 rfl (by omega) (by omega) (fun c204 => ?_) (fun c204 => absurd c204 (by omega))
        exact wp_iconst (v := nI 1) dX12_rhyme_222 rfl (wp_goto dX12_rhyme_223 rfl (wp_istore_n dX12_rhyme_227 ⟨Nat.le_of_ble_eq_true rfl, Or.inr rfl⟩ rfl (wp_iinc dX12_rhyme_228 rfl (nI_1 _) ⟨Nat.le_of_ble_eq_true rfl, Or.inr rfl⟩ rfl (wp_goto dX12_rhyme_231 rfl (ih (i + 1) true (by omega) (by rw [xany_succ (by omega), ← hb, e]))))))
      rcases Decidable.em ((M.getD i (0, 0, 0)).1 = 3) with e3 | e3
      · have e := ek true (decide_eq_true (Or.inr (Or.inr e3)))
        refine wp_iload dX12_rhyme_165 rfl (wp_aload_n dX12_rhyme_167 rfl rfl (gv11_195 dX12_rhyme_168 (xsh hX sh_187) h39 ?_))
        refine wn_icmp_ge dX12_rhyme_171 rfl (by omega) (by omega) (fun c171 => absurd c171 (by omega)) (fun c171 => ?_)
        refine wp_iload_n dX12_rhyme_174 rfl ?_
        refine wb_if_ne dX12_rhyme_175 rfl (fun c175 => absurd c175 (by decide)) (fun c175 => ?_)
        refine wp_aload_n dX12_rhyme_178 rfl rfl (g11_207 dX12_rhyme_179 (xsh hX sh_187) (xrr hX r187_32) (wp_sipush (v := nI 732) dX12_rhyme_182 rfl (wp_iload dX12_rhyme_185 rfl (wv_iadd dX12_rhyme_187 (nI_add _ _) (wn_iaload dX12_rhyme_188 (xsh hX sh_198) rfl (by omega) (by decide) hk ?_)))))
        refine wn_if_eq dX12_rhyme_189 rfl (by omega) (fun c189 => absurd c189 (by omega)) (fun c189 => ?_)
        refine wp_aload_n dX12_rhyme_192 rfl rfl (g11_207 dX12_rhyme_193 (xsh hX sh_187) (xrr hX r187_32) (wp_sipush (v := nI 732) dX12_rhyme_196 rfl (wp_iload dX12_rhyme_199 rfl (wv_iadd dX12_rhyme_201 (nI_add _ _) (wn_iaload dX12_rhyme_202 (xsh hX sh_198) rfl (by omega) (by decide) hk (wp_iconst (v := nI 1) dX12_rhyme_203 rfl ?_))))))
        refine wn_icmp_eq dX12_rhyme_204 rfl (by omega) (by omega) (fun c204 => absurd c204 (by omega)) (fun c204 => ?_)
        refine wp_aload_n dX12_rhyme_207 rfl rfl (g11_207 dX12_rhyme_208 (xsh hX sh_187) (xrr hX r187_32) (wp_sipush (v := nI 732) dX12_rhyme_211 rfl (wp_iload dX12_rhyme_214 rfl (wv_iadd dX12_rhyme_216 (nI_add _ _) (wn_iaload dX12_rhyme_217 (xsh hX sh_198) rfl (by omega) (by decide) hk (wp_iconst (v := nI 3) dX12_rhyme_218 rfl ?_))))))
        refine wn_icmp_ne dX12_rhyme_219 rfl (by omega) (by omega) (fun c219 => absurd c219 (by omega)) (fun c219 => ?_)
        exact wp_iconst (v := nI 1) dX12_rhyme_222 rfl (wp_goto dX12_rhyme_223 rfl (wp_istore_n dX12_rhyme_227 ⟨Nat.le_of_ble_eq_true rfl, Or.inr rfl⟩ rfl (wp_iinc dX12_rhyme_228 rfl (nI_1 _) ⟨Nat.le_of_ble_eq_true rfl, Or.inr rfl⟩ rfl (wp_goto dX12_rhyme_231 rfl (ih (i + 1) true (by omega) (by rw [xany_succ (by omega), ← hb, e]))))))
      · have e := ek false (decide_eq_false (by omega))
        refine wp_iload dX12_rhyme_165 rfl (wp_aload_n dX12_rhyme_167 rfl rfl (gv11_195 dX12_rhyme_168 (xsh hX sh_187) h39 ?_))
        refine wn_icmp_ge dX12_rhyme_171 rfl (by omega) (by omega) (fun c171 => absurd c171 (by omega)) (fun c171 => ?_)
        refine wp_iload_n dX12_rhyme_174 rfl ?_
        refine wb_if_ne dX12_rhyme_175 rfl (fun c175 => absurd c175 (by decide)) (fun c175 => ?_)
        refine wp_aload_n dX12_rhyme_178 rfl rfl (g11_207 dX12_rhyme_179 (xsh hX sh_187) (xrr hX r187_32) (wp_sipush (v := nI 732) dX12_rhyme_182 rfl (wp_iload dX12_rhyme_185 rfl (wv_iadd dX12_rhyme_187 (nI_add _ _) (wn_iaload dX12_rhyme_188 (xsh hX sh_198) rfl (by omega) (by decide) hk ?_)))))
        refine wn_if_eq dX12_rhyme_189 rfl (by omega) (fun c189 => absurd c189 (by omega)) (fun c189 => ?_)
        refine wp_aload_n dX12_rhyme_192 rfl rfl (g11_207 dX12_rhyme_193 (xsh hX sh_187) (xrr hX r187_32) (wp_sipush (v := nI 732) dX12_rhyme_196 rfl (wp_iload dX12_rhyme_199 rfl (wv_iadd dX12_rhyme_201 (nI_add _ _) (wn_iaload dX12_rhyme_202 (xsh hX sh_198) rfl (by omega) (by decide) hk (wp_iconst (v := nI 1) dX12_rhyme_203 rfl ?_))))))
        refine wn_icmp_eq dX12_rhyme_204 rfl (by omega) (by omega) (fun c204 => absurd c204 (by omega)) (fun c204 => ?_)
        refine wp_aload_n dX12_rhyme_207 rfl rfl (g11_207 dX12_rhyme_208 (xsh hX sh_187) (xrr hX r187_32) (wp_sipush (v := nI 732) dX12_rhyme_211 rfl (wp_iload dX12_rhyme_214 rfl (wv_iadd dX12_rhyme_216 (nI_add _ _) (wn_iaload dX12_rhyme_217 (xsh hX sh_198) rfl (by omega) (by decide) hk (wp_iconst (v := nI 3) dX12_rhyme_218 rfl ?_))))))
        refine wn_icmp_ne dX12_rhyme_219 rfl (by omega) (by omega) (fun c219 => ?_) (fun c219 => absurd c219 (by omega))
        exact wp_iconst (v := nI 0) dX12_rhyme_226 rfl (wp_istore_n dX12_rhyme_227 ⟨Nat.le_of_ble_eq_true rfl, Or.inr rfl⟩ rfl (wp_iinc dX12_rhyme_228 rfl (nI_1 _) ⟨Nat.le_of_ble_eq_true rfl, Or.inr rfl⟩ rfl (wp_goto dX12_rhyme_231 rfl (ih (i + 1) false (by omega) (by rw [xany_succ (by omega), ← hb, e])))))
theorem ra_text {s n d : Nat} {x2 x3 : Int32} {t : Nat → Nat} {Q : Option Value → xS → Prop} (hs6 : s < 6) (hn : n ≤ 240) : ∀ (j i : Nat) (S : xS), i + j = n → XC S → xTxM S n t → (∀ k, k < i → S.2.1 195 (260 + 240 * s + k) = xby (t k)) → (∀ S', xFl (fun i k => i = 195 ∧ 260 + 240 * s ≤ k ∧ k < 260 + 240 * s + 240) S S' → (∀ k, k < n → S'.2.1 195 (260 + 240 * s + k) = xby (t k)) → Wp false (d + 4) 11 cX12_rhyme (some .int) false 289 [.ref 187, .int (nI s), .int x2, .int x3, .int (nI n)] [] S' Q) → Wp false (d + 4) 11 cX12_rhyme (some .int) false 250 [.ref 187, .int (nI s), .int x2, .int x3, .int (nI i)] [] S Q := by
  intro j
  induction j with
  | zero =>
    intro i S hi hX hT h K
    have hs := hT.1
    have hii : i = n := by omega
    subst hii
    refine wp_iload dX12_rhyme_250 rfl (wp_aload_n dX12_rhyme_252 rfl rfl (gv11_18 dX12_rhyme_253 (xsh hX sh_187) hs ?_))
    refine wn_icmp_ge dX12_rhyme_256 rfl (by omega) (by omega) (fun c256 => ?_) (fun c256 => absurd c256 (by omega))
    exact K S (xFl.rf S) h
  | succ j ih =>
    intro i S hi hX hT h K
    have hs := hT.1
    have hb := (hT.2.2 i (by omega)).2
    have F1 : xFl (fun i k => i = 195 ∧ 260 + 240 * s ≤ k ∧ k < 260 + 240 * s + 240) S (xSI S 195 (260 + 240 * s + i) (xby (t i))) := (xFl.rf S).SI ⟨rfl, by omega, by omega⟩
    refine wp_iload dX12_rhyme_250 rfl (wp_aload_n dX12_rhyme_252 rfl rfl (gv11_18 dX12_rhyme_253 (xsh hX sh_187) hs ?_))
    refine wn_icmp_ge dX12_rhyme_256 rfl (by omega) (by omega) (fun c256 => absurd c256 (by omega)) (fun c256 => ?_)
    refine wp_aload_n dX12_rhyme_259 rfl rfl (g11_150 dX12_rhyme_260 (xsh hX sh_187) (xrr hX r187_27) (wp_sipush (v := nI 260) dX12_rhyme_263 rfl (wp_sipush (v := nI 240) dX12_rhyme_266 rfl (wp_iload_n dX12_rhyme_269 rfl (wv_imul dX12_rhyme_270 (pk_mul _ _) (wv_iadd dX12_rhyme_271 (nI_add _ _) (wp_iload dX12_rhyme_272 rfl (wv_iadd dX12_rhyme_274 (nI_add _ _) (wp_aload_n dX12_rhyme_275 rfl rfl (g11_14 dX12_rhyme_276 (xsh hX sh_187) (xrr hX r187_1) (wp_iload dX12_rhyme_279 rfl (wn_baload dX12_rhyme_281 (xsh hX sh_188) (Or.inl rfl) (by omega) (by decide) hb (wn_bastore dX12_rhyme_282 (xsh hX sh_195) rfl (by omega) (by decide) (xnb _) (wp_iinc dX12_rhyme_283 rfl (nI_1 _) ⟨Nat.le_of_ble_eq_true rfl, Or.inr rfl⟩ rfl (wp_goto dX12_rhyme_286 rfl ?_)))))))))))))))
    refine ih (i + 1) (xSI S 195 (260 + 240 * s + i) (xby (t i))) (by omega) (F1.XC hX) (hT.fr F1 (by omega) (fun k => by omega)) (fun k hk => ?_) (fun S' f h' => K S' (F1.tt f) h')
    rcases Nat.lt_or_ge k i with q | q
    · exact xi (h k q) (Or.inr (by omega))
    · rw [show k = i by omega]; exact xI_same _ _ _ _
theorem ra_items {s d : Nat} {x2 x3 : Int32} {M : List xIt} {Q : Option Value → xS → Prop} (hs6 : s < 6) (hM : M.length ≤ 121) : ∀ (j i : Nat) (S : xS), i + j = M.length → XC S → xMA S M → (∀ k, k < i → S.2.1 198 (122 * s + k) = nI (M.getD k (0, 0, 0)).1 ∧ S.2.1 199 (122 * s + k) = nI (260 + 240 * s + (M.getD k (0, 0, 0)).2.1) ∧ S.2.1 200 (122 * s + k) = nI (M.getD k (0, 0, 0)).2.2) → (∀ S', xFl (fun i k => (i = 198 ∨ i = 199 ∨ i = 200) ∧ 122 * s ≤ k ∧ k < 122 * s + 122) S S' → (∀ k, k < M.length → S'.2.1 198 (122 * s + k) = nI (M.getD k (0, 0, 0)).1 ∧ S'.2.1 199 (122 * s + k) = nI (260 + 240 * s + (M.getD k (0, 0, 0)).2.1) ∧ S'.2.1 200 (122 * s + k) = nI (M.getD k (0, 0, 0)).2.2) → Wp false (d + 4) 11 cX12_rhyme (some .int) false 386 [.ref 187, .int (nI s), .int x2, .int x3, .int (nI M.length)] [] S' Q) → Wp false (d + 4) 11 cX12_rhyme (some .int) false 292 [.ref 187, .int (nI s), .int x2, .int x3, .int (nI i)] [] S Q := by
  intro j
  induction j with
  | zero =>
    intro i S hi hX hA h K
    have h39 := hA.1
    have hii : i = M.length := by omega
    subst hii
    refine wp_iload dX12_rhyme_292 rfl (wp_aload_n dX12_rhyme_294 rfl rfl (gv11_195 dX12_rhyme_295 (xsh hX sh_187) h39 ?_))
    refine wn_icmp_ge dX12_rhyme_298 rfl (by omega) (by omega) (fun c298 => ?_) (fun c298 => absurd c298 (by omega))
    exact K S (xFl.rf S) h
  | succ j ih =>
    intro i S hi hX hA h K
    have h39 := hA.1
    obtain ⟨a1, a2, a3⟩ := hA.2 i (by omega)
    have b2 : (xSI S 198 (122 * s + i) (nI (M.getD i (0, 0, 0)).1)).2.1 199 (732 + i) = nI (M.getD i (0, 0, 0)).2.1 := xi a2 (Or.inl (by decide))
    have b3 : (xSI (xSI S 198 (122 * s + i) (nI (M.getD i (0, 0, 0)).1)) 199 (122 * s + i) (nI (260 + 240 * s + (M.getD i (0, 0, 0)).2.1))).2.1 200 (732 + i) = nI (M.getD i (0, 0, 0)).2.2 := xi (xi a3 (Or.inl (by decide))) (Or.inl (by decide))
    have F1 : xFl (fun i k => (i = 198 ∨ i = 199 ∨ i = 200) ∧ 122 * s ≤ k ∧ k < 122 * s + 122) S (xSI (xSI (xSI S 198 (122 * s + i) (nI (M.getD i (0, 0, 0)).1)) 199 (122 * s + i) (nI (260 + 240 * s + (M.getD i (0, 0, 0)).2.1))) 200 (122 * s + i) (nI (M.getD i (0, 0, 0)).2.2)) := (((xFl.rf S).SI ⟨Or.inl rfl, by omega, by omega⟩).SI ⟨Or.inr (Or.inl rfl), by omega, by omega⟩).SI ⟨Or.inr (Or.inr rfl), by omega, by omega⟩
    have A1 : xMA (xSI (xSI (xSI S 198 (122 * s + i) (nI (M.getD i (0, 0, 0)).1)) 199 (122 * s + i) (nI (260 + 240 * s + (M.getD i (0, 0, 0)).2.1))) 200 (122 * s + i) (nI (M.getD i (0, 0, 0)).2.2)) M := ⟨F1.i h39 (by omega), fun q hq => ⟨F1.i (hA.2 q hq).1 (by omega), F1.i (hA.2 q hq).2.1 (by omega), F1.i (hA.2 q hq).2.2 (by omega)⟩⟩
    refine wp_iload dX12_rhyme_292 rfl (wp_aload_n dX12_rhyme_294 rfl rfl (gv11_195 dX12_rhyme_295 (xsh hX sh_187) h39 ?_))
    refine wn_icmp_ge dX12_rhyme_298 rfl (by omega) (by omega) (fun c298 => absurd c298 (by omega)) (fun c298 => ?_)
    refine wp_aload_n dX12_rhyme_301 rfl rfl (g11_207 dX12_rhyme_302 (xsh hX sh_187) (xrr hX r187_32) (wp_bipush (v := nI 122) dX12_rhyme_305 rfl (wp_iload_n dX12_rhyme_307 rfl (wv_imul dX12_rhyme_308 (pk_mul _ _) (wp_iload dX12_rhyme_309 rfl (wv_iadd dX12_rhyme_311 (nI_add _ _) (wp_aload_n dX12_rhyme_312 rfl rfl (g11_207 dX12_rhyme_313 (xsh hX sh_187) (xrr hX r187_32) (wp_sipush (v := nI 732) dX12_rhyme_316 rfl (wp_iload dX12_rhyme_319 rfl (wv_iadd dX12_rhyme_321 (nI_add _ _) (wn_iaload dX12_rhyme_322 (xsh hX sh_198) rfl (by omega) (by decide) a1 (wn_iastore dX12_rhyme_323 (xsh hX sh_198) rfl (by omega) (by decide) (wp_aload_n dX12_rhyme_324 rfl rfl (g11_210 dX12_rhyme_325 (xsh hX sh_187) (xrr hX r187_33) (wp_bipush (v := nI 122) dX12_rhyme_328 rfl (wp_iload_n dX12_rhyme_330 rfl (wv_imul dX12_rhyme_331 (pk_mul _ _) (wp_iload dX12_rhyme_332 rfl (wv_iadd dX12_rhyme_334 (nI_add _ _) (wp_sipush (v := nI 260) dX12_rhyme_335 rfl (wp_sipush (v := nI 240) dX12_rhyme_338 rfl (wp_iload_n dX12_rhyme_341 rfl (wv_imul dX12_rhyme_342 (pk_mul _ _) (wv_iadd dX12_rhyme_343 (nI_add _ _) (wp_aload_n dX12_rhyme_344 rfl rfl (g11_210 dX12_rhyme_345 (xsh hX sh_187) (xrr hX r187_33) (wp_sipush (v := nI 732) dX12_rhyme_348 rfl (wp_iload dX12_rhyme_351 rfl (wv_iadd dX12_rhyme_353 (nI_add _ _) (wn_iaload dX12_rhyme_354 (xsh hX sh_199) rfl (by omega) (by decide) b2 (wv_iadd dX12_rhyme_355 (nI_add _ _) (wn_iastore dX12_rhyme_356 (xsh hX sh_199) rfl (by omega) (by decide) (wp_aload_n dX12_rhyme_357 rfl rfl (g11_213 dX12_rhyme_358 (xsh hX sh_187) (xrr hX r187_34) (wp_bipush (v := nI 122) dX12_rhyme_361 rfl (wp_iload_n dX12_rhyme_363 rfl (wv_imul dX12_rhyme_364 (pk_mul _ _) (wp_iload dX12_rhyme_365 rfl (wv_iadd dX12_rhyme_367 (nI_add _ _) (wp_aload_n dX12_rhyme_368 rfl rfl (g11_213 dX12_rhyme_369 (xsh hX sh_187) (xrr hX r187_34) (wp_sipush (v := nI 732) dX12_rhyme_372 rfl (wp_iload dX12_rhyme_375 rfl (wv_iadd dX12_rhyme_377 (nI_add _ _) (wn_iaload dX12_rhyme_378 (xsh hX sh_200) rfl (by omega) (by decide) b3 (wn_iastore dX12_rhyme_379 (xsh hX sh_200) rfl (by omega) (by decide) (wp_iinc dX12_rhyme_380 rfl (nI_1 _) ⟨Nat.le_of_ble_eq_true rfl, Or.inr rfl⟩ rfl (wp_goto dX12_rhyme_383 rfl ?_)))))))))))))))))))))))))))))))))))))))))))))))))
    refine ih (i + 1) _ (by omega) (F1.XC hX) A1 (fun k hk => ?_) (fun S' f h' => K S' (F1.tt f) h')
    rcases Nat.lt_or_ge k i with q | q
    · exact ⟨xi (xi (xi (h k q).1 (Or.inr (by omega))) (Or.inl (by decide))) (Or.inl (by decide)), xi (xi (xi (h k q).2.1 (Or.inl (by decide))) (Or.inr (by omega))) (Or.inl (by decide)), xi (xi (xi (h k q).2.2 (Or.inl (by decide))) (Or.inl (by decide))) (Or.inr (by omega))⟩
    · rw [show k = i by omega]; exact ⟨xi (xi (xI_same _ _ _ _) (Or.inl (by decide))) (Or.inl (by decide)), xi (xI_same _ _ _ _) (Or.inl (by decide)), xI_same _ _ _ _⟩
theorem ra_lf {s ln d : Nat} {x2 x3 : Int32} {f : Nat → Nat} {Q : Option Value → xS → Prop} (hs6 : s < 6) (hl : ln ≤ 16) : ∀ (j i : Nat) (S : xS), i + j = ln + 1 → XC S → S.2.1 187 40 = nI ln → (∀ k, k ≤ ln → S.2.1 201 (102 + k) = nI (f k)) → (∀ k, k < i → S.2.1 201 (17 * s + k) = nI (f k)) → (∀ S', xFl (fun i k => i = 201 ∧ 17 * s ≤ k ∧ k < 17 * s + 17) S S' → (∀ k, k ≤ ln → S'.2.1 201 (17 * s + k) = nI (f k)) → Wp false (d + 4) 11 cX12_rhyme (some .int) false 426 [.ref 187, .int (nI s), .int x2, .int x3, .int (nI (ln + 1))] [] S' Q) → Wp false (d + 4) 11 cX12_rhyme (some .int) false 389 [.ref 187, .int (nI s), .int x2, .int x3, .int (nI i)] [] S Q := by
  intro j
  induction j with
  | zero =>
    intro i S hi hX h40 hA h K
    have hii : i = ln + 1 := by omega
    subst hii
    refine wp_iload dX12_rhyme_389 rfl (wp_aload_n dX12_rhyme_391 rfl rfl (gv11_198 dX12_rhyme_392 (xsh hX sh_187) h40 ?_))
    refine wn_icmp_gt dX12_rhyme_395 rfl (by omega) (by omega) (fun c395 => ?_) (fun c395 => absurd c395 (by omega))
    exact K S (xFl.rf S) (fun k hk => h k (by omega))
  | succ j ih =>
    intro i S hi hX h40 hA h K
    have a1 := hA i (by omega)
    have F1 : xFl (fun i k => i = 201 ∧ 17 * s ≤ k ∧ k < 17 * s + 17) S (xSI S 201 (17 * s + i) (nI (f i))) := (xFl.rf S).SI ⟨rfl, by omega, by omega⟩
    refine wp_iload dX12_rhyme_389 rfl (wp_aload_n dX12_rhyme_391 rfl rfl (gv11_198 dX12_rhyme_392 (xsh hX sh_187) h40 ?_))
    refine wn_icmp_gt dX12_rhyme_395 rfl (by omega) (by omega) (fun c395 => absurd c395 (by omega)) (fun c395 => ?_)
    refine wp_aload_n dX12_rhyme_398 rfl rfl (g11_216 dX12_rhyme_399 (xsh hX sh_187) (xrr hX r187_35) (wp_bipush (v := nI 17) dX12_rhyme_402 rfl (wp_iload_n dX12_rhyme_404 rfl (wv_imul dX12_rhyme_405 (pk_mul _ _) (wp_iload dX12_rhyme_406 rfl (wv_iadd dX12_rhyme_408 (nI_add _ _) (wp_aload_n dX12_rhyme_409 rfl rfl (g11_216 dX12_rhyme_410 (xsh hX sh_187) (xrr hX r187_35) (wp_bipush (v := nI 102) dX12_rhyme_413 rfl (wp_iload dX12_rhyme_415 rfl (wv_iadd dX12_rhyme_417 (nI_add _ _) (wn_iaload dX12_rhyme_418 (xsh hX sh_201) rfl (by omega) (by decide) a1 (wn_iastore dX12_rhyme_419 (xsh hX sh_201) rfl (by omega) (by decide) (wp_iinc dX12_rhyme_420 rfl (nI_1 _) ⟨Nat.le_of_ble_eq_true rfl, Or.inr rfl⟩ rfl (wp_goto dX12_rhyme_423 rfl ?_)))))))))))))))
    refine ih (i + 1) _ (by omega) (F1.XC hX) (F1.i h40 (by omega)) (fun k hk => F1.i (hA k hk) (by omega)) (fun k hk => ?_) (fun S' g h' => K S' (F1.tt g) h')
    rcases Nat.lt_or_ge k i with q | q
    · exact xi (h k q) (Or.inr (by omega))
    · rw [show k = i by omega]; exact xI_same _ _ _ _
theorem ra_tm {s ln d : Nat} {x2 x3 : Int32} {f : Nat → Nat} {Q : Option Value → xS → Prop} (hs6 : s < 6) (hl : ln ≤ 16) : ∀ (j i : Nat) (S : xS), i + j = ln → XC S → S.2.1 187 40 = nI ln → (∀ k, k < ln → S.2.1 202 (96 + k) = nI (f k)) → (∀ k, k < i → S.2.1 202 (16 * s + k) = nI (f k)) → (∀ S', xFl (fun i k => i = 202 ∧ 16 * s ≤ k ∧ k < 16 * s + 16) S S' → (∀ k, k < ln → S'.2.1 202 (16 * s + k) = nI (f k)) → Wp false (d + 4) 11 cX12_rhyme (some .int) false 466 [.ref 187, .int (nI s), .int x2, .int x3, .int (nI (ln))] [] S' Q) → Wp false (d + 4) 11 cX12_rhyme (some .int) false 429 [.ref 187, .int (nI s), .int x2, .int x3, .int (nI i)] [] S Q := by
  intro j
  induction j with
  | zero =>
    intro i S hi hX h40 hA h K
    have hii : i = ln := by omega
    subst hii
    refine wp_iload dX12_rhyme_429 rfl (wp_aload_n dX12_rhyme_431 rfl rfl (gv11_198 dX12_rhyme_432 (xsh hX sh_187) h40 ?_))
    refine wn_icmp_ge dX12_rhyme_435 rfl (by omega) (by omega) (fun c435 => ?_) (fun c435 => absurd c435 (by omega))
    exact K S (xFl.rf S) (fun k hk => h k (by omega))
  | succ j ih =>
    intro i S hi hX h40 hA h K
    have a1 := hA i (by omega)
    have F1 : xFl (fun i k => i = 202 ∧ 16 * s ≤ k ∧ k < 16 * s + 16) S (xSI S 202 (16 * s + i) (nI (f i))) := (xFl.rf S).SI ⟨rfl, by omega, by omega⟩
    refine wp_iload dX12_rhyme_429 rfl (wp_aload_n dX12_rhyme_431 rfl rfl (gv11_198 dX12_rhyme_432 (xsh hX sh_187) h40 ?_))
    refine wn_icmp_ge dX12_rhyme_435 rfl (by omega) (by omega) (fun c435 => absurd c435 (by omega)) (fun c435 => ?_)
    refine wp_aload_n dX12_rhyme_438 rfl rfl (g11_219 dX12_rhyme_439 (xsh hX sh_187) (xrr hX r187_36) (wp_bipush (v := nI 16) dX12_rhyme_442 rfl (wp_iload_n dX12_rhyme_444 rfl (wv_imul dX12_rhyme_445 (pk_mul _ _) (wp_iload dX12_rhyme_446 rfl (wv_iadd dX12_rhyme_448 (nI_add _ _) (wp_aload_n dX12_rhyme_449 rfl rfl (g11_219 dX12_rhyme_450 (xsh hX sh_187) (xrr hX r187_36) (wp_bipush (v := nI 96) dX12_rhyme_453 rfl (wp_iload dX12_rhyme_455 rfl (wv_iadd dX12_rhyme_457 (nI_add _ _) (wn_iaload dX12_rhyme_458 (xsh hX sh_202) rfl (by omega) (by decide) a1 (wn_iastore dX12_rhyme_459 (xsh hX sh_202) rfl (by omega) (by decide) (wp_iinc dX12_rhyme_460 rfl (nI_1 _) ⟨Nat.le_of_ble_eq_true rfl, Or.inr rfl⟩ rfl (wp_goto dX12_rhyme_463 rfl ?_)))))))))))))))
    refine ih (i + 1) _ (by omega) (F1.XC hX) (F1.i h40 (by omega)) (fun k hk => F1.i (hA k hk) (by omega)) (fun k hk => ?_) (fun S' g h' => K S' (F1.tt g) h')
    rcases Nat.lt_or_ge k i with q | q
    · exact xi (h k q) (Or.inr (by omega))
    · rw [show k = i by omega]; exact xI_same _ _ _ _
