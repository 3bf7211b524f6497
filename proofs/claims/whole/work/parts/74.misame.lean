/-! CHANGES: isSame of the reference -/
theorem xcI_i {ln : xLn} {i : Nat} (hi : i < (xcI ln).length) (h : ¬ (i = 0 ∧ 1 < ln.1)) : ∃ p, p < (xmit ln).length ∧ (xcI ln).getD i (0, 0, 0) = (xmit ln).getD p (0, 0, 0) ∧ i = p + (if 1 < ln.1 then 1 else 0) := by
  unfold xcI at hi ⊢
  rcases Decidable.em (1 < ln.1) with w | w
  · rw [if_pos w] at hi ⊢
    rcases i with _ | i
    · exact absurd ⟨rfl, w⟩ h
    · refine ⟨i, ?_, rfl, by rw [if_pos w]⟩
      have : i + 1 < ln.2.2.length + 1 := by simpa using hi
      show i < ln.2.2.length
      omega
  · rw [if_neg w] at hi ⊢
    exact ⟨i, hi, rfl, by rw [if_neg w]; omega⟩
theorem xor_F {p q : Prop} [Decidable p] [Decidable q] (h : ¬ (p ∨ q)) : decide p = false ∧ decide q = false := ⟨decide_eq_false (fun w => h (Or.inl w)), decide_eq_false (fun w => h (Or.inr w))⟩
theorem is_loop {n1 n2 s1 s2 : Nat} {t1 t2 : Nat → Nat} {L1 L2 : List xLn} {x1 x2 x3 x4 x5 x6 x7 x8 : Value} {p q : Nat} {d : Nat} (hs1 : s1 < 6) (hs2 : s2 < 6) (ok1 : xRok t1 n1 L1) (ok2 : xRok t2 n2 L2) (hn1 : n1 ≤ 240) (hn2 : n2 ≤ 240) (hm1 : (L1.flatMap xmit).length ≤ 121) (hm2 : (L2.flatMap xmit).length ≤ 121) (h161 : L1.length ≤ 16) (h162 : L2.length ≤ 16) {S : xS} (hX : XC S) (hM1 : xRM s1 S n1 t1 L1) (hM2 : xRM s2 S n2 t2 L2) (hp : p < (L1.flatMap xmit).length) (hq : q < (L2.flatMap xmit).length) (hk1 : ((L1.flatMap xmit).getD p (0, 0, 0)).1 ≤ 1) (hk2 : ((L2.flatMap xmit).getD q (0, 0, 0)).1 ≤ 1) (hw : ((L1.flatMap xmit).getD p (0, 0, 0)).2.2 = ((L2.flatMap xmit).getD q (0, 0, 0)).2.2) : ∀ (r k : Nat), k + r = ((L1.flatMap xmit).getD p (0, 0, 0)).2.2 → (∀ e, e < k → t1 (((L1.flatMap xmit).getD p (0, 0, 0)).2.1 + e) = t2 (((L2.flatMap xmit).getD q (0, 0, 0)).2.1 + e)) → Wp false d 11 cX12_isSame (some .boolean) false 248 [.ref 187, x1, x2, x3, x4, x5, x6, x7, x8, .int (nI (122 * s1 + p)), .int (nI (122 * s2 + q)), .int (nI k)] [] S (fun r S' => r = some (.int (xB (decide (∀ e, e < ((L1.flatMap xmit).getD p (0, 0, 0)).2.2 → t1 (((L1.flatMap xmit).getD p (0, 0, 0)).2.1 + e) = t2 (((L2.flatMap xmit).getD q (0, 0, 0)).2.1 + e))))) ∧ S' = S) := by
  obtain ⟨a1, a2, a3⟩ := hM1.2.1 p hp
  obtain ⟨b1, b2, b3⟩ := hM2.2.1 q hq
  obtain ⟨io1, ib1⟩ := xmit_bd ok1 (xmem_getD (d := (0, 0, 0)) hp)
  obtain ⟨io2, ib2⟩ := xmit_bd ok2 (xmem_getD (d := (0, 0, 0)) hq)
  have w1 := io1.1 (by omega)
  have w2 := io2.1 (by omega)
  intro r
  induction r with
  | zero =>
    intro k hk h
    have hkk : k = ((L1.flatMap xmit).getD p (0, 0, 0)).2.2 := by omega
    rw [decide_eq_true (fun e he => h e (by omega))]
    refine wp_iload dX12_isSame_248 rfl (wp_aload_n dX12_isSame_250 rfl rfl (g11_213 dX12_isSame_251 (xsh hX sh_187) (xrr hX r187_34) (wp_iload dX12_isSame_254 rfl (wn_iaload dX12_isSame_256 (xsh hX sh_200) rfl (by omega) (by decide) a3 ?_))))
    refine wn_icmp_ge dX12_isSame_257 rfl (by omega) (by omega) (fun c257 => ?_) (fun c257 => absurd c257 (by omega))
    exact wp_iconst (v := nI 1) dX12_isSame_301 rfl (wb_ret dX12_isSame_302 rfl rfl ⟨rfl, rfl⟩)
  | succ r ih =>
    intro k hk h
    have e1 := hM1.1 (((L1.flatMap xmit).getD p (0, 0, 0)).2.1 + k) (by omega)
    have e2 := hM2.1 (((L2.flatMap xmit).getD q (0, 0, 0)).2.1 + k) (by omega)
    have m1 := xsm_b (w1.2.2 k (by omega))
    have m2 := xsm_b (w2.2.2 k (by omega))
    rw [xby_lo _ (by omega), ← Nat.add_assoc] at e1
    rw [xby_lo _ (by omega), ← Nat.add_assoc] at e2
    rcases Decidable.em (t1 (((L1.flatMap xmit).getD p (0, 0, 0)).2.1 + k) = t2 (((L2.flatMap xmit).getD q (0, 0, 0)).2.1 + k)) with e | e
    · refine wp_iload dX12_isSame_248 rfl (wp_aload_n dX12_isSame_250 rfl rfl (g11_213 dX12_isSame_251 (xsh hX sh_187) (xrr hX r187_34) (wp_iload dX12_isSame_254 rfl (wn_iaload dX12_isSame_256 (xsh hX sh_200) rfl (by omega) (by decide) a3 ?_))))
      refine wn_icmp_ge dX12_isSame_257 rfl (by omega) (by omega) (fun c257 => absurd c257 (by omega)) (fun c257 => ?_)
      refine wp_aload_n dX12_isSame_260 rfl rfl (g11_150 dX12_isSame_261 (xsh hX sh_187) (xrr hX r187_27) (wp_aload_n dX12_isSame_264 rfl rfl (g11_210 dX12_isSame_265 (xsh hX sh_187) (xrr hX r187_33) (wp_iload dX12_isSame_268 rfl (wn_iaload dX12_isSame_270 (xsh hX sh_199) rfl (by omega) (by decide) a2 (wp_iload dX12_isSame_271 rfl (wv_iadd dX12_isSame_273 (nI_add _ _) (wn_baload dX12_isSame_274 (xsh hX sh_195) (Or.inl rfl) (by omega) (by decide) e1 (wp_aload_n dX12_isSame_275 rfl rfl (g11_150 dX12_isSame_276 (xsh hX sh_187) (xrr hX r187_27) (wp_aload_n dX12_isSame_279 rfl rfl (g11_210 dX12_isSame_280 (xsh hX sh_187) (xrr hX r187_33) (wp_iload dX12_isSame_283 rfl (wn_iaload dX12_isSame_285 (xsh hX sh_199) rfl (by omega) (by decide) b2 (wp_iload dX12_isSame_286 rfl (wv_iadd dX12_isSame_288 (nI_add _ _) (wn_baload dX12_isSame_289 (xsh hX sh_195) (Or.inl rfl) (by omega) (by decide) e2 ?_)))))))))))))))))
      refine wn_icmp_eq dX12_isSame_290 rfl (by omega) (by omega) (fun c290 => ?_) (fun c290 => absurd c290 (by omega))
      refine wp_iinc dX12_isSame_295 rfl (nI_1 _) ⟨Nat.le_of_ble_eq_true rfl, Or.inr rfl⟩ rfl (wp_goto dX12_isSame_298 rfl ?_)
      refine ih (k + 1) (by omega) (fun z hz => ?_)
      rcases Nat.lt_or_ge z k with w | w
      · exact h z w
      · rw [show z = k by omega]; exact e
    · rw [decide_eq_false (fun w => e (w k (by omega)))]
      refine wp_iload dX12_isSame_248 rfl (wp_aload_n dX12_isSame_250 rfl rfl (g11_213 dX12_isSame_251 (xsh hX sh_187) (xrr hX r187_34) (wp_iload dX12_isSame_254 rfl (wn_iaload dX12_isSame_256 (xsh hX sh_200) rfl (by omega) (by decide) a3 ?_))))
      refine wn_icmp_ge dX12_isSame_257 rfl (by omega) (by omega) (fun c257 => absurd c257 (by omega)) (fun c257 => ?_)
      refine wp_aload_n dX12_isSame_260 rfl rfl (g11_150 dX12_isSame_261 (xsh hX sh_187) (xrr hX r187_27) (wp_aload_n dX12_isSame_264 rfl rfl (g11_210 dX12_isSame_265 (xsh hX sh_187) (xrr hX r187_33) (wp_iload dX12_isSame_268 rfl (wn_iaload dX12_isSame_270 (xsh hX sh_199) rfl (by omega) (by decide) a2 (wp_iload dX12_isSame_271 rfl (wv_iadd dX12_isSame_273 (nI_add _ _) (wn_baload dX12_isSame_274 (xsh hX sh_195) (Or.inl rfl) (by omega) (by decide) e1 (wp_aload_n dX12_isSame_275 rfl rfl (g11_150 dX12_isSame_276 (xsh hX sh_187) (xrr hX r187_27) (wp_aload_n dX12_isSame_279 rfl rfl (g11_210 dX12_isSame_280 (xsh hX sh_187) (xrr hX r187_33) (wp_iload dX12_isSame_283 rfl (wn_iaload dX12_isSame_285 (xsh hX sh_199) rfl (by omega) (by decide) b2 (wp_iload dX12_isSame_286 rfl (wv_iadd dX12_isSame_288 (nI_add _ _) (wn_baload dX12_isSame_289 (xsh hX sh_195) (Or.inl rfl) (by omega) (by decide) e2 ?_)))))))))))))))))
      refine wn_icmp_eq dX12_isSame_290 rfl (by omega) (by omega) (fun c290 => absurd c290 (by omega)) (fun c290 => ?_)
      exact wp_iconst (v := nI 0) dX12_isSame_293 rfl (wb_ret dX12_isSame_294 rfl rfl ⟨rfl, rfl⟩)
theorem is_cmp {n1 n2 s1 s2 : Nat} {t1 t2 : Nat → Nat} {L1 L2 : List xLn} {x1 x2 x3 x4 x5 x6 x7 x8 x11 : Value} {p q : Nat} {d : Nat} (hs1 : s1 < 6) (hs2 : s2 < 6) (ok1 : xRok t1 n1 L1) (ok2 : xRok t2 n2 L2) (hn1 : n1 ≤ 240) (hn2 : n2 ≤ 240) (hm1 : (L1.flatMap xmit).length ≤ 121) (hm2 : (L2.flatMap xmit).length ≤ 121) (h161 : L1.length ≤ 16) (h162 : L2.length ≤ 16) {S : xS} (hX : XC S) (hM1 : xRM s1 S n1 t1 L1) (hM2 : xRM s2 S n2 t2 L2) (hp : p < (L1.flatMap xmit).length) (hq : q < (L2.flatMap xmit).length) : Wp false d 11 cX12_isSame (some .boolean) false 196 [.ref 187, x1, x2, x3, x4, x5, x6, x7, x8, .int (nI (122 * s1 + p)), .int (nI (122 * s2 + q)), x11] [] S (fun r S' => r = some (.int (xB (xsmi t1 ((L1.flatMap xmit).getD p (0, 0, 0)) t2 ((L2.flatMap xmit).getD q (0, 0, 0))))) ∧ S' = S) := by
  obtain ⟨a1, a2, a3⟩ := hM1.2.1 p hp
  obtain ⟨b1, b2, b3⟩ := hM2.2.1 q hq
  obtain ⟨io1, ib1⟩ := xmit_bd ok1 (xmem_getD (d := (0, 0, 0)) hp)
  obtain ⟨io2, ib2⟩ := xmit_bd ok2 (xmem_getD (d := (0, 0, 0)) hq)
  have h41 := io1.2.2.2.2.2
  have h42 := io2.2.2.2.2.2
  rw [xsmi_ii io1 io2]
  rcases Decidable.em (((L1.flatMap xmit).getD p (0, 0, 0)).1 = ((L2.flatMap xmit).getD q (0, 0, 0)).1) with ek | ek
  · rcases Decidable.em (((L1.flatMap xmit).getD p (0, 0, 0)).2.2 = ((L2.flatMap xmit).getD q (0, 0, 0)).2.2) with ew | ew
    · rcases Nat.lt_or_ge 1 ((L1.flatMap xmit).getD p (0, 0, 0)).1 with e1 | e1
      · rw [decide_eq_true ⟨ek, ew, fun w => absurd w (by omega)⟩]
        refine wp_aload_n dX12_isSame_196 rfl rfl (g11_207 dX12_isSame_197 (xsh hX sh_187) (xrr hX r187_32) (wp_iload dX12_isSame_200 rfl (wn_iaload dX12_isSame_202 (xsh hX sh_198) rfl (by omega) (by decide) a1 (wp_aload_n dX12_isSame_203 rfl rfl (g11_207 dX12_isSame_204 (xsh hX sh_187) (xrr hX r187_32) (wp_iload dX12_isSame_207 rfl (wn_iaload dX12_isSame_209 (xsh hX sh_198) rfl (by omega) (by decide) b1 ?_)))))))
        refine wn_icmp_ne dX12_isSame_210 rfl (by omega) (by omega) (fun c210 => absurd c210 (by omega)) (fun c210 => ?_)
        refine wp_aload_n dX12_isSame_213 rfl rfl (g11_213 dX12_isSame_214 (xsh hX sh_187) (xrr hX r187_34) (wp_iload dX12_isSame_217 rfl (wn_iaload dX12_isSame_219 (xsh hX sh_200) rfl (by omega) (by decide) a3 (wp_aload_n dX12_isSame_220 rfl rfl (g11_213 dX12_isSame_221 (xsh hX sh_187) (xrr hX r187_34) (wp_iload dX12_isSame_224 rfl (wn_iaload dX12_isSame_226 (xsh hX sh_200) rfl (by omega) (by decide) b3 ?_)))))))
        refine wn_icmp_eq dX12_isSame_227 rfl (by omega) (by omega) (fun c227 => ?_) (fun c227 => absurd c227 (by omega))
        refine wp_aload_n dX12_isSame_232 rfl rfl (g11_207 dX12_isSame_233 (xsh hX sh_187) (xrr hX r187_32) (wp_iload dX12_isSame_236 rfl (wn_iaload dX12_isSame_238 (xsh hX sh_198) rfl (by omega) (by decide) a1 (wp_iconst (v := nI 1) dX12_isSame_239 rfl ?_))))
        refine wn_icmp_le dX12_isSame_240 rfl (by omega) (by omega) (fun c240 => absurd c240 (by omega)) (fun c240 => ?_)
        exact wp_iconst (v := nI 1) dX12_isSame_243 rfl (wb_ret dX12_isSame_244 rfl rfl ⟨rfl, rfl⟩)
      · rw [show (decide (((L1.flatMap xmit).getD p (0, 0, 0)).1 = ((L2.flatMap xmit).getD q (0, 0, 0)).1 ∧ ((L1.flatMap xmit).getD p (0, 0, 0)).2.2 = ((L2.flatMap xmit).getD q (0, 0, 0)).2.2 ∧ (((L1.flatMap xmit).getD p (0, 0, 0)).1 ≤ 1 → ∀ k, k < ((L1.flatMap xmit).getD p (0, 0, 0)).2.2 → t1 (((L1.flatMap xmit).getD p (0, 0, 0)).2.1 + k) = t2 (((L2.flatMap xmit).getD q (0, 0, 0)).2.1 + k)))) = decide (∀ e, e < ((L1.flatMap xmit).getD p (0, 0, 0)).2.2 → t1 (((L1.flatMap xmit).getD p (0, 0, 0)).2.1 + e) = t2 (((L2.flatMap xmit).getD q (0, 0, 0)).2.1 + e)) from decide_eq_decide.mpr ⟨fun w => w.2.2 e1, fun w => ⟨ek, ew, fun _ => w⟩⟩]
        refine wp_aload_n dX12_isSame_196 rfl rfl (g11_207 dX12_isSame_197 (xsh hX sh_187) (xrr hX r187_32) (wp_iload dX12_isSame_200 rfl (wn_iaload dX12_isSame_202 (xsh hX sh_198) rfl (by omega) (by decide) a1 (wp_aload_n dX12_isSame_203 rfl rfl (g11_207 dX12_isSame_204 (xsh hX sh_187) (xrr hX r187_32) (wp_iload dX12_isSame_207 rfl (wn_iaload dX12_isSame_209 (xsh hX sh_198) rfl (by omega) (by decide) b1 ?_)))))))
        refine wn_icmp_ne dX12_isSame_210 rfl (by omega) (by omega) (fun c210 => absurd c210 (by omega)) (fun c210 => ?_)
        refine wp_aload_n dX12_isSame_213 rfl rfl (g11_213 dX12_isSame_214 (xsh hX sh_187) (xrr hX r187_34) (wp_iload dX12_isSame_217 rfl (wn_iaload dX12_isSame_219 (xsh hX sh_200) rfl (by omega) (by decide) a3 (wp_aload_n dX12_isSame_220 rfl rfl (g11_213 dX12_isSame_221 (xsh hX sh_187) (xrr hX r187_34) (wp_iload dX12_isSame_224 rfl (wn_iaload dX12_isSame_226 (xsh hX sh_200) rfl (by omega) (by decide) b3 ?_)))))))
        refine wn_icmp_eq dX12_isSame_227 rfl (by omega) (by omega) (fun c227 => ?_) (fun c227 => absurd c227 (by omega))
        refine wp_aload_n dX12_isSame_232 rfl rfl (g11_207 dX12_isSame_233 (xsh hX sh_187) (xrr hX r187_32) (wp_iload dX12_isSame_236 rfl (wn_iaload dX12_isSame_238 (xsh hX sh_198) rfl (by omega) (by decide) a1 (wp_iconst (v := nI 1) dX12_isSame_239 rfl ?_))))
        refine wn_icmp_le dX12_isSame_240 rfl (by omega) (by omega) (fun c240 => ?_) (fun c240 => absurd c240 (by omega))
        exact wp_iconst (v := nI 0) dX12_isSame_245 rfl (wp_istore dX12_isSame_246 ⟨Nat.le_of_ble_eq_true rfl, Or.inr rfl⟩ rfl (is_loop hs1 hs2 ok1 ok2 hn1 hn2 hm1 hm2 h161 h162 hX hM1 hM2 hp hq e1 (by omega) ew ((L1.flatMap xmit).getD p (0, 0, 0)).2.2 0 (Nat.zero_add _) (fun e he => absurd he (Nat.not_lt_zero e))))
    · rw [decide_eq_false (fun w => ew w.2.1)]
      refine wp_aload_n dX12_isSame_196 rfl rfl (g11_207 dX12_isSame_197 (xsh hX sh_187) (xrr hX r187_32) (wp_iload dX12_isSame_200 rfl (wn_iaload dX12_isSame_202 (xsh hX sh_198) rfl (by omega) (by decide) a1 (wp_aload_n dX12_isSame_203 rfl rfl (g11_207 dX12_isSame_204 (xsh hX sh_187) (xrr hX r187_32) (wp_iload dX12_isSame_207 rfl (wn_iaload dX12_isSame_209 (xsh hX sh_198) rfl (by omega) (by decide) b1 ?_)))))))
      refine wn_icmp_ne dX12_isSame_210 rfl (by omega) (by omega) (fun c210 => absurd c210 (by omega)) (fun c210 => ?_)
      refine wp_aload_n dX12_isSame_213 rfl rfl (g11_213 dX12_isSame_214 (xsh hX sh_187) (xrr hX r187_34) (wp_iload dX12_isSame_217 rfl (wn_iaload dX12_isSame_219 (xsh hX sh_200) rfl (by omega) (by decide) a3 (wp_aload_n dX12_isSame_220 rfl rfl (g11_213 dX12_isSame_221 (xsh hX sh_187) (xrr hX r187_34) (wp_iload dX12_isSame_224 rfl (wn_iaload dX12_isSame_226 (xsh hX sh_200) rfl (by omega) (by decide) b3 ?_)))))))
      refine wn_icmp_eq dX12_isSame_227 rfl (by omega) (by omega) (fun c227 => absurd c227 (by omega)) (fun c227 => ?_)
      exact wp_iconst (v := nI 0) dX12_isSame_230 rfl (wb_ret dX12_isSame_231 rfl rfl ⟨rfl, rfl⟩)
  · rw [decide_eq_false (fun w => ek w.1)]
    refine wp_aload_n dX12_isSame_196 rfl rfl (g11_207 dX12_isSame_197 (xsh hX sh_187) (xrr hX r187_32) (wp_iload dX12_isSame_200 rfl (wn_iaload dX12_isSame_202 (xsh hX sh_198) rfl (by omega) (by decide) a1 (wp_aload_n dX12_isSame_203 rfl rfl (g11_207 dX12_isSame_204 (xsh hX sh_187) (xrr hX r187_32) (wp_iload dX12_isSame_207 rfl (wn_iaload dX12_isSame_209 (xsh hX sh_198) rfl (by omega) (by decide) b1 ?_)))))))
    refine wn_icmp_ne dX12_isSame_210 rfl (by omega) (by omega) (fun c210 => ?_) (fun c210 => absurd c210 (by omega))
    exact wp_iconst (v := nI 0) dX12_isSame_230 rfl (wb_ret dX12_isSame_231 rfl rfl ⟨rfl, rfl⟩)
theorem is_ia {n1 n2 s1 s2 : Nat} {t1 t2 : Nat → Nat} {L1 L2 : List xLn} {i j l m p : Nat} {x7 x10 x11 : Value} {x8 : Int32} {d : Nat} {Q : Option Value → xS → Prop} (hs1 : s1 < 6) (hs2 : s2 < 6) (ok1 : xRok t1 n1 L1) (ok2 : xRok t2 n2 L2) (hn1 : n1 ≤ 240) (hn2 : n2 ≤ 240) (hm1 : (L1.flatMap xmit).length ≤ 121) (hm2 : (L2.flatMap xmit).length ≤ 121) (h161 : L1.length ≤ 16) (h162 : L2.length ≤ 16) {S : xS} (hX : XC S) (hM1 : xRM s1 S n1 t1 L1) (hM2 : xRM s2 S n2 t2 L2) (hl : l < L1.length) (hm : m < L2.length) (hp : xof xmit L1 l + p < (L1.flatMap xmit).length) (hi : i = p + (if 1 < (L1.getD l (0, 0, [])).1 then 1 else 0)) (K : Wp false d 11 cX12_isSame (some .boolean) false 149 [.ref 187, .int (nI s1), .int (nI l), .int (nI i), .int (nI s2), .int (nI m), .int (nI j), x7, .int x8, .int (nI (122 * s1 + (xof xmit L1 l + p))), x10, x11] [] S Q) {x9 : Value} : Wp false d 11 cX12_isSame (some .boolean) false 108 [.ref 187, .int (nI s1), .int (nI l), .int (nI i), .int (nI s2), .int (nI m), .int (nI j), x7, .int x8, x9, x10, x11] [] S Q := by
  have k2 := hM1.2.2.1 l (by omega)
  have tm := hM1.2.2.2.1 l hl
  have w9 := (xRok_ln ok1 hl).2.1
  rcases Decidable.em (1 < (L1.getD l (0, 0, [])).1) with w | w
  · rw [if_pos w] at hi
    refine wp_bipush (v := nI 122) dX12_isSame_108 rfl (wp_iload_n dX12_isSame_110 rfl (wv_imul dX12_isSame_111 (pk_mul _ _) (wp_aload_n dX12_isSame_112 rfl rfl (g11_216 dX12_isSame_113 (xsh hX sh_187) (xrr hX r187_35) (wp_bipush (v := nI 17) dX12_isSame_116 rfl (wp_iload_n dX12_isSame_118 rfl (wv_imul dX12_isSame_119 (pk_mul _ _) (wp_iload_n dX12_isSame_120 rfl (wv_iadd dX12_isSame_121 (nI_add _ _) (wn_iaload dX12_isSame_122 (xsh hX sh_201) rfl (by omega) (by decide) k2 (wv_iadd dX12_isSame_123 (nI_add _ _) (wp_iload_n dX12_isSame_124 rfl (wv_iadd dX12_isSame_125 (nI_add _ _) (wp_aload_n dX12_isSame_126 rfl rfl (g11_219 dX12_isSame_127 (xsh hX sh_187) (xrr hX r187_36) (wp_bipush (v := nI 16) dX12_isSame_130 rfl (wp_iload_n dX12_isSame_132 rfl (wv_imul dX12_isSame_133 (pk_mul _ _) (wp_iload_n dX12_isSame_134 rfl (wv_iadd dX12_isSame_135 (nI_add _ _) (wn_iaload dX12_isSame_136 (xsh hX sh_202) rfl (by omega) (by decide) tm (wp_iconst (v := nI 1) dX12_isSame_137 rfl ?_))))))))))))))))))))))
    refine wn_icmp_le dX12_isSame_138 rfl (by omega) (by omega) (fun c138 => absurd c138 (by omega)) (fun c138 => ?_)
    exact wp_iconst (v := nI 1) dX12_isSame_141 rfl (wp_goto dX12_isSame_142 rfl (wv_isub dX12_isSame_146 (show nI _ - nI _ = nI (122 * s1 + (xof xmit L1 l + p)) from (pk_sub (by omega)).trans (congrArg nI (by omega))) (wp_istore dX12_isSame_147 ⟨Nat.le_of_ble_eq_true rfl, Or.inr rfl⟩ rfl K)))
  · rw [if_neg w] at hi
    refine wp_bipush (v := nI 122) dX12_isSame_108 rfl (wp_iload_n dX12_isSame_110 rfl (wv_imul dX12_isSame_111 (pk_mul _ _) (wp_aload_n dX12_isSame_112 rfl rfl (g11_216 dX12_isSame_113 (xsh hX sh_187) (xrr hX r187_35) (wp_bipush (v := nI 17) dX12_isSame_116 rfl (wp_iload_n dX12_isSame_118 rfl (wv_imul dX12_isSame_119 (pk_mul _ _) (wp_iload_n dX12_isSame_120 rfl (wv_iadd dX12_isSame_121 (nI_add _ _) (wn_iaload dX12_isSame_122 (xsh hX sh_201) rfl (by omega) (by decide) k2 (wv_iadd dX12_isSame_123 (nI_add _ _) (wp_iload_n dX12_isSame_124 rfl (wv_iadd dX12_isSame_125 (nI_add _ _) (wp_aload_n dX12_isSame_126 rfl rfl (g11_219 dX12_isSame_127 (xsh hX sh_187) (xrr hX r187_36) (wp_bipush (v := nI 16) dX12_isSame_130 rfl (wp_iload_n dX12_isSame_132 rfl (wv_imul dX12_isSame_133 (pk_mul _ _) (wp_iload_n dX12_isSame_134 rfl (wv_iadd dX12_isSame_135 (nI_add _ _) (wn_iaload dX12_isSame_136 (xsh hX sh_202) rfl (by omega) (by decide) tm (wp_iconst (v := nI 1) dX12_isSame_137 rfl ?_))))))))))))))))))))))
    refine wn_icmp_le dX12_isSame_138 rfl (by omega) (by omega) (fun c138 => ?_) (fun c138 => absurd c138 (by omega))
    exact wp_iconst (v := nI 0) dX12_isSame_145 rfl (wv_isub dX12_isSame_146 (show nI _ - nI _ = nI (122 * s1 + (xof xmit L1 l + p)) from (pk_sub (by omega)).trans (congrArg nI (by omega))) (wp_istore dX12_isSame_147 ⟨Nat.le_of_ble_eq_true rfl, Or.inr rfl⟩ rfl K))
theorem is_ib {n1 n2 s1 s2 : Nat} {t1 t2 : Nat → Nat} {L1 L2 : List xLn} {i j l m p : Nat} {x7 x8 x11 : Value} {x9 : Int32} {d : Nat} {Q : Option Value → xS → Prop} (hs1 : s1 < 6) (hs2 : s2 < 6) (ok1 : xRok t1 n1 L1) (ok2 : xRok t2 n2 L2) (hn1 : n1 ≤ 240) (hn2 : n2 ≤ 240) (hm1 : (L1.flatMap xmit).length ≤ 121) (hm2 : (L2.flatMap xmit).length ≤ 121) (h161 : L1.length ≤ 16) (h162 : L2.length ≤ 16) {S : xS} (hX : XC S) (hM1 : xRM s1 S n1 t1 L1) (hM2 : xRM s2 S n2 t2 L2) (hl : l < L1.length) (hm : m < L2.length) (hp : xof xmit L2 m + p < (L2.flatMap xmit).length) (hi : j = p + (if 1 < (L2.getD m (0, 0, [])).1 then 1 else 0)) (K : Wp false d 11 cX12_isSame (some .boolean) false 196 [.ref 187, .int (nI s1), .int (nI l), .int (nI i), .int (nI s2), .int (nI m), .int (nI j), x7, x8, .int x9, .int (nI (122 * s2 + (xof xmit L2 m + p))), x11] [] S Q) {x10 : Value} : Wp false d 11 cX12_isSame (some .boolean) false 149 [.ref 187, .int (nI s1), .int (nI l), .int (nI i), .int (nI s2), .int (nI m), .int (nI j), x7, x8, .int x9, x10, x11] [] S Q := by
  have k2 := hM2.2.2.1 m (by omega)
  have tm := hM2.2.2.2.1 m hm
  have w9 := (xRok_ln ok2 hm).2.1
  rcases Decidable.em (1 < (L2.getD m (0, 0, [])).1) with w | w
  · rw [if_pos w] at hi
    refine wp_bipush (v := nI 122) dX12_isSame_149 rfl (wp_iload dX12_isSame_151 rfl (wv_imul dX12_isSame_153 (pk_mul _ _) (wp_aload_n dX12_isSame_154 rfl rfl (g11_216 dX12_isSame_155 (xsh hX sh_187) (xrr hX r187_35) (wp_bipush (v := nI 17) dX12_isSame_158 rfl (wp_iload dX12_isSame_160 rfl (wv_imul dX12_isSame_162 (pk_mul _ _) (wp_iload dX12_isSame_163 rfl (wv_iadd dX12_isSame_165 (nI_add _ _) (wn_iaload dX12_isSame_166 (xsh hX sh_201) rfl (by omega) (by decide) k2 (wv_iadd dX12_isSame_167 (nI_add _ _) (wp_iload dX12_isSame_168 rfl (wv_iadd dX12_isSame_170 (nI_add _ _) (wp_aload_n dX12_isSame_171 rfl rfl (g11_219 dX12_isSame_172 (xsh hX sh_187) (xrr hX r187_36) (wp_bipush (v := nI 16) dX12_isSame_175 rfl (wp_iload dX12_isSame_177 rfl (wv_imul dX12_isSame_179 (pk_mul _ _) (wp_iload dX12_isSame_180 rfl (wv_iadd dX12_isSame_182 (nI_add _ _) (wn_iaload dX12_isSame_183 (xsh hX sh_202) rfl (by omega) (by decide) tm (wp_iconst (v := nI 1) dX12_isSame_184 rfl ?_))))))))))))))))))))))
    refine wn_icmp_le dX12_isSame_185 rfl (by omega) (by omega) (fun c185 => absurd c185 (by omega)) (fun c185 => ?_)
    exact wp_iconst (v := nI 1) dX12_isSame_188 rfl (wp_goto dX12_isSame_189 rfl (wv_isub dX12_isSame_193 (show nI _ - nI _ = nI (122 * s2 + (xof xmit L2 m + p)) from (pk_sub (by omega)).trans (congrArg nI (by omega))) (wp_istore dX12_isSame_194 ⟨Nat.le_of_ble_eq_true rfl, Or.inr rfl⟩ rfl K)))
  · rw [if_neg w] at hi
    refine wp_bipush (v := nI 122) dX12_isSame_149 rfl (wp_iload dX12_isSame_151 rfl (wv_imul dX12_isSame_153 (pk_mul _ _) (wp_aload_n dX12_isSame_154 rfl rfl (g11_216 dX12_isSame_155 (xsh hX sh_187) (xrr hX r187_35) (wp_bipush (v := nI 17) dX12_isSame_158 rfl (wp_iload dX12_isSame_160 rfl (wv_imul dX12_isSame_162 (pk_mul _ _) (wp_iload dX12_isSame_163 rfl (wv_iadd dX12_isSame_165 (nI_add _ _) (wn_iaload dX12_isSame_166 (xsh hX sh_201) rfl (by omega) (by decide) k2 (wv_iadd dX12_isSame_167 (nI_add _ _) (wp_iload dX12_isSame_168 rfl (wv_iadd dX12_isSame_170 (nI_add _ _) (wp_aload_n dX12_isSame_171 rfl rfl (g11_219 dX12_isSame_172 (xsh hX sh_187) (xrr hX r187_36) (wp_bipush (v := nI 16) dX12_isSame_175 rfl (wp_iload dX12_isSame_177 rfl (wv_imul dX12_isSame_179 (pk_mul _ _) (wp_iload dX12_isSame_180 rfl (wv_iadd dX12_isSame_182 (nI_add _ _) (wn_iaload dX12_isSame_183 (xsh hX sh_202) rfl (by omega) (by decide) tm (wp_iconst (v := nI 1) dX12_isSame_184 rfl ?_))))))))))))))))))))))
    refine wn_icmp_le dX12_isSame_185 rfl (by omega) (by omega) (fun c185 => ?_) (fun c185 => absurd c185 (by omega))
    exact wp_iconst (v := nI 0) dX12_isSame_192 rfl (wv_isub dX12_isSame_193 (show nI _ - nI _ = nI (122 * s2 + (xof xmit L2 m + p)) from (pk_sub (by omega)).trans (congrArg nI (by omega))) (wp_istore dX12_isSame_194 ⟨Nat.le_of_ble_eq_true rfl, Or.inr rfl⟩ rfl K))
theorem is_one {n1 n2 s1 s2 : Nat} {t1 t2 : Nat → Nat} {L1 L2 : List xLn} {i j l m : Nat} {x8 x9 x10 x11 : Value} {d : Nat} {Q : Option Value → xS → Prop} (hi : i < 1000) (hs1 : s1 < 6) (hs2 : s2 < 6) (ok1 : xRok t1 n1 L1) (ok2 : xRok t2 n2 L2) (hn1 : n1 ≤ 240) (hn2 : n2 ≤ 240) (hm1 : (L1.flatMap xmit).length ≤ 121) (hm2 : (L2.flatMap xmit).length ≤ 121) (h161 : L1.length ≤ 16) (h162 : L2.length ≤ 16) {S : xS} (hX : XC S) (hM1 : xRM s1 S n1 t1 L1) (hM2 : xRM s2 S n2 t2 L2) (hl : l < L1.length) (hm : m < L2.length) (K : Wp false d 11 cX12_isSame (some .boolean) false 26 [.ref 187, .int (nI s1), .int (nI l), .int (nI i), .int (nI s2), .int (nI m), .int (nI j), .int (xB (decide (i = 0 ∧ 1 < (L1.getD l (0, 0, [])).1))), x8, x9, x10, x11] [] S Q) {x7 : Value} : Wp false d 11 cX12_isSame (some .boolean) false 0 [.ref 187, .int (nI s1), .int (nI l), .int (nI i), .int (nI s2), .int (nI m), .int (nI j), x7, x8, x9, x10, x11] [] S Q := by
  have tm := hM1.2.2.2.1 l hl
  have w9 := (xRok_ln ok1 hl).2.1
  rcases Decidable.em (i = 0) with e | e
  · rcases Decidable.em (1 < (L1.getD l (0, 0, [])).1) with w | w
    · rw [decide_eq_true ⟨e, w⟩] at K
      refine wp_iload_n dX12_isSame_0 rfl ?_
      refine wn_if_ne dX12_isSame_1 rfl (by omega) (fun c1 => absurd c1 (by omega)) (fun c1 => ?_)
      refine wp_aload_n dX12_isSame_4 rfl rfl (g11_219 dX12_isSame_5 (xsh hX sh_187) (xrr hX r187_36) (wp_bipush (v := nI 16) dX12_isSame_8 rfl (wp_iload_n dX12_isSame_10 rfl (wv_imul dX12_isSame_11 (pk_mul _ _) (wp_iload_n dX12_isSame_12 rfl (wv_iadd dX12_isSame_13 (nI_add _ _) (wn_iaload dX12_isSame_14 (xsh hX sh_202) rfl (by omega) (by decide) tm (wp_iconst (v := nI 1) dX12_isSame_15 rfl ?_))))))))
      refine wn_icmp_le dX12_isSame_16 rfl (by omega) (by omega) (fun c16 => absurd c16 (by omega)) (fun c16 => ?_)
      exact wp_iconst (v := nI 1) dX12_isSame_19 rfl (wp_goto dX12_isSame_20 rfl (wp_istore dX12_isSame_24 ⟨Nat.le_of_ble_eq_true rfl, Or.inr rfl⟩ rfl K))
    · rw [decide_eq_false (fun h => w h.2)] at K
      refine wp_iload_n dX12_isSame_0 rfl ?_
      refine wn_if_ne dX12_isSame_1 rfl (by omega) (fun c1 => absurd c1 (by omega)) (fun c1 => ?_)
      refine wp_aload_n dX12_isSame_4 rfl rfl (g11_219 dX12_isSame_5 (xsh hX sh_187) (xrr hX r187_36) (wp_bipush (v := nI 16) dX12_isSame_8 rfl (wp_iload_n dX12_isSame_10 rfl (wv_imul dX12_isSame_11 (pk_mul _ _) (wp_iload_n dX12_isSame_12 rfl (wv_iadd dX12_isSame_13 (nI_add _ _) (wn_iaload dX12_isSame_14 (xsh hX sh_202) rfl (by omega) (by decide) tm (wp_iconst (v := nI 1) dX12_isSame_15 rfl ?_))))))))
      refine wn_icmp_le dX12_isSame_16 rfl (by omega) (by omega) (fun c16 => ?_) (fun c16 => absurd c16 (by omega))
      exact wp_iconst (v := nI 0) dX12_isSame_23 rfl (wp_istore dX12_isSame_24 ⟨Nat.le_of_ble_eq_true rfl, Or.inr rfl⟩ rfl K)
  · rw [decide_eq_false (fun h => e h.1)] at K
    refine wp_iload_n dX12_isSame_0 rfl ?_
    refine wn_if_ne dX12_isSame_1 rfl (by omega) (fun c1 => ?_) (fun c1 => absurd c1 (by omega))
    exact wp_iconst (v := nI 0) dX12_isSame_23 rfl (wp_istore dX12_isSame_24 ⟨Nat.le_of_ble_eq_true rfl, Or.inr rfl⟩ rfl K)
theorem is_two {n1 n2 s1 s2 : Nat} {t1 t2 : Nat → Nat} {L1 L2 : List xLn} {i j l m : Nat} {x9 x10 x11 : Value} {x7 : Int32} {d : Nat} {Q : Option Value → xS → Prop} (hj : j < 1000) (hs1 : s1 < 6) (hs2 : s2 < 6) (ok1 : xRok t1 n1 L1) (ok2 : xRok t2 n2 L2) (hn1 : n1 ≤ 240) (hn2 : n2 ≤ 240) (hm1 : (L1.flatMap xmit).length ≤ 121) (hm2 : (L2.flatMap xmit).length ≤ 121) (h161 : L1.length ≤ 16) (h162 : L2.length ≤ 16) {S : xS} (hX : XC S) (hM1 : xRM s1 S n1 t1 L1) (hM2 : xRM s2 S n2 t2 L2) (hl : l < L1.length) (hm : m < L2.length) (K : Wp false d 11 cX12_isSame (some .boolean) false 55 [.ref 187, .int (nI s1), .int (nI l), .int (nI i), .int (nI s2), .int (nI m), .int (nI j), .int x7, .int (xB (decide (j = 0 ∧ 1 < (L2.getD m (0, 0, [])).1))), x9, x10, x11] [] S Q) {x8 : Value} : Wp false d 11 cX12_isSame (some .boolean) false 26 [.ref 187, .int (nI s1), .int (nI l), .int (nI i), .int (nI s2), .int (nI m), .int (nI j), .int x7, x8, x9, x10, x11] [] S Q := by
  have tm := hM2.2.2.2.1 m hm
  have w9 := (xRok_ln ok2 hm).2.1
  rcases Decidable.em (j = 0) with e | e
  · rcases Decidable.em (1 < (L2.getD m (0, 0, [])).1) with w | w
    · rw [decide_eq_true ⟨e, w⟩] at K
      refine wp_iload dX12_isSame_26 rfl ?_
      refine wn_if_ne dX12_isSame_28 rfl (by omega) (fun c28 => absurd c28 (by omega)) (fun c28 => ?_)
      refine wp_aload_n dX12_isSame_31 rfl rfl (g11_219 dX12_isSame_32 (xsh hX sh_187) (xrr hX r187_36) (wp_bipush (v := nI 16) dX12_isSame_35 rfl (wp_iload dX12_isSame_37 rfl (wv_imul dX12_isSame_39 (pk_mul _ _) (wp_iload dX12_isSame_40 rfl (wv_iadd dX12_isSame_42 (nI_add _ _) (wn_iaload dX12_isSame_43 (xsh hX sh_202) rfl (by omega) (by decide) tm (wp_iconst (v := nI 1) dX12_isSame_44 rfl ?_))))))))
      refine wn_icmp_le dX12_isSame_45 rfl (by omega) (by omega) (fun c45 => absurd c45 (by omega)) (fun c45 => ?_)
      exact wp_iconst (v := nI 1) dX12_isSame_48 rfl (wp_goto dX12_isSame_49 rfl (wp_istore dX12_isSame_53 ⟨Nat.le_of_ble_eq_true rfl, Or.inr rfl⟩ rfl K))
    · rw [decide_eq_false (fun h => w h.2)] at K
      refine wp_iload dX12_isSame_26 rfl ?_
      refine wn_if_ne dX12_isSame_28 rfl (by omega) (fun c28 => absurd c28 (by omega)) (fun c28 => ?_)
      refine wp_aload_n dX12_isSame_31 rfl rfl (g11_219 dX12_isSame_32 (xsh hX sh_187) (xrr hX r187_36) (wp_bipush (v := nI 16) dX12_isSame_35 rfl (wp_iload dX12_isSame_37 rfl (wv_imul dX12_isSame_39 (pk_mul _ _) (wp_iload dX12_isSame_40 rfl (wv_iadd dX12_isSame_42 (nI_add _ _) (wn_iaload dX12_isSame_43 (xsh hX sh_202) rfl (by omega) (by decide) tm (wp_iconst (v := nI 1) dX12_isSame_44 rfl ?_))))))))
      refine wn_icmp_le dX12_isSame_45 rfl (by omega) (by omega) (fun c45 => ?_) (fun c45 => absurd c45 (by omega))
      exact wp_iconst (v := nI 0) dX12_isSame_52 rfl (wp_istore dX12_isSame_53 ⟨Nat.le_of_ble_eq_true rfl, Or.inr rfl⟩ rfl K)
  · rw [decide_eq_false (fun h => e h.1)] at K
    refine wp_iload dX12_isSame_26 rfl ?_
    refine wn_if_ne dX12_isSame_28 rfl (by omega) (fun c28 => ?_) (fun c28 => absurd c28 (by omega))
    exact wp_iconst (v := nI 0) dX12_isSame_52 rfl (wp_istore dX12_isSame_53 ⟨Nat.le_of_ble_eq_true rfl, Or.inr rfl⟩ rfl K)
theorem m_isSame {n1 n2 s1 s2 : Nat} {t1 t2 : Nat → Nat} {L1 L2 : List xLn} {i j l m : Nat} (d : Nat) (hs1 : s1 < 6) (hs2 : s2 < 6) (ok1 : xRok t1 n1 L1) (ok2 : xRok t2 n2 L2) (hn1 : n1 ≤ 240) (hn2 : n2 ≤ 240) (hm1 : (L1.flatMap xmit).length ≤ 121) (hm2 : (L2.flatMap xmit).length ≤ 121) (h161 : L1.length ≤ 16) (h162 : L2.length ≤ 16) {S : xS} (hX : XC S) (hM1 : xRM s1 S n1 t1 L1) (hM2 : xRM s2 S n2 t2 L2) (hl : l < L1.length) (hm : m < L2.length) (hi : i < (xcI (L1.getD l (0, 0, []))).length) (hj : j < (xcI (L2.getD m (0, 0, []))).length) : xcall false d j_X12_isSame [.ref 187, .int (nI s1), .int (nI l), .int (nI i), .int (nI s2), .int (nI m), .int (nI j)] S (some (.int (xB (xsmi t1 ((xcI (L1.getD l (0, 0, []))).getD i (0, 0, 0)) t2 ((xcI (L2.getD m (0, 0, []))).getD j (0, 0, 0)))))) S := by
  have b1 := xln_le ok1 hn1 hl
  have b2 := xln_le ok2 hn2 hm
  unfold xln at b1 b2
  have tm1 := hM1.2.2.2.1 l hl
  have tm2 := hM2.2.2.2.1 m hm
  have lk1 := xRok_ln ok1 hl
  have lk2 := xRok_ln ok2 hm
  have w91 := lk1.2.1
  have w92 := lk2.2.1
  have key : Wp false d 11 cX12_isSame (some .boolean) false 55 [.ref 187, .int (nI s1), .int (nI l), .int (nI i), .int (nI s2), .int (nI m), .int (nI j), .int (xB (decide (i = 0 ∧ 1 < (L1.getD l (0, 0, [])).1))), .int (xB (decide (j = 0 ∧ 1 < (L2.getD m (0, 0, [])).1))), .float 0, .float 0, .float 0] [] S (fun r S' => r = some (.int (xB (xsmi t1 ((xcI (L1.getD l (0, 0, []))).getD i (0, 0, 0)) t2 ((xcI (L2.getD m (0, 0, []))).getD j (0, 0, 0))))) ∧ S' = S) := by
    rcases Decidable.em (i = 0 ∧ 1 < (L1.getD l (0, 0, [])).1) with o1 | o1
    · have q1 := lk1.2.2.1 o1.2
      have z1 := (xcI_0 lk1).1 o1.2
      rw [decide_eq_true o1]
      rcases Decidable.em (j = 0 ∧ 1 < (L2.getD m (0, 0, [])).1) with o2 | o2
      · have q2 := lk2.2.2.1 o2.2
        have z2 := (xcI_0 lk2).1 o2.2
        rw [decide_eq_true o2, o1.1, o2.1, z1, z2, xsmi_tt q1 q2]
        rcases Decidable.em ((L1.getD l (0, 0, [])).1 = (L2.getD m (0, 0, [])).1) with e | e
        · rw [decide_eq_true e]
          refine wp_iload dX12_isSame_55 rfl ?_
          refine wb_if_ne dX12_isSame_57 rfl (fun c57 => ?_) (fun c57 => absurd c57 (by decide))
          refine wp_iload dX12_isSame_65 rfl ?_
          refine wb_if_eq dX12_isSame_67 rfl (fun c67 => absurd c67 (by decide)) (fun c67 => ?_)
          refine wp_iload dX12_isSame_70 rfl ?_
          refine wb_if_eq dX12_isSame_72 rfl (fun c72 => absurd c72 (by decide)) (fun c72 => ?_)
          refine wp_aload_n dX12_isSame_75 rfl rfl (g11_219 dX12_isSame_76 (xsh hX sh_187) (xrr hX r187_36) (wp_bipush (v := nI 16) dX12_isSame_79 rfl (wp_iload_n dX12_isSame_81 rfl (wv_imul dX12_isSame_82 (pk_mul _ _) (wp_iload_n dX12_isSame_83 rfl (wv_iadd dX12_isSame_84 (nI_add _ _) (wn_iaload dX12_isSame_85 (xsh hX sh_202) rfl (by omega) (by decide) tm1 (wp_aload_n dX12_isSame_86 rfl rfl (g11_219 dX12_isSame_87 (xsh hX sh_187) (xrr hX r187_36) (wp_bipush (v := nI 16) dX12_isSame_90 rfl (wp_iload dX12_isSame_92 rfl (wv_imul dX12_isSame_94 (pk_mul _ _) (wp_iload dX12_isSame_95 rfl (wv_iadd dX12_isSame_97 (nI_add _ _) (wn_iaload dX12_isSame_98 (xsh hX sh_202) rfl (by omega) (by decide) tm2 ?_)))))))))))))))
          refine wn_icmp_ne dX12_isSame_99 rfl (by omega) (by omega) (fun c99 => absurd c99 (by omega)) (fun c99 => ?_)
          exact wp_iconst (v := nI 1) dX12_isSame_102 rfl (wp_goto dX12_isSame_103 rfl (wb_ret dX12_isSame_107 rfl rfl ⟨rfl, rfl⟩))
        · rw [decide_eq_false e]
          refine wp_iload dX12_isSame_55 rfl ?_
          refine wb_if_ne dX12_isSame_57 rfl (fun c57 => ?_) (fun c57 => absurd c57 (by decide))
          refine wp_iload dX12_isSame_65 rfl ?_
          refine wb_if_eq dX12_isSame_67 rfl (fun c67 => absurd c67 (by decide)) (fun c67 => ?_)
          refine wp_iload dX12_isSame_70 rfl ?_
          refine wb_if_eq dX12_isSame_72 rfl (fun c72 => absurd c72 (by decide)) (fun c72 => ?_)
          refine wp_aload_n dX12_isSame_75 rfl rfl (g11_219 dX12_isSame_76 (xsh hX sh_187) (xrr hX r187_36) (wp_bipush (v := nI 16) dX12_isSame_79 rfl (wp_iload_n dX12_isSame_81 rfl (wv_imul dX12_isSame_82 (pk_mul _ _) (wp_iload_n dX12_isSame_83 rfl (wv_iadd dX12_isSame_84 (nI_add _ _) (wn_iaload dX12_isSame_85 (xsh hX sh_202) rfl (by omega) (by decide) tm1 (wp_aload_n dX12_isSame_86 rfl rfl (g11_219 dX12_isSame_87 (xsh hX sh_187) (xrr hX r187_36) (wp_bipush (v := nI 16) dX12_isSame_90 rfl (wp_iload dX12_isSame_92 rfl (wv_imul dX12_isSame_94 (pk_mul _ _) (wp_iload dX12_isSame_95 rfl (wv_iadd dX12_isSame_97 (nI_add _ _) (wn_iaload dX12_isSame_98 (xsh hX sh_202) rfl (by omega) (by decide) tm2 ?_)))))))))))))))
          refine wn_icmp_ne dX12_isSame_99 rfl (by omega) (by omega) (fun c99 => ?_) (fun c99 => absurd c99 (by omega))
          exact wp_iconst (v := nI 0) dX12_isSame_106 rfl (wb_ret dX12_isSame_107 rfl rfl ⟨rfl, rfl⟩)
      · obtain ⟨q, hq1, hq2, hq3⟩ := xcI_i hj o2
        have m2 : xiok t2 ((xmit (L2.getD m (0, 0, []))).getD q (0, 0, 0)) := lk2.2.2.2.2 _ (xmem_getD (d := (0, 0, 0)) hq1)
        rw [decide_eq_false o2, o1.1, z1, hq2, xsmi_ti ⟨q1.1, w91⟩ m2]
        refine wp_iload dX12_isSame_55 rfl ?_
        refine wb_if_ne dX12_isSame_57 rfl (fun c57 => ?_) (fun c57 => absurd c57 (by decide))
        refine wp_iload dX12_isSame_65 rfl ?_
        refine wb_if_eq dX12_isSame_67 rfl (fun c67 => absurd c67 (by decide)) (fun c67 => ?_)
        refine wp_iload dX12_isSame_70 rfl ?_
        refine wb_if_eq dX12_isSame_72 rfl (fun c72 => ?_) (fun c72 => absurd c72 (by decide))
        exact wp_iconst (v := nI 0) dX12_isSame_106 rfl (wb_ret dX12_isSame_107 rfl rfl ⟨rfl, rfl⟩)
    · obtain ⟨p, hp1, hp2, hp3⟩ := xcI_i hi o1
      have m1 : xiok t1 ((xmit (L1.getD l (0, 0, []))).getD p (0, 0, 0)) := lk1.2.2.2.2 _ (xmem_getD (d := (0, 0, 0)) hp1)
      rw [decide_eq_false o1]
      rcases Decidable.em (j = 0 ∧ 1 < (L2.getD m (0, 0, [])).1) with o2 | o2
      · have q2 := lk2.2.2.1 o2.2
        have z2 := (xcI_0 lk2).1 o2.2
        rw [decide_eq_true o2, o2.1, z2, hp2, xsmi_it ⟨q2.1, w92⟩ m1]
        refine wp_iload dX12_isSame_55 rfl ?_
        refine wb_if_ne dX12_isSame_57 rfl (fun c57 => absurd c57 (by decide)) (fun c57 => ?_)
        refine wp_iload dX12_isSame_60 rfl ?_
        refine wb_if_eq dX12_isSame_62 rfl (fun c62 => absurd c62 (by decide)) (fun c62 => ?_)
        refine wp_iload dX12_isSame_65 rfl ?_
        refine wb_if_eq dX12_isSame_67 rfl (fun c67 => ?_) (fun c67 => absurd c67 (by decide))
        exact wp_iconst (v := nI 0) dX12_isSame_106 rfl (wb_ret dX12_isSame_107 rfl rfl ⟨rfl, rfl⟩)
      · obtain ⟨q, hq1, hq2, hq3⟩ := xcI_i hj o2
        obtain ⟨f1, f2⟩ := xof_ltf xmit (0, 0, 0) hl hp1
        obtain ⟨g1, g2⟩ := xof_ltf xmit (0, 0, 0) hm hq1
        rw [decide_eq_false o2, hp2, hq2, ← f2, ← g2]
        refine wp_iload dX12_isSame_55 rfl ?_
        refine wb_if_ne dX12_isSame_57 rfl (fun c57 => absurd c57 (by decide)) (fun c57 => ?_)
        refine wp_iload dX12_isSame_60 rfl ?_
        refine wb_if_eq dX12_isSame_62 rfl (fun c62 => ?_) (fun c62 => absurd c62 (by decide))
        exact is_ia hs1 hs2 ok1 ok2 hn1 hn2 hm1 hm2 h161 h162 hX hM1 hM2 hl hm f1 hp3 (is_ib hs1 hs2 ok1 ok2 hn1 hn2 hm1 hm2 h161 h162 hX hM1 hM2 hl hm g1 hq3 (is_cmp hs1 hs2 ok1 ok2 hn1 hn2 hm1 hm2 h161 h162 hX hM1 hM2 f1 g1))
  refine xcall_intro (ls := [.ref 187, .int (nI s1), .int (nI l), .int (nI i), .int (nI s2), .int (nI m), .int (nI j), .float 0, .float 0, .float 0, .float 0, .float 0]) q_X12_isSame (by decide) rfl (Nat.le_of_ble_eq_true rfl) rfl ?_
  exact is_one (by omega) hs1 hs2 ok1 ok2 hn1 hn2 hm1 hm2 h161 h162 hX hM1 hM2 hl hm (is_two (by omega) hs1 hs2 ok1 ok2 hn1 hn2 hm1 hm2 h161 h162 hX hM1 hM2 hl hm key)
