/-! A RHYME's text: the reference reads one line -/
/-- items in the reference's new rows -/
def xMA (S : xS) (M : List xIt) : Prop := S.2.1 187 39 = nI M.length ∧ ∀ i, i < M.length → S.2.1 198 (732 + i) = nI (M.getD i (0, 0, 0)).1 ∧ S.2.1 199 (732 + i) = nI (M.getD i (0, 0, 0)).2.1 ∧ S.2.1 200 (732 + i) = nI (M.getD i (0, 0, 0)).2.2
def xMLn (S : xS) (D : List xLn) : Prop := S.2.1 187 40 = nI D.length ∧ (D ≠ [] → ∀ l, l ≤ D.length → S.2.1 201 (102 + l) = nI (xof xmit D l)) ∧ ∀ l, l < D.length → S.2.1 202 (96 + l) = nI (D.getD l (0, 0, [])).1
def xFL1 (i k : Nat) : Prop := (i = 187 ∧ (k = 4 ∨ k = 9 ∨ k = 10 ∨ k = 39)) ∨ ((i = 198 ∨ i = 199 ∨ i = 200) ∧ 732 ≤ k)
def xFL2 (i k : Nat) : Prop := (i = 187 ∧ (k = 4 ∨ k = 9 ∨ k = 10 ∨ k = 39 ∨ k = 40)) ∨ ((i = 198 ∨ i = 199 ∨ i = 200) ∧ 732 ≤ k) ∨ (i = 201 ∧ 102 ≤ k) ∨ (i = 202 ∧ 96 ≤ k)
theorem xFI_L (q i k : Nat) (h : xFI q i k) : xFL1 i k := by unfold xFI at h; unfold xFL1; omega
theorem xFL1_2 (i k : Nat) (h : xFL1 i k) : xFL2 i k := by unfold xFL1 at h; unfold xFL2; omega
theorem xMA.it {S S' : xS} {M : List xIt} {o : xIt} (h : xMA S M) (hf : xFl (xFI M.length) S S') (h39 : S'.2.1 187 39 = nI (M.length + 1)) (a1 : S'.2.1 198 (732 + M.length) = nI o.1) (a2 : S'.2.1 199 (732 + M.length) = nI o.2.1) (a3 : S'.2.1 200 (732 + M.length) = nI o.2.2) : xMA S' (M ++ [o]) := by
  have hl := xlen1 M o
  refine ⟨by rw [hl]; exact h39, fun i hi => ?_⟩
  rw [hl] at hi
  rw [xgA M o (0, 0, 0) i (by rw [hl]; exact hi)]
  split
  · rename_i w
    obtain ⟨b1, b2, b3⟩ := h.2 i w
    exact ⟨hf.i b1 (by unfold xFI; omega), hf.i b2 (by unfold xFI; omega), hf.i b3 (by unfold xFI; omega)⟩
  · rw [show i = M.length by omega]
    exact ⟨a1, a2, a3⟩
theorem xMA.fr {S S' : xS} {M : List xIt} {P : Nat → Nat → Prop} (h : xMA S M) (hf : xFl P S S') (hn : ∀ i k, ((i = 187 ∧ k = 39) ∨ i = 198 ∨ i = 199 ∨ i = 200) → ¬ P i k) : xMA S' M :=
  ⟨hf.i h.1 (hn _ _ (by omega)), fun i hi => ⟨hf.i (h.2 i hi).1 (hn _ _ (by omega)), hf.i (h.2 i hi).2.1 (hn _ _ (by omega)), hf.i (h.2 i hi).2.2 (hn _ _ (by omega))⟩⟩
theorem xMLn.fr {S S' : xS} {D : List xLn} {P : Nat → Nat → Prop} (h : xMLn S D) (hf : xFl P S S') (hn : ∀ i k, ((i = 187 ∧ k = 40) ∨ i = 201 ∨ i = 202) → ¬ P i k) : xMLn S' D :=
  ⟨hf.i h.1 (hn _ _ (by omega)), fun e l hl => hf.i (h.2.1 e l hl) (hn _ _ (by omega)), fun l hl => hf.i (h.2.2 l hl) (hn _ _ (by omega))⟩
theorem xmi_b {t : Nat → Nat} {m tm p p' : Nat} {o : xIt} (h : xmi t m tm p = .ok (o, p')) : p < p' ∧ p' ≤ m ∧ (o.1 = 0 ∨ o.1 = 1 ∨ o.1 = 2 ∨ o.1 = 3 ∨ o.1 = 4) := by
  unfold xmi at h
  split at h
  · cases h
  · rename_i hm
    have hb := xrs_b t (m - p) p
    split at h
    · rename_i hs
      have e1 : xrs t (m - p) p = xrs t (m - (p + 1)) (p + 1) := by
        rw [show m - p = m - (p + 1) + 1 by omega]
        rw [xrs, if_pos hs]
      have hb1 := xrs_b t (m - (p + 1)) (p + 1)
      split at h
      · cases h
      · split at h
        · rename_i q
          cases h
          exact ⟨by omega, by omega, Or.inr (Or.inl rfl)⟩
        · cases h
          exact ⟨by omega, by omega, Or.inl rfl⟩
    · repeat' split at h
      all_goals first | (cases h; done) | (cases h; exact ⟨by omega, by omega, by simp⟩)
theorem ml_loop {n tm st d : Nat} {t : Nat → Nat} {D : List xLn} {Q : Option Value → xS → Prop} (htm : tm < 100) : ∀ (j p : Nat) (I : List xIt) (S : xS), min n 240 - p ≤ j → p ≤ min n 240 → XC S → xTxM S n t → S.2.1 187 4 = nI p → xMA S (D.flatMap xmit ++ I) → 2 * (D.flatMap xmit ++ I).length ≤ p → (∀ x ∈ I, x.1 ≤ 4) → (∀ e z S', xra t (min n 240) (decide (min n 240 < n)) (min n 240 - p) (3, D, tm, st, I, (0, 0, 0)) = .error (e, z) → xFl xFL1 S S' → S'.2.1 187 9 = nI e → S'.2.1 187 10 = nI z → Q (some (.int (xB false))) S') → (∀ I' o p' S', xra t (min n 240) (decide (min n 240 < n)) (min n 240 - p) (3, D, tm, st, I, (0, 0, 0)) = xra t (min n 240) (decide (min n 240 < n)) (min n 240 - p') ((if o.1 = 4 then 6 else 5), D, tm, st, I', o) → p < p' → p' ≤ min n 240 → (∀ x ∈ I' ++ [o], x.1 ≤ 4) → (o.1 ≠ 4 → p' < min n 240 → t p' ≠ 32) → xFl xFL1 S S' → xMA S' (D.flatMap xmit ++ (I' ++ [o])) → S'.2.1 187 4 = nI p' → S'.2.1 187 9 = S.2.1 187 9 → 2 * (D.flatMap xmit ++ (I' ++ [o])).length ≤ p' + 1 → Wp false (d + 3) 11 cX12_line (some .boolean) false 219 [.ref 187, .int (nI tm), .int (nI 0)] [] S' Q) → Wp false (d + 3) 11 cX12_line (some .boolean) false 138 [.ref 187, .int (nI tm), .int (nI 1)] [] S Q := by
  intro j
  induction j with
  | zero => ?_
  | succ j ih => ?_
  · intro p I S hj hpm hX hT hp hA h2 hI ke ko
    have hle := hT.2.1
    have hq : (D.flatMap xmit ++ I).length < 121 := by omega
    obtain ⟨b, S1, gi, f1, x1, x2⟩ := m_item (tm := tm) d hX hT hp hpm hA.1 hq
    have X1 := f1.XC hX
    have f1' : xFl xFL1 S S1 := f1.mono (xFI_L _)
    have T1 : xTxM S1 n t := hT.fr f1 (by unfold xFI; omega) (fun k => by unfold xFI; omega)
    have hxi := xra_item (t := t) (m := min n 240) (p := p) (tm := tm) (st := st) (big := (decide (min n 240 < n))) (D := D) (I := I) (o := (0, 0, 0)) hpm
    have t153 : Wp false (d + 3) 11 cX12_line (some .boolean) false 153 [.ref 187, .int (nI tm), .int (nI 1)] [.int (xB (decide (1 < tm))), .ref 187] S Q := by
      cases hR : xmi t (min n 240) tm p with
      | error e =>
        obtain ⟨e, z⟩ := e
        obtain ⟨rfl, c9, c10⟩ := x1 e z hR
        rw [hR] at hxi
        have kk := ke e z S1 hxi f1' c9 c10
        refine wp_iv2 dX12_line_153 k11_228 q_X12_item (by decide) (xsh hX sh_187) (by decide) (Nat.le_of_ble_eq_true rfl) gi ?_
        refine wb_if_ne dX12_line_156 rfl (fun c156 => absurd c156 (by decide)) (fun c156 => ?_)
        exact wp_iconst (v := nI 0) dX12_line_159 rfl (wb_ret dX12_line_160 rfl rfl kk)
      | ok op =>
        obtain ⟨o, p'⟩ := op
        obtain ⟨rfl, c4, c39, a1, a2, a3, c9⟩ := x2 o p' hR
        rw [hR] at hxi
        have m1 := hA.it f1 c39 a1 a2 a3
        rw [List.append_assoc] at m1
        have hp2 := xmi_b hR
        have hlen : (D.flatMap xmit ++ (I ++ [o])).length = (D.flatMap xmit ++ I).length + 1 := by rw [← List.append_assoc, xlen1]
        have hix : S1.2.1 198 (732 + ((D.flatMap xmit ++ I).length + 1) - 1) = nI o.1 := a1
        have hok := hp2.2.2
        have hI2 : ∀ x ∈ I ++ [o], x.1 ≤ 4 := fun x hx => (List.mem_append.mp hx).elim (hI x) (fun w => by rw [List.mem_singleton.mp w]; omega)
        have gb := m_isBeyond (d + 2) X1 T1 c4 hp2.2.1
        rcases Decidable.em (o.1 = 4) with e4 | e4
        · have kk := ko I o p' S1 hxi hp2.1 hp2.2.1 hI2 (fun w => absurd e4 w) f1' m1 c4 c9 (by omega)
          refine wp_iv2 dX12_line_153 k11_228 q_X12_item (by decide) (xsh hX sh_187) (by decide) (Nat.le_of_ble_eq_true rfl) gi ?_
          refine wb_if_ne dX12_line_156 rfl (fun c156 => ?_) (fun c156 => absurd c156 (by decide))
          refine wp_aload_n dX12_line_161 rfl rfl (g11_207 dX12_line_162 (xsh X1 sh_187) (xrr X1 r187_32) (wp_sipush (v := nI 732) dX12_line_165 rfl (wp_aload_n dX12_line_168 rfl rfl (gv11_195 dX12_line_169 (xsh X1 sh_187) c39 (wv_iadd dX12_line_172 (nI_add _ _) (wp_iconst (v := nI 1) dX12_line_173 rfl (wv_isub dX12_line_174 (pk_sub (by omega)) (wn_iaload dX12_line_175 (xsh X1 sh_198) rfl (by omega) (by decide) hix (wp_iconst (v := nI 4) dX12_line_176 rfl ?_)))))))))
          refine wn_icmp_eq dX12_line_177 rfl (by omega) (by omega) (fun c177 => ?_) (fun c177 => absurd c177 (by omega))
          refine wp_iconst (v := nI 0) dX12_line_200 rfl (wp_istore_n dX12_line_201 ⟨Nat.le_of_ble_eq_true rfl, Or.inr rfl⟩ rfl (wp_iload_n dX12_line_202 rfl ?_))
          refine wn_if_eq dX12_line_203 rfl (by omega) (fun c203 => ?_) (fun c203 => absurd c203 (by omega))
          refine wp_iload_n dX12_line_138 rfl ?_
          refine wn_if_eq dX12_line_139 rfl (by omega) (fun c139 => ?_) (fun c139 => absurd c139 (by omega))
          exact kk
        · rcases Decidable.em (p' < min n 240 ∧ t p' = 32) with e32 | e32
          · dsimp only at hxi
            rw [if_neg e4] at hxi
            rw [show decide (240 < n ∧ 240 ≤ p') = false from decide_eq_false (by omega)] at gb
            have gp := m_peek (d + 2) X1 T1 c4 (by omega)
            rw [e32.2] at gp
            have F2 : xFl xFL1 S (xSI S1 187 4 (nI (p' + 1))) := f1'.SI (Or.inl ⟨rfl, by omega⟩)
            have F3 : xFl (fun i k => i = 187 ∧ k = 4) S1 (xSI S1 187 4 (nI (p' + 1))) := (xFl.rf S1).SI ⟨rfl, rfl⟩
            have hx2 : xra t (min n 240) (decide (min n 240 < n)) (min n 240 - p) (3, D, tm, st, I, (0, 0, 0)) = xra t (min n 240) (decide (min n 240 < n)) (min n 240 - (p' + 1)) (3, D, tm, st, I ++ [o], (0, 0, 0)) := by
              rw [hxi]
              refine xra_step e32.1 ?_
              unfold xst xstb
              rw [if_neg (by decide), if_neg (by decide), if_neg (by decide), if_neg (by decide), if_neg (by decide), if_pos rfl, if_pos e32.2]
            refine wp_iv2 dX12_line_153 k11_228 q_X12_item (by decide) (xsh hX sh_187) (by decide) (Nat.le_of_ble_eq_true rfl) gi ?_
            refine wb_if_ne dX12_line_156 rfl (fun c156 => ?_) (fun c156 => absurd c156 (by decide))
            refine wp_aload_n dX12_line_161 rfl rfl (g11_207 dX12_line_162 (xsh X1 sh_187) (xrr X1 r187_32) (wp_sipush (v := nI 732) dX12_line_165 rfl (wp_aload_n dX12_line_168 rfl rfl (gv11_195 dX12_line_169 (xsh X1 sh_187) c39 (wv_iadd dX12_line_172 (nI_add _ _) (wp_iconst (v := nI 1) dX12_line_173 rfl (wv_isub dX12_line_174 (pk_sub (by omega)) (wn_iaload dX12_line_175 (xsh X1 sh_198) rfl (by omega) (by decide) hix (wp_iconst (v := nI 4) dX12_line_176 rfl ?_)))))))))
            refine wn_icmp_eq dX12_line_177 rfl (by omega) (by omega) (fun c177 => absurd c177 (by omega)) (fun c177 => ?_)
            refine wp_aload_n dX12_line_180 rfl rfl (wp_iv1 dX12_line_181 k11_192 q_X12_isBeyond (by decide) (xsh X1 sh_187) (by decide) (Nat.le_of_ble_eq_true rfl) gb ?_)
            refine wb_if_ne dX12_line_184 rfl (fun c184 => absurd c184 (by decide)) (fun c184 => ?_)
            refine wp_aload_n dX12_line_187 rfl rfl (wp_iv1 dX12_line_188 k11_24 q_X12_peek (by decide) (xsh X1 sh_187) (by decide) (Nat.le_of_ble_eq_true rfl) gp (wp_bipush (v := nI 32) dX12_line_191 rfl ?_))
            refine wn_icmp_ne dX12_line_193 rfl (by omega) (by omega) (fun c193 => absurd c193 (by omega)) (fun c193 => ?_)
            refine wp_iconst (v := nI 1) dX12_line_196 rfl (wp_goto dX12_line_197 rfl (wp_istore_n dX12_line_201 ⟨Nat.le_of_ble_eq_true rfl, Or.inr rfl⟩ rfl (wp_iload_n dX12_line_202 rfl ?_)))
            refine wn_if_eq dX12_line_203 rfl (by omega) (fun c203 => absurd c203 (by omega)) (fun c203 => ?_)
            refine wp_aload_n dX12_line_206 rfl rfl (wp_dup dX12_line_207 rfl (gv11_21 dX12_line_208 (xsh X1 sh_187) c4 (wp_iconst (v := nI 1) dX12_line_211 rfl (wv_iadd dX12_line_212 (nI_add _ _) (p11_21 dX12_line_213 (xsh X1 sh_187) (wp_goto dX12_line_216 rfl ?_))))))
            exact absurd hp2.1 (by omega)
          · have stop : o.1 ≠ 4 → p' < min n 240 → t p' ≠ 32 := fun _ w1 w2 => e32 ⟨w1, w2⟩
            have kk := ko I o p' S1 hxi hp2.1 hp2.2.1 hI2 stop f1' m1 c4 c9 (by omega)
            cases hb : decide (240 < n ∧ 240 ≤ p') with
            | true =>
              rw [hb] at gb
              refine wp_iv2 dX12_line_153 k11_228 q_X12_item (by decide) (xsh hX sh_187) (by decide) (Nat.le_of_ble_eq_true rfl) gi ?_
              refine wb_if_ne dX12_line_156 rfl (fun c156 => ?_) (fun c156 => absurd c156 (by decide))
              refine wp_aload_n dX12_line_161 rfl rfl (g11_207 dX12_line_162 (xsh X1 sh_187) (xrr X1 r187_32) (wp_sipush (v := nI 732) dX12_line_165 rfl (wp_aload_n dX12_line_168 rfl rfl (gv11_195 dX12_line_169 (xsh X1 sh_187) c39 (wv_iadd dX12_line_172 (nI_add _ _) (wp_iconst (v := nI 1) dX12_line_173 rfl (wv_isub dX12_line_174 (pk_sub (by omega)) (wn_iaload dX12_line_175 (xsh X1 sh_198) rfl (by omega) (by decide) hix (wp_iconst (v := nI 4) dX12_line_176 rfl ?_)))))))))
              refine wn_icmp_eq dX12_line_177 rfl (by omega) (by omega) (fun c177 => absurd c177 (by omega)) (fun c177 => ?_)
              refine wp_aload_n dX12_line_180 rfl rfl (wp_iv1 dX12_line_181 k11_192 q_X12_isBeyond (by decide) (xsh X1 sh_187) (by decide) (Nat.le_of_ble_eq_true rfl) gb ?_)
              refine wb_if_ne dX12_line_184 rfl (fun c184 => ?_) (fun c184 => absurd c184 (by decide))
              refine wp_iconst (v := nI 0) dX12_line_200 rfl (wp_istore_n dX12_line_201 ⟨Nat.le_of_ble_eq_true rfl, Or.inr rfl⟩ rfl (wp_iload_n dX12_line_202 rfl ?_))
              refine wn_if_eq dX12_line_203 rfl (by omega) (fun c203 => ?_) (fun c203 => absurd c203 (by omega))
              refine wp_iload_n dX12_line_138 rfl ?_
              refine wn_if_eq dX12_line_139 rfl (by omega) (fun c139 => ?_) (fun c139 => absurd c139 (by omega))
              exact kk
            | false =>
              rw [hb] at gb
              have hb' := of_decide_eq_false hb
              rcases Nat.lt_or_ge p' (min n 240) with hl2 | hl2
              · have gp := m_peek (d + 2) X1 T1 c4 (by omega)
                have hc2 := (hT.2.2 p' (by omega)).1
                have hne : t p' ≠ 32 := fun w => e32 ⟨hl2, w⟩
                refine wp_iv2 dX12_line_153 k11_228 q_X12_item (by decide) (xsh hX sh_187) (by decide) (Nat.le_of_ble_eq_true rfl) gi ?_
                refine wb_if_ne dX12_line_156 rfl (fun c156 => ?_) (fun c156 => absurd c156 (by decide))
                refine wp_aload_n dX12_line_161 rfl rfl (g11_207 dX12_line_162 (xsh X1 sh_187) (xrr X1 r187_32) (wp_sipush (v := nI 732) dX12_line_165 rfl (wp_aload_n dX12_line_168 rfl rfl (gv11_195 dX12_line_169 (xsh X1 sh_187) c39 (wv_iadd dX12_line_172 (nI_add _ _) (wp_iconst (v := nI 1) dX12_line_173 rfl (wv_isub dX12_line_174 (pk_sub (by omega)) (wn_iaload dX12_line_175 (xsh X1 sh_198) rfl (by omega) (by decide) hix (wp_iconst (v := nI 4) dX12_line_176 rfl ?_)))))))))
                refine wn_icmp_eq dX12_line_177 rfl (by omega) (by omega) (fun c177 => absurd c177 (by omega)) (fun c177 => ?_)
                refine wp_aload_n dX12_line_180 rfl rfl (wp_iv1 dX12_line_181 k11_192 q_X12_isBeyond (by decide) (xsh X1 sh_187) (by decide) (Nat.le_of_ble_eq_true rfl) gb ?_)
                refine wb_if_ne dX12_line_184 rfl (fun c184 => absurd c184 (by decide)) (fun c184 => ?_)
                refine wp_aload_n dX12_line_187 rfl rfl (wp_iv1 dX12_line_188 k11_24 q_X12_peek (by decide) (xsh X1 sh_187) (by decide) (Nat.le_of_ble_eq_true rfl) gp (wp_bipush (v := nI 32) dX12_line_191 rfl ?_))
                refine wn_icmp_ne dX12_line_193 rfl (by omega) (by omega) (fun c193 => ?_) (fun c193 => absurd c193 (by omega))
                refine wp_iconst (v := nI 0) dX12_line_200 rfl (wp_istore_n dX12_line_201 ⟨Nat.le_of_ble_eq_true rfl, Or.inr rfl⟩ rfl (wp_iload_n dX12_line_202 rfl ?_))
                refine wn_if_eq dX12_line_203 rfl (by omega) (fun c203 => ?_) (fun c203 => absurd c203 (by omega))
                refine wp_iload_n dX12_line_138 rfl ?_
                refine wn_if_eq dX12_line_139 rfl (by omega) (fun c139 => ?_) (fun c139 => absurd c139 (by omega))
                exact kk
              · have gp := m_peek_e (d + 2) X1 T1 c4 (by omega) (by omega)
                refine wp_iv2 dX12_line_153 k11_228 q_X12_item (by decide) (xsh hX sh_187) (by decide) (Nat.le_of_ble_eq_true rfl) gi ?_
                refine wb_if_ne dX12_line_156 rfl (fun c156 => ?_) (fun c156 => absurd c156 (by decide))
                refine wp_aload_n dX12_line_161 rfl rfl (g11_207 dX12_line_162 (xsh X1 sh_187) (xrr X1 r187_32) (wp_sipush (v := nI 732) dX12_line_165 rfl (wp_aload_n dX12_line_168 rfl rfl (gv11_195 dX12_line_169 (xsh X1 sh_187) c39 (wv_iadd dX12_line_172 (nI_add _ _) (wp_iconst (v := nI 1) dX12_line_173 rfl (wv_isub dX12_line_174 (pk_sub (by omega)) (wn_iaload dX12_line_175 (xsh X1 sh_198) rfl (by omega) (by decide) hix (wp_iconst (v := nI 4) dX12_line_176 rfl ?_)))))))))
                refine wn_icmp_eq dX12_line_177 rfl (by omega) (by omega) (fun c177 => absurd c177 (by omega)) (fun c177 => ?_)
                refine wp_aload_n dX12_line_180 rfl rfl (wp_iv1 dX12_line_181 k11_192 q_X12_isBeyond (by decide) (xsh X1 sh_187) (by decide) (Nat.le_of_ble_eq_true rfl) gb ?_)
                refine wb_if_ne dX12_line_184 rfl (fun c184 => absurd c184 (by decide)) (fun c184 => ?_)
                refine wp_aload_n dX12_line_187 rfl rfl (wp_iv1 dX12_line_188 k11_24 q_X12_peek (by decide) (xsh X1 sh_187) (by decide) (Nat.le_of_ble_eq_true rfl) gp (wp_bipush (v := nI 32) dX12_line_191 rfl ?_))
                refine wp_icmp_ne dX12_line_193 rfl (fun c193 => ?_) (fun c193 => absurd c193 (by decide))
                refine wp_iconst (v := nI 0) dX12_line_200 rfl (wp_istore_n dX12_line_201 ⟨Nat.le_of_ble_eq_true rfl, Or.inr rfl⟩ rfl (wp_iload_n dX12_line_202 rfl ?_))
                refine wn_if_eq dX12_line_203 rfl (by omega) (fun c203 => ?_) (fun c203 => absurd c203 (by omega))
                refine wp_iload_n dX12_line_138 rfl ?_
                refine wn_if_eq dX12_line_139 rfl (by omega) (fun c139 => ?_) (fun c139 => absurd c139 (by omega))
                exact kk
    rcases Decidable.em (1 < tm) with ht | ht
    · have e1 : nI 1 = xB (decide (1 < tm)) := xB_of_t (decide_eq_true ht)
      refine wp_iload_n dX12_line_138 rfl ?_
      refine wn_if_eq dX12_line_139 rfl (by omega) (fun c139 => absurd c139 (by omega)) (fun c139 => ?_)
      refine wp_aload_n dX12_line_142 rfl rfl (wp_iload_n dX12_line_143 rfl (wp_iconst (v := nI 1) dX12_line_144 rfl ?_))
      refine wn_icmp_le dX12_line_145 rfl (by omega) (by omega) (fun c145 => absurd c145 (by omega)) (fun c145 => ?_)
      refine wp_iconst (v := nI 1) dX12_line_148 rfl (wp_goto dX12_line_149 rfl ?_)
      refine wp_top (congrArg Value.int e1) ?_
      exact t153
    · have e1 : nI 0 = xB (decide (1 < tm)) := xB_of_f (decide_eq_false ht)
      refine wp_iload_n dX12_line_138 rfl ?_
      refine wn_if_eq dX12_line_139 rfl (by omega) (fun c139 => absurd c139 (by omega)) (fun c139 => ?_)
      refine wp_aload_n dX12_line_142 rfl rfl (wp_iload_n dX12_line_143 rfl (wp_iconst (v := nI 1) dX12_line_144 rfl ?_))
      refine wn_icmp_le dX12_line_145 rfl (by omega) (by omega) (fun c145 => ?_) (fun c145 => absurd c145 (by omega))
      refine wp_iconst (v := nI 0) dX12_line_152 rfl ?_
      refine wp_top (congrArg Value.int e1) ?_
      exact t153
  · intro p I S hj hpm hX hT hp hA h2 hI ke ko
    have hle := hT.2.1
    have hq : (D.flatMap xmit ++ I).length < 121 := by omega
    obtain ⟨b, S1, gi, f1, x1, x2⟩ := m_item (tm := tm) d hX hT hp hpm hA.1 hq
    have X1 := f1.XC hX
    have f1' : xFl xFL1 S S1 := f1.mono (xFI_L _)
    have T1 : xTxM S1 n t := hT.fr f1 (by unfold xFI; omega) (fun k => by unfold xFI; omega)
    have hxi := xra_item (t := t) (m := min n 240) (p := p) (tm := tm) (st := st) (big := (decide (min n 240 < n))) (D := D) (I := I) (o := (0, 0, 0)) hpm
    have t153 : Wp false (d + 3) 11 cX12_line (some .boolean) false 153 [.ref 187, .int (nI tm), .int (nI 1)] [.int (xB (decide (1 < tm))), .ref 187] S Q := by
      cases hR : xmi t (min n 240) tm p with
      | error e =>
        obtain ⟨e, z⟩ := e
        obtain ⟨rfl, c9, c10⟩ := x1 e z hR
        rw [hR] at hxi
        have kk := ke e z S1 hxi f1' c9 c10
        refine wp_iv2 dX12_line_153 k11_228 q_X12_item (by decide) (xsh hX sh_187) (by decide) (Nat.le_of_ble_eq_true rfl) gi ?_
        refine wb_if_ne dX12_line_156 rfl (fun c156 => absurd c156 (by decide)) (fun c156 => ?_)
        exact wp_iconst (v := nI 0) dX12_line_159 rfl (wb_ret dX12_line_160 rfl rfl kk)
      | ok op =>
        obtain ⟨o, p'⟩ := op
        obtain ⟨rfl, c4, c39, a1, a2, a3, c9⟩ := x2 o p' hR
        rw [hR] at hxi
        have m1 := hA.it f1 c39 a1 a2 a3
        rw [List.append_assoc] at m1
        have hp2 := xmi_b hR
        have hlen : (D.flatMap xmit ++ (I ++ [o])).length = (D.flatMap xmit ++ I).length + 1 := by rw [← List.append_assoc, xlen1]
        have hix : S1.2.1 198 (732 + ((D.flatMap xmit ++ I).length + 1) - 1) = nI o.1 := a1
        have hok := hp2.2.2
        have hI2 : ∀ x ∈ I ++ [o], x.1 ≤ 4 := fun x hx => (List.mem_append.mp hx).elim (hI x) (fun w => by rw [List.mem_singleton.mp w]; omega)
        have gb := m_isBeyond (d + 2) X1 T1 c4 hp2.2.1
        rcases Decidable.em (o.1 = 4) with e4 | e4
        · have kk := ko I o p' S1 hxi hp2.1 hp2.2.1 hI2 (fun w => absurd e4 w) f1' m1 c4 c9 (by omega)
          refine wp_iv2 dX12_line_153 k11_228 q_X12_item (by decide) (xsh hX sh_187) (by decide) (Nat.le_of_ble_eq_true rfl) gi ?_
          refine wb_if_ne dX12_line_156 rfl (fun c156 => ?_) (fun c156 => absurd c156 (by decide))
          refine wp_aload_n dX12_line_161 rfl rfl (g11_207 dX12_line_162 (xsh X1 sh_187) (xrr X1 r187_32) (wp_sipush (v := nI 732) dX12_line_165 rfl (wp_aload_n dX12_line_168 rfl rfl (gv11_195 dX12_line_169 (xsh X1 sh_187) c39 (wv_iadd dX12_line_172 (nI_add _ _) (wp_iconst (v := nI 1) dX12_line_173 rfl (wv_isub dX12_line_174 (pk_sub (by omega)) (wn_iaload dX12_line_175 (xsh X1 sh_198) rfl (by omega) (by decide) hix (wp_iconst (v := nI 4) dX12_line_176 rfl ?_)))))))))
          refine wn_icmp_eq dX12_line_177 rfl (by omega) (by omega) (fun c177 => ?_) (fun c177 => absurd c177 (by omega))
          refine wp_iconst (v := nI 0) dX12_line_200 rfl (wp_istore_n dX12_line_201 ⟨Nat.le_of_ble_eq_true rfl, Or.inr rfl⟩ rfl (wp_iload_n dX12_line_202 rfl ?_))
          refine wn_if_eq dX12_line_203 rfl (by omega) (fun c203 => ?_) (fun c203 => absurd c203 (by omega))
          refine wp_iload_n dX12_line_138 rfl ?_
          refine wn_if_eq dX12_line_139 rfl (by omega) (fun c139 => ?_) (fun c139 => absurd c139 (by omega))
          exact kk
        · rcases Decidable.em (p' < min n 240 ∧ t p' = 32) with e32 | e32
          · dsimp only at hxi
            rw [if_neg e4] at hxi
            rw [show decide (240 < n ∧ 240 ≤ p') = false from decide_eq_false (by omega)] at gb
            have gp := m_peek (d + 2) X1 T1 c4 (by omega)
            rw [e32.2] at gp
            have F2 : xFl xFL1 S (xSI S1 187 4 (nI (p' + 1))) := f1'.SI (Or.inl ⟨rfl, by omega⟩)
            have F3 : xFl (fun i k => i = 187 ∧ k = 4) S1 (xSI S1 187 4 (nI (p' + 1))) := (xFl.rf S1).SI ⟨rfl, rfl⟩
            have hx2 : xra t (min n 240) (decide (min n 240 < n)) (min n 240 - p) (3, D, tm, st, I, (0, 0, 0)) = xra t (min n 240) (decide (min n 240 < n)) (min n 240 - (p' + 1)) (3, D, tm, st, I ++ [o], (0, 0, 0)) := by
              rw [hxi]
              refine xra_step e32.1 ?_
              unfold xst xstb
              rw [if_neg (by decide), if_neg (by decide), if_neg (by decide), if_neg (by decide), if_neg (by decide), if_pos rfl, if_pos e32.2]
            refine wp_iv2 dX12_line_153 k11_228 q_X12_item (by decide) (xsh hX sh_187) (by decide) (Nat.le_of_ble_eq_true rfl) gi ?_
            refine wb_if_ne dX12_line_156 rfl (fun c156 => ?_) (fun c156 => absurd c156 (by decide))
            refine wp_aload_n dX12_line_161 rfl rfl (g11_207 dX12_line_162 (xsh X1 sh_187) (xrr X1 r187_32) (wp_sipush (v := nI 732) dX12_line_165 rfl (wp_aload_n dX12_line_168 rfl rfl (gv11_195 dX12_line_169 (xsh X1 sh_187) c39 (wv_iadd dX12_line_172 (nI_add _ _) (wp_iconst (v := nI 1) dX12_line_173 rfl (wv_isub dX12_line_174 (pk_sub (by omega)) (wn_iaload dX12_line_175 (xsh X1 sh_198) rfl (by omega) (by decide) hix (wp_iconst (v := nI 4) dX12_line_176 rfl ?_)))))))))
            refine wn_icmp_eq dX12_line_177 rfl (by omega) (by omega) (fun c177 => absurd c177 (by omega)) (fun c177 => ?_)
            refine wp_aload_n dX12_line_180 rfl rfl (wp_iv1 dX12_line_181 k11_192 q_X12_isBeyond (by decide) (xsh X1 sh_187) (by decide) (Nat.le_of_ble_eq_true rfl) gb ?_)
            refine wb_if_ne dX12_line_184 rfl (fun c184 => absurd c184 (by decide)) (fun c184 => ?_)
            refine wp_aload_n dX12_line_187 rfl rfl (wp_iv1 dX12_line_188 k11_24 q_X12_peek (by decide) (xsh X1 sh_187) (by decide) (Nat.le_of_ble_eq_true rfl) gp (wp_bipush (v := nI 32) dX12_line_191 rfl ?_))
            refine wn_icmp_ne dX12_line_193 rfl (by omega) (by omega) (fun c193 => absurd c193 (by omega)) (fun c193 => ?_)
            refine wp_iconst (v := nI 1) dX12_line_196 rfl (wp_goto dX12_line_197 rfl (wp_istore_n dX12_line_201 ⟨Nat.le_of_ble_eq_true rfl, Or.inr rfl⟩ rfl (wp_iload_n dX12_line_202 rfl ?_)))
            refine wn_if_eq dX12_line_203 rfl (by omega) (fun c203 => absurd c203 (by omega)) (fun c203 => ?_)
            refine wp_aload_n dX12_line_206 rfl rfl (wp_dup dX12_line_207 rfl (gv11_21 dX12_line_208 (xsh X1 sh_187) c4 (wp_iconst (v := nI 1) dX12_line_211 rfl (wv_iadd dX12_line_212 (nI_add _ _) (p11_21 dX12_line_213 (xsh X1 sh_187) (wp_goto dX12_line_216 rfl ?_))))))
            refine ih (p' + 1) (I ++ [o]) (xSI S1 187 4 (nI (p' + 1))) (by omega) (by omega) (F3.XC X1) (T1.fr F3 (by omega) (fun k => by omega)) (xI_same _ _ _ _) (m1.fr F3 (fun i k h => by omega)) (by omega) hI2 (fun e z S' hx hf h9 h10 => ke e z S' (hx2.trans hx) (F2.tt hf) h9 h10) (fun I' o' p2 S' hx q1 q2 qk q3 hf hm q4 q5 q6 => ko I' o' p2 S' (hx2.trans hx) (by omega) q2 qk q3 (F2.tt hf) hm q4 (q5.trans ((F3.i rfl (by omega)).trans c9)) q6)
          · have stop : o.1 ≠ 4 → p' < min n 240 → t p' ≠ 32 := fun _ w1 w2 => e32 ⟨w1, w2⟩
            have kk := ko I o p' S1 hxi hp2.1 hp2.2.1 hI2 stop f1' m1 c4 c9 (by omega)
            cases hb : decide (240 < n ∧ 240 ≤ p') with
            | true =>
              rw [hb] at gb
              refine wp_iv2 dX12_line_153 k11_228 q_X12_item (by decide) (xsh hX sh_187) (by decide) (Nat.le_of_ble_eq_true rfl) gi ?_
              refine wb_if_ne dX12_line_156 rfl (fun c156 => ?_) (fun c156 => absurd c156 (by decide))
              refine wp_aload_n dX12_line_161 rfl rfl (g11_207 dX12_line_162 (xsh X1 sh_187) (xrr X1 r187_32) (wp_sipush (v := nI 732) dX12_line_165 rfl (wp_aload_n dX12_line_168 rfl rfl (gv11_195 dX12_line_169 (xsh X1 sh_187) c39 (wv_iadd dX12_line_172 (nI_add _ _) (wp_iconst (v := nI 1) dX12_line_173 rfl (wv_isub dX12_line_174 (pk_sub (by omega)) (wn_iaload dX12_line_175 (xsh X1 sh_198) rfl (by omega) (by decide) hix (wp_iconst (v := nI 4) dX12_line_176 rfl ?_)))))))))
              refine wn_icmp_eq dX12_line_177 rfl (by omega) (by omega) (fun c177 => absurd c177 (by omega)) (fun c177 => ?_)
              refine wp_aload_n dX12_line_180 rfl rfl (wp_iv1 dX12_line_181 k11_192 q_X12_isBeyond (by decide) (xsh X1 sh_187) (by decide) (Nat.le_of_ble_eq_true rfl) gb ?_)
              refine wb_if_ne dX12_line_184 rfl (fun c184 => ?_) (fun c184 => absurd c184 (by decide))
              refine wp_iconst (v := nI 0) dX12_line_200 rfl (wp_istore_n dX12_line_201 ⟨Nat.le_of_ble_eq_true rfl, Or.inr rfl⟩ rfl (wp_iload_n dX12_line_202 rfl ?_))
              refine wn_if_eq dX12_line_203 rfl (by omega) (fun c203 => ?_) (fun c203 => absurd c203 (by omega))
              refine wp_iload_n dX12_line_138 rfl ?_
              refine wn_if_eq dX12_line_139 rfl (by omega) (fun c139 => ?_) (fun c139 => absurd c139 (by omega))
              exact kk
            | false =>
              rw [hb] at gb
              have hb' := of_decide_eq_false hb
              rcases Nat.lt_or_ge p' (min n 240) with hl2 | hl2
              · have gp := m_peek (d + 2) X1 T1 c4 (by omega)
                have hc2 := (hT.2.2 p' (by omega)).1
                have hne : t p' ≠ 32 := fun w => e32 ⟨hl2, w⟩
                refine wp_iv2 dX12_line_153 k11_228 q_X12_item (by decide) (xsh hX sh_187) (by decide) (Nat.le_of_ble_eq_true rfl) gi ?_
                refine wb_if_ne dX12_line_156 rfl (fun c156 => ?_) (fun c156 => absurd c156 (by decide))
                refine wp_aload_n dX12_line_161 rfl rfl (g11_207 dX12_line_162 (xsh X1 sh_187) (xrr X1 r187_32) (wp_sipush (v := nI 732) dX12_line_165 rfl (wp_aload_n dX12_line_168 rfl rfl (gv11_195 dX12_line_169 (xsh X1 sh_187) c39 (wv_iadd dX12_line_172 (nI_add _ _) (wp_iconst (v := nI 1) dX12_line_173 rfl (wv_isub dX12_line_174 (pk_sub (by omega)) (wn_iaload dX12_line_175 (xsh X1 sh_198) rfl (by omega) (by decide) hix (wp_iconst (v := nI 4) dX12_line_176 rfl ?_)))))))))
                refine wn_icmp_eq dX12_line_177 rfl (by omega) (by omega) (fun c177 => absurd c177 (by omega)) (fun c177 => ?_)
                refine wp_aload_n dX12_line_180 rfl rfl (wp_iv1 dX12_line_181 k11_192 q_X12_isBeyond (by decide) (xsh X1 sh_187) (by decide) (Nat.le_of_ble_eq_true rfl) gb ?_)
                refine wb_if_ne dX12_line_184 rfl (fun c184 => absurd c184 (by decide)) (fun c184 => ?_)
                refine wp_aload_n dX12_line_187 rfl rfl (wp_iv1 dX12_line_188 k11_24 q_X12_peek (by decide) (xsh X1 sh_187) (by decide) (Nat.le_of_ble_eq_true rfl) gp (wp_bipush (v := nI 32) dX12_line_191 rfl ?_))
                refine wn_icmp_ne dX12_line_193 rfl (by omega) (by omega) (fun c193 => ?_) (fun c193 => absurd c193 (by omega))
                refine wp_iconst (v := nI 0) dX12_line_200 rfl (wp_istore_n dX12_line_201 ⟨Nat.le_of_ble_eq_true rfl, Or.inr rfl⟩ rfl (wp_iload_n dX12_line_202 rfl ?_))
                refine wn_if_eq dX12_line_203 rfl (by omega) (fun c203 => ?_) (fun c203 => absurd c203 (by omega))
                refine wp_iload_n dX12_line_138 rfl ?_
                refine wn_if_eq dX12_line_139 rfl (by omega) (fun c139 => ?_) (fun c139 => absurd c139 (by omega))
                exact kk
              · have gp := m_peek_e (d + 2) X1 T1 c4 (by omega) (by omega)
                refine wp_iv2 dX12_line_153 k11_228 q_X12_item (by decide) (xsh hX sh_187) (by decide) (Nat.le_of_ble_eq_true rfl) gi ?_
                refine wb_if_ne dX12_line_156 rfl (fun c156 => ?_) (fun c156 => absurd c156 (by decide))
                refine wp_aload_n dX12_line_161 rfl rfl (g11_207 dX12_line_162 (xsh X1 sh_187) (xrr X1 r187_32) (wp_sipush (v := nI 732) dX12_line_165 rfl (wp_aload_n dX12_line_168 rfl rfl (gv11_195 dX12_line_169 (xsh X1 sh_187) c39 (wv_iadd dX12_line_172 (nI_add _ _) (wp_iconst (v := nI 1) dX12_line_173 rfl (wv_isub dX12_line_174 (pk_sub (by omega)) (wn_iaload dX12_line_175 (xsh X1 sh_198) rfl (by omega) (by decide) hix (wp_iconst (v := nI 4) dX12_line_176 rfl ?_)))))))))
                refine wn_icmp_eq dX12_line_177 rfl (by omega) (by omega) (fun c177 => absurd c177 (by omega)) (fun c177 => ?_)
                refine wp_aload_n dX12_line_180 rfl rfl (wp_iv1 dX12_line_181 k11_192 q_X12_isBeyond (by decide) (xsh X1 sh_187) (by decide) (Nat.le_of_ble_eq_true rfl) gb ?_)
                refine wb_if_ne dX12_line_184 rfl (fun c184 => absurd c184 (by decide)) (fun c184 => ?_)
                refine wp_aload_n dX12_line_187 rfl rfl (wp_iv1 dX12_line_188 k11_24 q_X12_peek (by decide) (xsh X1 sh_187) (by decide) (Nat.le_of_ble_eq_true rfl) gp (wp_bipush (v := nI 32) dX12_line_191 rfl ?_))
                refine wp_icmp_ne dX12_line_193 rfl (fun c193 => ?_) (fun c193 => absurd c193 (by decide))
                refine wp_iconst (v := nI 0) dX12_line_200 rfl (wp_istore_n dX12_line_201 ⟨Nat.le_of_ble_eq_true rfl, Or.inr rfl⟩ rfl (wp_iload_n dX12_line_202 rfl ?_))
                refine wn_if_eq dX12_line_203 rfl (by omega) (fun c203 => ?_) (fun c203 => absurd c203 (by omega))
                refine wp_iload_n dX12_line_138 rfl ?_
                refine wn_if_eq dX12_line_139 rfl (by omega) (fun c139 => ?_) (fun c139 => absurd c139 (by omega))
                exact kk
    rcases Decidable.em (1 < tm) with ht | ht
    · have e1 : nI 1 = xB (decide (1 < tm)) := xB_of_t (decide_eq_true ht)
      refine wp_iload_n dX12_line_138 rfl ?_
      refine wn_if_eq dX12_line_139 rfl (by omega) (fun c139 => absurd c139 (by omega)) (fun c139 => ?_)
      refine wp_aload_n dX12_line_142 rfl rfl (wp_iload_n dX12_line_143 rfl (wp_iconst (v := nI 1) dX12_line_144 rfl ?_))
      refine wn_icmp_le dX12_line_145 rfl (by omega) (by omega) (fun c145 => absurd c145 (by omega)) (fun c145 => ?_)
      refine wp_iconst (v := nI 1) dX12_line_148 rfl (wp_goto dX12_line_149 rfl ?_)
      refine wp_top (congrArg Value.int e1) ?_
      exact t153
    · have e1 : nI 0 = xB (decide (1 < tm)) := xB_of_f (decide_eq_false ht)
      refine wp_iload_n dX12_line_138 rfl ?_
      refine wn_if_eq dX12_line_139 rfl (by omega) (fun c139 => absurd c139 (by omega)) (fun c139 => ?_)
      refine wp_aload_n dX12_line_142 rfl rfl (wp_iload_n dX12_line_143 rfl (wp_iconst (v := nI 1) dX12_line_144 rfl ?_))
      refine wn_icmp_le dX12_line_145 rfl (by omega) (by omega) (fun c145 => ?_) (fun c145 => absurd c145 (by omega))
      refine wp_iconst (v := nI 0) dX12_line_152 rfl ?_
      refine wp_top (congrArg Value.int e1) ?_
      exact t153
