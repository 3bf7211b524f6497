/-! beats and strong, the calls -/
theorem xby_hi : ∀ c, c < 256 → 128 ≤ c → xby c < 97 := by decide +kernel
theorem xnb_lo {c : Nat} (h : c < 128) : vp_nar .byte (nI c) = nI c := by rw [← xby_lo c h]; exact xnb _
theorem xsm_hi {c : Nat} (h : 128 ≤ c) : xsm c = false := decide_eq_false (by omega)
theorem m_isSmall_by {c : Nat} (hc : c < 256) (d : Nat) (S : xS) : xcall false d j_X12_isSmall [.int (xby c)] S (some (.int (xB (xsm c)))) S := by
  rcases Nat.lt_or_ge c 128 with q | q
  · rw [xby_lo c q]
    exact m_isSmall (by omega) d S
  · have e := xby_hi c hc q
    rw [xsm_hi q]
    refine xcall_intro (ls := [.int (xby c)]) q_X12_isSmall (by decide) rfl (Nat.le_of_ble_eq_true rfl) rfl ?_
    refine wp_iload_n dX12_isSmall_0 rfl (wp_bipush (v := nI 97) dX12_isSmall_1 rfl ?_)
    refine wp_icmp_lt dX12_isSmall_3 rfl (fun c3 => ?_) (fun c3 => absurd c3 (not_not_intro e))
    exact wp_iconst (v := nI 0) dX12_isSmall_16 rfl (wb_ret dX12_isSmall_17 rfl rfl ⟨rfl, rfl⟩)
theorem tw_loop {n d : Nat} {t : Nat → Nat} (hn : 1 ≤ n ∧ n ≤ 12) : ∀ (j i : Nat) (S : xS), i + j = n → XC S → xTxM S n t → (∀ k, k < i → xsm (t k) = true ∧ S.2.1 195 k = nI (t k)) → Wp false (d + 1) 11 cX12_takeWord (some .boolean) false 25 [.ref 187, .int (nI i)] [] S (fun r S' => r = some (.int (xB (xisW n t))) ∧ xFl (fun a k => a = 195 ∧ k < 12) S S' ∧ (xisW n t = true → ∀ k, k < n → S'.2.1 195 k = nI (t k))) := by
  intro j
  induction j with
  | zero =>
    intro i S hi hX hT h
    have hs := hT.1
    have : i = n := by omega
    subst this
    have e : xisW i t = true := decide_eq_true ⟨hn.1, hn.2, fun k hk => (h k hk).1⟩
    refine wp_iload_n dX12_takeWord_25 rfl (wp_aload_n dX12_takeWord_26 rfl rfl (gv11_18 dX12_takeWord_27 (xsh hX sh_187) hs ?_))
    refine wn_icmp_ge dX12_takeWord_30 rfl (by omega) (by omega) (fun c30 => ?_) (fun c30 => absurd c30 (by omega))
    exact wp_iconst (v := nI 1) dX12_takeWord_67 rfl (wb_ret dX12_takeWord_68 rfl rfl ⟨by rw [e], xFl.rf S, fun _ k hk => (h k hk).2⟩)
  | succ j ih =>
    intro i S hi hX hT h
    have hs := hT.1
    have hb := hT.2.2 i (by omega)
    have gs := m_isSmall_by hb.1 d S
    cases hsm : xsm (t i) with
    | false =>
      have e : xisW n t = false := decide_eq_false (fun q => by have := q.2.2 i (by omega); rw [hsm] at this; cases this)
      refine wp_iload_n dX12_takeWord_25 rfl (wp_aload_n dX12_takeWord_26 rfl rfl (gv11_18 dX12_takeWord_27 (xsh hX sh_187) hs ?_))
      refine wn_icmp_ge dX12_takeWord_30 rfl (by omega) (by omega) (fun c30 => absurd c30 (by omega)) (fun c30 => ?_)
      refine wp_aload_n dX12_takeWord_33 rfl rfl (g11_14 dX12_takeWord_34 (xsh hX sh_187) (xrr hX r187_1) (wp_iload_n dX12_takeWord_37 rfl (wn_baload dX12_takeWord_38 (xsh hX sh_188) (Or.inl rfl) (by omega) (by decide) hb.2 (wp_is1 dX12_takeWord_39 k11_37 q_X12_isSmall (by decide) (Nat.le_of_ble_eq_true rfl) gs ?_))))
      refine wb_if_ne dX12_takeWord_42 rfl (fun c42 => absurd c42 (by rw [hsm]; decide)) (fun c42 => ?_)
      exact wp_iconst (v := nI 0) dX12_takeWord_45 rfl (wb_ret dX12_takeWord_46 rfl rfl ⟨by rw [e], xFl.rf S, fun q => by rw [e] at q; cases q⟩)
    | true =>
      have hlo := xsm_b hsm
      have hb2 : S.2.1 188 i = nI (t i) := by rw [← xby_lo _ (by omega)]; exact hb.2
      rw [xby_lo _ (by omega)] at gs
      refine wp_iload_n dX12_takeWord_25 rfl (wp_aload_n dX12_takeWord_26 rfl rfl (gv11_18 dX12_takeWord_27 (xsh hX sh_187) hs ?_))
      refine wn_icmp_ge dX12_takeWord_30 rfl (by omega) (by omega) (fun c30 => absurd c30 (by omega)) (fun c30 => ?_)
      refine wp_aload_n dX12_takeWord_33 rfl rfl (g11_14 dX12_takeWord_34 (xsh hX sh_187) (xrr hX r187_1) (wp_iload_n dX12_takeWord_37 rfl (wn_baload dX12_takeWord_38 (xsh hX sh_188) (Or.inl rfl) (by omega) (by decide) hb2 (wp_is1 dX12_takeWord_39 k11_37 q_X12_isSmall (by decide) (Nat.le_of_ble_eq_true rfl) gs ?_))))
      refine wb_if_ne dX12_takeWord_42 rfl (fun c42 => ?_) (fun c42 => absurd c42 (by rw [hsm]; decide))
      refine wp_aload_n dX12_takeWord_47 rfl rfl (g11_150 dX12_takeWord_48 (xsh hX sh_187) (xrr hX r187_27) (wp_iconst (v := nI 0) dX12_takeWord_51 rfl (wp_iload_n dX12_takeWord_52 rfl (wv_iadd dX12_takeWord_53 (nI_add _ _) (wp_aload_n dX12_takeWord_54 rfl rfl (g11_14 dX12_takeWord_55 (xsh hX sh_187) (xrr hX r187_1) (wp_iload_n dX12_takeWord_58 rfl (wn_baload dX12_takeWord_59 (xsh hX sh_188) (Or.inl rfl) (by omega) (by decide) hb2 (wn_bastore dX12_takeWord_60 (xsh hX sh_195) rfl (by omega) (by decide) (xnb_lo (by omega)) (wp_iinc dX12_takeWord_61 rfl (nI_1 _) ⟨Nat.le_of_ble_eq_true rfl, Or.inr rfl⟩ rfl (wp_goto dX12_takeWord_64 rfl ?_)))))))))))
      have F1 : xFl (fun a k => a = 195 ∧ k < 12) S (xSI S 195 (0 + i) (nI (t i))) := (xFl.rf S).SI ⟨rfl, by omega⟩
      refine (ih (i + 1) (xSI S 195 (0 + i) (nI (t i))) (by omega) (F1.XC hX) (hT.fr F1 (by omega) (fun k => by omega)) (fun k hk => ?_)).mono (fun r S' ⟨p1, p2, p3⟩ => ⟨p1, F1.tt p2, p3⟩)
      rcases Nat.lt_or_ge k i with q | q
      · exact ⟨(h k q).1, xi (h k q).2 (Or.inr (by omega))⟩
      · have : k = i := by omega
        subst this
        refine ⟨hsm, ?_⟩
        have e := xI_same S 195 (0 + k) (nI (t k))
        rw [Nat.zero_add] at e ⊢
        exact e
theorem m_takeWord {n : Nat} {t : Nat → Nat} (d : Nat) {S : xS} (hX : XC S) (hn : S.2.1 187 2 = nI n) (hle : n ≤ 260) (hb : ∀ k, k < n → t k < 256 ∧ S.2.1 188 k = xby (t k)) : ∃ S', xcall false (d + 1) j_X12_takeWord [.ref 187] S (some (.int (xB (xisW n t)))) S' ∧ xFl (fun a k => (a = 187 ∧ (k = 2 ∨ k = 3 ∨ k = 4)) ∨ (a = 195 ∧ k < 12)) S S' ∧ S'.2.1 187 3 = nI n ∧ S'.2.1 187 2 = nI 0 ∧ (xisW n t = true → ∀ k, k < n → S'.2.1 195 k = nI (t k)) := by
  have gt := m_taken d hX hn
  have F1 : xFl (fun a k => (a = 187 ∧ (k = 2 ∨ k = 3 ∨ k = 4)) ∨ (a = 195 ∧ k < 12)) S (xSI (xSI (xSI S 187 3 (nI n)) 187 2 (nI 0)) 187 4 (nI 0)) := (((xFl.rf S).SI (Or.inl ⟨rfl, by decide⟩)).SI (Or.inl ⟨rfl, by decide⟩)).SI (Or.inl ⟨rfl, by decide⟩)
  have hs : (xSI (xSI (xSI S 187 3 (nI n)) 187 2 (nI 0)) 187 4 (nI 0)).2.1 187 3 = nI n := xi (xi (xI_same _ _ _ _) (Or.inr (by decide))) (Or.inr (by decide))
  have h2 : (xSI (xSI (xSI S 187 3 (nI n)) 187 2 (nI 0)) 187 4 (nI 0)).2.1 187 2 = nI 0 := xi (xI_same _ _ _ _) (Or.inr (by decide))
  have hT : xTxM (xSI (xSI (xSI S 187 3 (nI n)) 187 2 (nI 0)) 187 4 (nI 0)) n t := ⟨hs, hle, fun k hk => ⟨(hb k hk).1, F1.i (hb k hk).2 (by omega)⟩⟩
  have X1 := F1.XC hX
  generalize xSI (xSI (xSI S 187 3 (nI n)) 187 2 (nI 0)) 187 4 (nI 0) = S1 at gt F1 hs h2 hT X1
  have key : ∃ r S', xcall false (d + 1) j_X12_takeWord [.ref 187] S r S' ∧ (r = some (.int (xB (xisW n t))) ∧ xFl (fun a k => a = 195 ∧ k < 12) S1 S' ∧ (xisW n t = true → ∀ k, k < n → S'.2.1 195 k = nI (t k))) := by
    refine xcall_some (ls := [.ref 187, .float 0]) q_X12_takeWord (by decide) rfl (Nat.le_of_ble_eq_true rfl) rfl ?_
    have e0 : n < 1 ∨ 12 < n → xisW n t = false := fun q => decide_eq_false (by omega)
    refine wp_aload_n dX12_takeWord_0 rfl rfl (wp_iv1 dX12_takeWord_1 k11_69 q_X12_taken (by decide) (xsh hX sh_187) (by decide) (Nat.le_of_ble_eq_true rfl) gt (wp_aload_n dX12_takeWord_4 rfl rfl (gv11_18 dX12_takeWord_5 (xsh X1 sh_187) hs (wp_iconst (v := nI 1) dX12_takeWord_8 rfl ?_))))
    refine wn_icmp_lt dX12_takeWord_9 rfl (by omega) (by omega) (fun c9 => ?_) (fun c9 => ?_)
    · exact wp_iconst (v := nI 0) dX12_takeWord_21 rfl (wb_ret dX12_takeWord_22 rfl rfl ⟨by rw [e0 (by omega)], xFl.rf _, fun q => by rw [e0 (by omega)] at q; cases q⟩)
    · refine wp_aload_n dX12_takeWord_12 rfl rfl (gv11_18 dX12_takeWord_13 (xsh X1 sh_187) hs (wp_bipush (v := nI 12) dX12_takeWord_16 rfl ?_))
      refine wn_icmp_le dX12_takeWord_18 rfl (by omega) (by omega) (fun c18 => ?_) (fun c18 => ?_)
      · exact wp_iconst (v := nI 0) dX12_takeWord_23 rfl (wp_istore_n dX12_takeWord_24 ⟨Nat.le_of_ble_eq_true rfl, Or.inr rfl⟩ rfl (tw_loop ⟨by omega, by omega⟩ n 0 S1 (by omega) X1 hT (fun k hk => absurd hk (Nat.not_lt_zero k))))
      · exact wp_iconst (v := nI 0) dX12_takeWord_21 rfl (wb_ret dX12_takeWord_22 rfl rfl ⟨by rw [e0 (by omega)], xFl.rf _, fun q => by rw [e0 (by omega)] at q; cases q⟩)
  obtain ⟨r, S', h1, rfl, p1, p2⟩ := key
  exact ⟨S', h1, (F1.tr p1).mono (fun i k h => by omega), p1.i hs (by omega), p1.i h2 (by omega), p2⟩
def xbAns (v : xTg) (n : Nat) (t : Nat → Nat) : Int32 := if xisW n t = true then nI (xbeats v t n) else -1
def xsAns (v : xTg) (n : Nat) (t : Nat → Nat) : Int32 := if xisW n t = true then nI (xstrong v.2.2.2 (xbeats v t n)) else -1
theorem xisW_y {n : Nat} {t : Nat → Nat} (h : xisW n t = true) : 1 ≤ n ∧ n ≤ 12 ∧ ∀ k, k < n → xsm (t k) = true := of_decide_eq_true h
theorem xbeats_b (v : xTg) (w : Nat → Nat) (n : Nat) : 1 ≤ xbeats v w n ∧ xbeats v w n ≤ n + 1 := by
  have := xcb_le (xbb v w n) n
  unfold xbeats
  split <;> omega
theorem xTgM.fr {S S' : xS} {v : xTg} {P : Nat → Nat → Prop} (h : xTgM S v) (hf : xFl P S S') (h1 : ∀ k, k = 12 ∨ k = 13 ∨ k = 14 ∨ k = 15 → ¬ P 187 k) (h2 : ∀ a k, a = 189 ∨ a = 191 ∨ a = 193 → ¬ P a k) : xTgM S' v := by
  obtain ⟨v1, v2, v3, v4, v5⟩ := h
  exact ⟨⟨hf.i v1.1 (h1 _ (by omega)), v1.2⟩, ⟨hf.i v2.1 (h1 _ (by omega)), v2.2.1, fun i hi => hf.i (v2.2.2.1 i hi) (h2 _ _ (by omega)), v2.2.2.2⟩, ⟨hf.i v3.1 (h1 _ (by omega)), v3.2.1, fun i hi => ⟨hf.i (v3.2.2.1 i hi).1 (h2 _ _ (by omega)), hf.i (v3.2.2.1 i hi).2 (h2 _ _ (by omega))⟩, v3.2.2.2⟩, hf.i v4 (h1 _ (by omega)), v5⟩
theorem m_beats {v : xTg} {n : Nat} {t : Nat → Nat} (d : Nat) {S : xS} (hX : XC S) (hn : S.2.1 187 2 = nI n) (hle : n ≤ 260) (hb : ∀ k, k < n → t k < 256 ∧ S.2.1 188 k = xby (t k)) (hV : xTgM S v) : ∃ S', xcall false (d + 3) j_X12_beats [.ref 187] S (some (.int (xbAns v n t))) S' ∧ xFl (fun a k => (a = 187 ∧ (k = 0 ∨ k = 2 ∨ k = 3 ∨ k = 4)) ∨ (a = 195 ∧ k < 12)) S S' ∧ S'.2.1 187 2 = nI 0 := by
  have F0 : xFl (fun a k => a = 187 ∧ k = 0) S (xSI S 187 0 (nI 0)) := (xFl.rf S).SI ⟨rfl, rfl⟩
  obtain ⟨S1, g1, F1, h3, i2, h5⟩ := m_takeWord (t := t) (d + 1) (F0.XC hX) (F0.i hn (by omega)) hle (fun k hk => ⟨(hb k hk).1, F0.i (hb k hk).2 (by omega)⟩)
  have X1 := F1.XC (F0.XC hX)
  have F2 : xFl (fun a k => (a = 187 ∧ (k = 0 ∨ k = 2 ∨ k = 3 ∨ k = 4)) ∨ (a = 195 ∧ k < 12)) S S1 := (F0.tr F1).mono (fun i k h => by omega)
  have V1 : xTgM S1 v := hV.fr F2 (fun k h => by omega) (fun a k h => by omega)
  have key : ∃ r S', xcall false (d + 3) j_X12_beats [.ref 187] S r S' ∧ (r = some (.int (xbAns v n t)) ∧ xFl (fun a k => (a = 187 ∧ (k = 0 ∨ k = 2 ∨ k = 3 ∨ k = 4)) ∨ (a = 195 ∧ k < 12)) S S' ∧ S'.2.1 187 2 = nI 0) := by
    refine xcall_some (ls := [.ref 187]) q_X12_beats (by decide) rfl (Nat.le_of_ble_eq_true rfl) rfl ?_
    refine wp_aload_n dX12_beats_0 rfl rfl (wp_iconst (v := nI 0) dX12_beats_1 rfl (p11_1 dX12_beats_2 (xsh hX sh_187) (wp_aload_n dX12_beats_5 rfl rfl (wp_iv1 dX12_beats_6 k11_163 q_X12_takeWord (by decide) (xsh hX sh_187) (by decide) (Nat.le_of_ble_eq_true rfl) g1 ?_))))
    refine wb_if_eq dX12_beats_9 rfl (fun c9 => ?_) (fun c9 => ?_)
    · exact wp_iconst (v := -1) dX12_beats_24 rfl (wp_ireturn dX12_beats_25 rfl rfl ⟨by unfold xbAns; rw [if_neg (by rw [c9]; decide)], F2, i2⟩)
    · have hw := xisW_y c9
      have gb := m_beatsOf (s := 0) (n := n) (w := t) (d + 1) X1 (by omega) (by omega) (fun k hk => ⟨hw.2.2 k hk, by rw [Nat.zero_add]; exact h5 c9 k hk⟩) V1
      exact wp_aload_n dX12_beats_12 rfl rfl (wp_iconst (v := nI 0) dX12_beats_13 rfl (wp_aload_n dX12_beats_14 rfl rfl (gv11_18 dX12_beats_15 (xsh X1 sh_187) h3 (wp_iv3 dX12_beats_18 k11_166 q_X12_beatsOf (by decide) (xsh X1 sh_187) (by decide) (Nat.le_of_ble_eq_true rfl) gb (wp_goto dX12_beats_21 rfl (wp_ireturn dX12_beats_25 rfl rfl ⟨by unfold xbAns; rw [if_pos c9], F2, i2⟩))))))
  obtain ⟨r, S', h1, rfl, p1, p2⟩ := key
  exact ⟨S', h1, p1, p2⟩
theorem m_strong {v : xTg} {n : Nat} {t : Nat → Nat} (d : Nat) {S : xS} (hX : XC S) (hn : S.2.1 187 2 = nI n) (hle : n ≤ 260) (hb : ∀ k, k < n → t k < 256 ∧ S.2.1 188 k = xby (t k)) (hV : xTgM S v) : ∃ S', xcall false (d + 3) j_X12_strong [.ref 187] S (some (.int (xsAns v n t))) S' ∧ xFl (fun a k => (a = 187 ∧ (k = 0 ∨ k = 2 ∨ k = 3 ∨ k = 4)) ∨ (a = 195 ∧ k < 12)) S S' ∧ S'.2.1 187 2 = nI 0 := by
  have F0 : xFl (fun a k => a = 187 ∧ k = 0) S (xSI S 187 0 (nI 0)) := (xFl.rf S).SI ⟨rfl, rfl⟩
  obtain ⟨S1, g1, F1, h3, i2, h5⟩ := m_takeWord (t := t) (d + 1) (F0.XC hX) (F0.i hn (by omega)) hle (fun k hk => ⟨(hb k hk).1, F0.i (hb k hk).2 (by omega)⟩)
  have X1 := F1.XC (F0.XC hX)
  have F2 : xFl (fun a k => (a = 187 ∧ (k = 0 ∨ k = 2 ∨ k = 3 ∨ k = 4)) ∨ (a = 195 ∧ k < 12)) S S1 := (F0.tr F1).mono (fun i k h => by omega)
  have V1 : xTgM S1 v := hV.fr F2 (fun k h => by omega) (fun a k h => by omega)
  have key : ∃ r S', xcall false (d + 3) j_X12_strong [.ref 187] S r S' ∧ (r = some (.int (xsAns v n t)) ∧ xFl (fun a k => (a = 187 ∧ (k = 0 ∨ k = 2 ∨ k = 3 ∨ k = 4)) ∨ (a = 195 ∧ k < 12)) S S' ∧ S'.2.1 187 2 = nI 0) := by
    refine xcall_some (ls := [.ref 187]) q_X12_strong (by decide) rfl (Nat.le_of_ble_eq_true rfl) rfl ?_
    refine wp_aload_n dX12_strong_0 rfl rfl (wp_iconst (v := nI 0) dX12_strong_1 rfl (p11_1 dX12_strong_2 (xsh hX sh_187) (wp_aload_n dX12_strong_5 rfl rfl (wp_iv1 dX12_strong_6 k11_163 q_X12_takeWord (by decide) (xsh hX sh_187) (by decide) (Nat.le_of_ble_eq_true rfl) g1 ?_))))
    refine wb_if_eq dX12_strong_9 rfl (fun c9 => ?_) (fun c9 => ?_)
    · exact wp_iconst (v := -1) dX12_strong_28 rfl (wp_ireturn dX12_strong_29 rfl rfl ⟨by unfold xsAns; rw [if_neg (by rw [c9]; decide)], F2, i2⟩)
    · have hw := xisW_y c9
      have gb := m_beatsOf (s := 0) (n := n) (w := t) (d + 1) X1 (by omega) (by omega) (fun k hk => ⟨hw.2.2 k hk, by rw [Nat.zero_add]; exact h5 c9 k hk⟩) V1
      have hbb := xbeats_b v t n
      have gs := m_strongOf (k := xbeats v t n) (d + 2) X1 V1 (by omega) (by omega)
      exact wp_aload_n dX12_strong_12 rfl rfl (wp_aload_n dX12_strong_13 rfl rfl (wp_iconst (v := nI 0) dX12_strong_14 rfl (wp_aload_n dX12_strong_15 rfl rfl (gv11_18 dX12_strong_16 (xsh X1 sh_187) h3 (wp_iv3 dX12_strong_19 k11_166 q_X12_beatsOf (by decide) (xsh X1 sh_187) (by decide) (Nat.le_of_ble_eq_true rfl) gb (wp_iv2 dX12_strong_22 k11_169 q_X12_strongOf (by decide) (xsh X1 sh_187) (by decide) (Nat.le_of_ble_eq_true rfl) gs (wp_goto dX12_strong_25 rfl (wp_ireturn dX12_strong_29 rfl rfl ⟨by unfold xsAns; rw [if_pos c9], F2, i2⟩))))))))
  obtain ⟨r, S', h1, rfl, p1, p2⟩ := key
  exact ⟨S', h1, p1, p2⟩
theorem c_beats {a b c n : Nat} {t : Nat → Nat} {v : xTg} (d : Nat) (htg : xTgC a b c) {S : xS} (hX : XC S) (hn : S.2.1 1 1 = nI n) (hle : n ≤ 260) (hb : ∀ k, k < n → t k < 256 ∧ S.2.1 2 k = nI (t k)) (hra : S.2.2.1 0 2 = some a) (hV : xTgV a b c S v) : xcall false (d + 3) j_X11_beats [.ref 0] S (some (.int (xbAns v n t))) (xSI S 1 1 (nI 0)) := by
  have htg' := htg
  unfold xTgC at htg'
  have F1 : xFl (fun i k => i = 1 ∧ k = 1) S (xSI S 1 1 (nI 0)) := (xFl.rf S).SI ⟨rfl, rfl⟩
  have X1 := F1.XC hX
  have V1 : xTgV a b c (xSI S 1 1 (nI 0)) v := hV.fr _ _ _ _ F1 (fun i k h => by omega)
  obtain ⟨ha, hb', hc, ra, rc⟩ := htg.sh X1
  have hT : xTb (xSI S 1 1 (nI 0)) n t := ⟨hle, fun k hk => ⟨(hb k hk).1, F1.i (hb k hk).2 (by omega)⟩⟩
  have gw := c_isWord X1 hT (d + 1)
  refine xcall_intro (ls := [.ref 0, .float 0]) q_X11_beats (by decide) rfl (Nat.le_of_ble_eq_true rfl) rfl ?_
  refine wp_aload_n dX11_beats_0 rfl rfl (g10_10 dX11_beats_1 (xsh hX sh_0) (xrr hX r0_0) (wp_iv1 dX11_beats_4 k10_107 q_X6_take (by decide) (xsh hX sh_1) (by decide) (Nat.le_of_ble_eq_true rfl) (c_take hX hn (d + 2)) (wp_istore_n dX11_beats_7 ⟨Nat.le_of_ble_eq_true rfl, Or.inr rfl⟩ rfl (wp_aload_n dX11_beats_8 rfl rfl (g10_10 dX11_beats_9 (xsh X1 sh_0) (xrr X1 r0_0) (wp_iload_n dX11_beats_12 rfl (wp_iv2 dX11_beats_13 k10_166 q_X6_isWord (by decide) (xsh X1 sh_1) (by decide) (Nat.le_of_ble_eq_true rfl) gw ?_)))))))
  refine wb_if_eq dX11_beats_16 rfl (fun c16 => ?_) (fun c16 => ?_)
  · exact wp_iconst (v := -1) dX11_beats_38 rfl (wp_ireturn dX11_beats_39 rfl rfl ⟨by unfold xbAns; rw [if_neg (by rw [c16]; decide)], rfl⟩)
  · have hw := xisW_y c16
    have gb := c_beatsIn (x := 2) (nx := 260) (s := 0) (n := n) (w := t) d htg X1 V1 (xsh X1 sh_2) (by decide) (by omega) hw.2.1 (fun k hk => ⟨hw.2.2 k hk, by rw [Nat.zero_add]; exact (hT.2 k hk).2⟩)
    exact wp_aload_n dX11_beats_19 rfl rfl (g10_26 dX11_beats_20 (xsh X1 sh_0) hra (wp_aload_n dX11_beats_23 rfl rfl (g10_10 dX11_beats_24 (xsh X1 sh_0) (xrr X1 r0_0) (g10_104 dX11_beats_27 (xsh X1 sh_1) (xrr X1 r1_0) (wp_iconst (v := nI 0) dX11_beats_30 rfl (wp_iload_n dX11_beats_31 rfl (wp_iv4 dX11_beats_32 k10_169 q_X8_beatsIn (by decide) ha (by decide) (Nat.le_of_ble_eq_true rfl) gb (wp_goto dX11_beats_35 rfl (wp_ireturn dX11_beats_39 rfl rfl ⟨by unfold xbAns; rw [if_pos c16], rfl⟩)))))))))
theorem c_strong {a b c n : Nat} {t : Nat → Nat} {v : xTg} (d : Nat) (htg : xTgC a b c) {S : xS} (hX : XC S) (hn : S.2.1 1 1 = nI n) (hle : n ≤ 260) (hb : ∀ k, k < n → t k < 256 ∧ S.2.1 2 k = nI (t k)) (hra : S.2.2.1 0 2 = some a) (hV : xTgV a b c S v) : xcall false (d + 3) j_X11_strong [.ref 0] S (some (.int (xsAns v n t))) (xSI S 1 1 (nI 0)) := by
  have htg' := htg
  unfold xTgC at htg'
  have F1 : xFl (fun i k => i = 1 ∧ k = 1) S (xSI S 1 1 (nI 0)) := (xFl.rf S).SI ⟨rfl, rfl⟩
  have X1 := F1.XC hX
  have V1 : xTgV a b c (xSI S 1 1 (nI 0)) v := hV.fr _ _ _ _ F1 (fun i k h => by omega)
  obtain ⟨ha, hb', hc, ra, rc⟩ := htg.sh X1
  have hT : xTb (xSI S 1 1 (nI 0)) n t := ⟨hle, fun k hk => ⟨(hb k hk).1, F1.i (hb k hk).2 (by omega)⟩⟩
  have gw := c_isWord X1 hT (d + 1)
  refine xcall_intro (ls := [.ref 0, .float 0]) q_X11_strong (by decide) rfl (Nat.le_of_ble_eq_true rfl) rfl ?_
  refine wp_aload_n dX11_strong_0 rfl rfl (g10_10 dX11_strong_1 (xsh hX sh_0) (xrr hX r0_0) (wp_iv1 dX11_strong_4 k10_107 q_X6_take (by decide) (xsh hX sh_1) (by decide) (Nat.le_of_ble_eq_true rfl) (c_take hX hn (d + 2)) (wp_istore_n dX11_strong_7 ⟨Nat.le_of_ble_eq_true rfl, Or.inr rfl⟩ rfl (wp_aload_n dX11_strong_8 rfl rfl (g10_10 dX11_strong_9 (xsh X1 sh_0) (xrr X1 r0_0) (wp_iload_n dX11_strong_12 rfl (wp_iv2 dX11_strong_13 k10_166 q_X6_isWord (by decide) (xsh X1 sh_1) (by decide) (Nat.le_of_ble_eq_true rfl) gw ?_)))))))
  refine wb_if_eq dX11_strong_16 rfl (fun c16 => ?_) (fun c16 => ?_)
  · exact wp_iconst (v := -1) dX11_strong_45 rfl (wp_ireturn dX11_strong_46 rfl rfl ⟨by unfold xsAns; rw [if_neg (by rw [c16]; decide)], rfl⟩)
  · have hw := xisW_y c16
    have gb := c_beatsIn (x := 2) (nx := 260) (s := 0) (n := n) (w := t) d htg X1 V1 (xsh X1 sh_2) (by decide) (by omega) hw.2.1 (fun k hk => ⟨hw.2.2 k hk, by rw [Nat.zero_add]; exact (hT.2 k hk).2⟩)
    have hbb := xbeats_b v t n
    have gs := c_strongOf (k := xbeats v t n) (d + 2) htg X1 V1 (by omega)
    exact wp_aload_n dX11_strong_19 rfl rfl (g10_26 dX11_strong_20 (xsh X1 sh_0) hra (wp_aload_n dX11_strong_23 rfl rfl (g10_26 dX11_strong_24 (xsh X1 sh_0) hra (wp_aload_n dX11_strong_27 rfl rfl (g10_10 dX11_strong_28 (xsh X1 sh_0) (xrr X1 r0_0) (g10_104 dX11_strong_31 (xsh X1 sh_1) (xrr X1 r1_0) (wp_iconst (v := nI 0) dX11_strong_34 rfl (wp_iload_n dX11_strong_35 rfl (wp_iv4 dX11_strong_36 k10_169 q_X8_beatsIn (by decide) ha (by decide) (Nat.le_of_ble_eq_true rfl) gb (wp_iv2 dX11_strong_39 k10_173 q_X8_strongOf (by decide) ha (by decide) (Nat.le_of_ble_eq_true rfl) gs (wp_goto dX11_strong_42 rfl (wp_ireturn dX11_strong_46 rfl rfl ⟨by unfold xsAns; rw [if_pos c16], rfl⟩))))))))))))
