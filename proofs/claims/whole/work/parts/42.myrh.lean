/-! THE YARD of the reference: left and rhymes -/
theorem m_yr5 {n p sm : Nat} {t : Nat → Nat} (d : Nat) {v : xYd} {S : xS} (hX : XC S) (hT : xTxM S n t) (hM : xTM S n t p) (hs : S.2.1 187 20 = nI sm) (hs2 : sm < 2 ^ 31) (hV : xYdN S v) (h : xiw xw_left n t p = true) (hb : sm.testBit 5 = false) : ∃ b S', xcall false (d + 4) j_X12_yardRule [.ref 187] S (some (.int (xB b))) S' ∧ xFl xFY S S' ∧ xMO xYdN n t S S' b (xyrule t n 5 (xta t n p) v) ∧ S'.2.1 187 20 = nI (sm ||| 2 ^ 5) := by
  have hM0 := hM
  obtain ⟨hp, h6, h4, h5, hr⟩ := hM
  have b4 := xtk_b t n p
  have hab := xta_b t hp
  have hle := hT.2.1
  have n_count : xiw xw_count n t p = false := xiw_uni h (by decide)
  have n_by : xiw xw_by n t p = false := xiw_uni h (by decide)
  have n_hit : xiw xw_hit n t p = false := xiw_uni h (by decide)
  have n_then : xiw xw_then n t p = false := xiw_uni h (by decide)
  have n_turn : xiw xw_turn n t p = false := xiw_uni h (by decide)
  have n_aim : xiw xw_aim n t p = false := xiw_uni h (by decide)
  obtain ⟨S1, g1, f1, t1, o1⟩ := m_once (d + 1) hX hT hM0 hs hs2 (r := 5) (by decide) hb
  have X1 := f1.XC hX
  have T1 := hT.fr f1 (by omega) (fun k => by omega)
  have F1 : xFl xFY S S1 := f1.mono xFO_Y
  have V1 := hV.fr f1 (fun i k h => by omega)
  have t1' := t1
  obtain ⟨p1, a6, a4, a5, ar⟩ := t1
  have hab1 := xta_b t p1
  have b41 := xtk_b t n (xta t n p)
  have e9 : S1.2.1 187 9 = S.2.1 187 9 := f1.2.2 187 9 (by omega)
  by_cases h1 : xtk t n (xta t n p) = 2
  · have hx := xtk2 h1
    have hnum := (ar hx.1).2.1
    have h42 : S1.2.1 187 5 = nI 2 := a5.trans (by rw [h1])
    have hlt := (hT.2.2 (xts t n (xta t n p)) (by omega)).1
    have e5 : ∀ v' : Except (Nat × Nat) (Nat × xYd), (if 5 = 5 then (if xtk t n (xta t n p) = 2 then (if t (xts t n (xta t n p)) - 48 < 1 then .error (3, xts t n (xta t n p)) else .ok (xta t n (xta t n p), (xyup v.1 5 (t (xts t n (xta t n p)) - 48), v.2))) else .error (xfh t n (xta t n p))) else v') = (if t (xts t n (xta t n p)) - 48 < 1 then .error (3, xts t n (xta t n p)) else .ok (xta t n (xta t n p), (xyup v.1 5 (t (xts t n (xta t n p)) - 48), v.2))) := fun v' => by rw [if_pos rfl, if_pos h1]
    unfold xyrule
    rw [e5]
    rcases Nat.lt_or_ge (t (xts t n (xta t n p)) - 48) 1 with hd | hd
    · rw [if_pos hd]
      refine ⟨false, xSI (xSI S1 187 9 (nI 3)) 187 10 (nI (xts t n (xta t n p))), ?_, (F1.SI (Or.inl ⟨rfl, by omega⟩)).SI (Or.inl ⟨rfl, by omega⟩), ⟨fun e he => (by cases he; exact ⟨rfl, xi (xI_same _ _ _ _) (Or.inr (by decide)), xI_same _ _ _ _⟩), fun p' v' he => (by cases he)⟩, xi (xi o1 (Or.inr (by decide))) (Or.inr (by decide))⟩
      refine xcall_intro (ls := [.ref 187]) q_X12_yardRule (by decide) rfl (Nat.le_of_ble_eq_true rfl) rfl ?_
      refine wp_aload_n dX12_yardRule_0 rfl rfl (wp_ldc2 (v := lN 427071729268) dX12_yardRule_1 k11_281 rfl (wp_iv2 dX12_yardRule_4 k11_124 q_X12_isWord (by decide) (xsh hX sh_187) (by decide) (Nat.le_of_ble_eq_true rfl) (m_isWord (d + 3) hX hT hM0 (r := xw_count) (W := 427071729268) ⟨by decide, by decide, by decide, by decide⟩ (by decide)) ?_))
      refine wb_if_eq dX12_yardRule_7 rfl (fun c7 => ?_) (fun c7 => absurd c7 (by rw [n_count]; decide))
      refine wp_aload_n dX12_yardRule_23 rfl rfl (wp_ldc2 (v := lN 25209) dX12_yardRule_24 k11_291 rfl (wp_iv2 dX12_yardRule_27 k11_124 q_X12_isWord (by decide) (xsh hX sh_187) (by decide) (Nat.le_of_ble_eq_true rfl) (m_isWord (d + 3) hX hT hM0 (r := xw_by) (W := 25209) ⟨by decide, by decide, by decide, by decide⟩ (by decide)) ?_))
      refine wb_if_eq dX12_yardRule_30 rfl (fun c30 => ?_) (fun c30 => absurd c30 (by rw [n_by]; decide))
      refine wp_aload_n dX12_yardRule_46 rfl rfl (wp_ldc2 (v := lN 6842740) dX12_yardRule_47 k11_297 rfl (wp_iv2 dX12_yardRule_50 k11_124 q_X12_isWord (by decide) (xsh hX sh_187) (by decide) (Nat.le_of_ble_eq_true rfl) (m_isWord (d + 3) hX hT hM0 (r := xw_hit) (W := 6842740) ⟨by decide, by decide, by decide, by decide⟩ (by decide)) ?_))
      refine wb_if_eq dX12_yardRule_53 rfl (fun c53 => ?_) (fun c53 => absurd c53 (by rw [n_hit]; decide))
      refine wp_aload_n dX12_yardRule_69 rfl rfl (wp_ldc2 (v := lN 1952998766) dX12_yardRule_70 k11_303 rfl (wp_iv2 dX12_yardRule_73 k11_124 q_X12_isWord (by decide) (xsh hX sh_187) (by decide) (Nat.le_of_ble_eq_true rfl) (m_isWord (d + 3) hX hT hM0 (r := xw_then) (W := 1952998766) ⟨by decide, by decide, by decide, by decide⟩ (by decide)) ?_))
      refine wb_if_eq dX12_yardRule_76 rfl (fun c76 => ?_) (fun c76 => absurd c76 (by rw [n_then]; decide))
      refine wp_aload_n dX12_yardRule_94 rfl rfl (wp_ldc2 (v := lN 1953854062) dX12_yardRule_95 k11_311 rfl (wp_iv2 dX12_yardRule_98 k11_124 q_X12_isWord (by decide) (xsh hX sh_187) (by decide) (Nat.le_of_ble_eq_true rfl) (m_isWord (d + 3) hX hT hM0 (r := xw_turn) (W := 1953854062) ⟨by decide, by decide, by decide, by decide⟩ (by decide)) ?_))
      refine wb_if_eq dX12_yardRule_101 rfl (fun c101 => ?_) (fun c101 => absurd c101 (by rw [n_turn]; decide))
      refine wp_aload_n dX12_yardRule_117 rfl rfl (wp_ldc2 (v := lN 6383981) dX12_yardRule_118 k11_317 rfl (wp_iv2 dX12_yardRule_121 k11_124 q_X12_isWord (by decide) (xsh hX sh_187) (by decide) (Nat.le_of_ble_eq_true rfl) (m_isWord (d + 3) hX hT hM0 (r := xw_aim) (W := 6383981) ⟨by decide, by decide, by decide, by decide⟩ (by decide)) ?_))
      refine wb_if_eq dX12_yardRule_124 rfl (fun c124 => ?_) (fun c124 => absurd c124 (by rw [n_aim]; decide))
      refine wp_aload_n dX12_yardRule_141 rfl rfl (wp_ldc2 (v := lN 1818584692) dX12_yardRule_142 k11_321 rfl (wp_iv2 dX12_yardRule_145 k11_124 q_X12_isWord (by decide) (xsh hX sh_187) (by decide) (Nat.le_of_ble_eq_true rfl) (m_isWord (d + 3) hX hT hM0 (r := xw_left) (W := 1818584692) ⟨by decide, by decide, by decide, by decide⟩ (by decide)) ?_))
      refine wb_if_eq dX12_yardRule_148 rfl (fun c148 => absurd c148 (by rw [h]; decide)) (fun c148 => ?_)
      refine wp_aload_n dX12_yardRule_151 rfl rfl (wp_iconst (v := nI 5) dX12_yardRule_152 rfl (wp_iv2 dX12_yardRule_153 k11_128 q_X12_once (by decide) (xsh hX sh_187) (by decide) (Nat.le_of_ble_eq_true rfl) g1 ?_))
      refine wb_if_ne dX12_yardRule_156 rfl (fun c156 => ?_) (fun c156 => absurd c156 (by decide))
      refine wp_aload_n dX12_yardRule_161 rfl rfl (gv11_34 dX12_yardRule_162 (xsh X1 sh_187) h42 (wp_iconst (v := nI 2) dX12_yardRule_165 rfl ?_))
      refine wn_icmp_eq dX12_yardRule_166 rfl (by omega) (by omega) (fun c166 => ?_) (fun c166 => absurd c166 (by omega))
      refine wp_aload_n dX12_yardRule_174 rfl rfl (gv11_48 dX12_yardRule_175 (xsh X1 sh_187) hnum ?_)
      refine wn_if_ne dX12_yardRule_178 rfl (by omega) (fun c178 => absurd c178 (by omega)) (fun c178 => ?_)
      exact wp_aload_n dX12_yardRule_181 rfl rfl (wp_iconst (v := nI 3) dX12_yardRule_182 rfl (wp_aload_n dX12_yardRule_183 rfl rfl (gv11_28 dX12_yardRule_184 (xsh X1 sh_187) a6 (wp_iv3 dX12_yardRule_187 k11_57 q_X12_wrong (by decide) (xsh X1 sh_187) (by decide) (Nat.le_of_ble_eq_true rfl) (m_wrong 3 _ (d + 3) X1) (wb_ret dX12_yardRule_190 rfl rfl ⟨rfl, rfl⟩)))))
    · rw [if_neg (by omega)]
      have F0 : xFl (fun i k => i = 209 ∧ k = 5) S1 (xSI S1 209 5 (nI (t (xts t n (xta t n p)) - 48))) := (xFl.rf S1).SI ⟨rfl, rfl⟩
      have F2 : xFl xFY S (xSI S1 209 5 (nI (t (xts t n (xta t n p)) - 48))) := F1.SI (Or.inr (Or.inl rfl))
      have X2 := F0.XC X1
      obtain ⟨S3, g3, f3, t3⟩ := m_next (d + 2) X2 (T1.fr F0 (by omega) (fun k => by omega)) (F0.i a4 (by omega)) hab1.2.1
      have X3 := f3.XC X2
      have T3 := (T1.fr F0 (by omega) (fun k => by omega)).fr f3 (by omega) (fun k => by omega)
      have q9 : S3.2.1 187 9 = S.2.1 187 9 := f3.i (F0.i e9 (by omega)) (by omega)
      have q20 : S3.2.1 187 20 = nI (sm ||| 2 ^ 5) := f3.i (F0.i o1 (by omega)) (by omega)
      have F3 : xFl xFY S S3 := F2.tt (f3.mono xFN_Y)
      have V3 : xYdN S3 (xyup v.1 5 (t (xts t n (xta t n p)) - 48), v.2) := by
        obtain ⟨v1, v2, v3, v4, v5⟩ := V1
        refine ⟨fun i hi => ?_, ?_, f3.i (F0.i v3 (by omega)) (by omega), fun i hi => f3.i (F0.i (v4 i hi) (by omega)) (by omega), xyok_up v5 (by show _ ≤ 9; omega) (by omega)⟩
        · show _ = nI (xyup v.1 5 (t (xts t n (xta t n p)) - 48) i)
          unfold xyup
          split
          · rename_i e; subst e; exact f3.i (xI_same _ _ _ _) (by omega)
          · exact f3.i (xi (v1 i hi) (Or.inr (by omega))) (by omega)
        · show _ = nI (1 - xyup v.1 5 (t (xts t n (xta t n p)) - 48) 7)
          unfold xyup
          rw [if_neg (by decide)]
          exact f3.i (xi v2 (Or.inr (by decide))) (by omega)
      by_cases h3 : xtk t n (xta t n (xta t n p)) = 3
      · obtain ⟨S4, g4, f4, t4⟩ := m_semi (d + 1) X3 T3 t3 h3
        refine ⟨true, S4, ?_, F3.tt (f4.mono xFN_Y), ⟨fun e he => (by cases he), fun p' v' he => ?_⟩, f4.i q20 (by omega)⟩
        · refine xcall_intro (ls := [.ref 187]) q_X12_yardRule (by decide) rfl (Nat.le_of_ble_eq_true rfl) rfl ?_
          refine wp_aload_n dX12_yardRule_0 rfl rfl (wp_ldc2 (v := lN 427071729268) dX12_yardRule_1 k11_281 rfl (wp_iv2 dX12_yardRule_4 k11_124 q_X12_isWord (by decide) (xsh hX sh_187) (by decide) (Nat.le_of_ble_eq_true rfl) (m_isWord (d + 3) hX hT hM0 (r := xw_count) (W := 427071729268) ⟨by decide, by decide, by decide, by decide⟩ (by decide)) ?_))
          refine wb_if_eq dX12_yardRule_7 rfl (fun c7 => ?_) (fun c7 => absurd c7 (by rw [n_count]; decide))
          refine wp_aload_n dX12_yardRule_23 rfl rfl (wp_ldc2 (v := lN 25209) dX12_yardRule_24 k11_291 rfl (wp_iv2 dX12_yardRule_27 k11_124 q_X12_isWord (by decide) (xsh hX sh_187) (by decide) (Nat.le_of_ble_eq_true rfl) (m_isWord (d + 3) hX hT hM0 (r := xw_by) (W := 25209) ⟨by decide, by decide, by decide, by decide⟩ (by decide)) ?_))
          refine wb_if_eq dX12_yardRule_30 rfl (fun c30 => ?_) (fun c30 => absurd c30 (by rw [n_by]; decide))
          refine wp_aload_n dX12_yardRule_46 rfl rfl (wp_ldc2 (v := lN 6842740) dX12_yardRule_47 k11_297 rfl (wp_iv2 dX12_yardRule_50 k11_124 q_X12_isWord (by decide) (xsh hX sh_187) (by decide) (Nat.le_of_ble_eq_true rfl) (m_isWord (d + 3) hX hT hM0 (r := xw_hit) (W := 6842740) ⟨by decide, by decide, by decide, by decide⟩ (by decide)) ?_))
          refine wb_if_eq dX12_yardRule_53 rfl (fun c53 => ?_) (fun c53 => absurd c53 (by rw [n_hit]; decide))
          refine wp_aload_n dX12_yardRule_69 rfl rfl (wp_ldc2 (v := lN 1952998766) dX12_yardRule_70 k11_303 rfl (wp_iv2 dX12_yardRule_73 k11_124 q_X12_isWord (by decide) (xsh hX sh_187) (by decide) (Nat.le_of_ble_eq_true rfl) (m_isWord (d + 3) hX hT hM0 (r := xw_then) (W := 1952998766) ⟨by decide, by decide, by decide, by decide⟩ (by decide)) ?_))
          refine wb_if_eq dX12_yardRule_76 rfl (fun c76 => ?_) (fun c76 => absurd c76 (by rw [n_then]; decide))
          refine wp_aload_n dX12_yardRule_94 rfl rfl (wp_ldc2 (v := lN 1953854062) dX12_yardRule_95 k11_311 rfl (wp_iv2 dX12_yardRule_98 k11_124 q_X12_isWord (by decide) (xsh hX sh_187) (by decide) (Nat.le_of_ble_eq_true rfl) (m_isWord (d + 3) hX hT hM0 (r := xw_turn) (W := 1953854062) ⟨by decide, by decide, by decide, by decide⟩ (by decide)) ?_))
          refine wb_if_eq dX12_yardRule_101 rfl (fun c101 => ?_) (fun c101 => absurd c101 (by rw [n_turn]; decide))
          refine wp_aload_n dX12_yardRule_117 rfl rfl (wp_ldc2 (v := lN 6383981) dX12_yardRule_118 k11_317 rfl (wp_iv2 dX12_yardRule_121 k11_124 q_X12_isWord (by decide) (xsh hX sh_187) (by decide) (Nat.le_of_ble_eq_true rfl) (m_isWord (d + 3) hX hT hM0 (r := xw_aim) (W := 6383981) ⟨by decide, by decide, by decide, by decide⟩ (by decide)) ?_))
          refine wb_if_eq dX12_yardRule_124 rfl (fun c124 => ?_) (fun c124 => absurd c124 (by rw [n_aim]; decide))
          refine wp_aload_n dX12_yardRule_141 rfl rfl (wp_ldc2 (v := lN 1818584692) dX12_yardRule_142 k11_321 rfl (wp_iv2 dX12_yardRule_145 k11_124 q_X12_isWord (by decide) (xsh hX sh_187) (by decide) (Nat.le_of_ble_eq_true rfl) (m_isWord (d + 3) hX hT hM0 (r := xw_left) (W := 1818584692) ⟨by decide, by decide, by decide, by decide⟩ (by decide)) ?_))
          refine wb_if_eq dX12_yardRule_148 rfl (fun c148 => absurd c148 (by rw [h]; decide)) (fun c148 => ?_)
          refine wp_aload_n dX12_yardRule_151 rfl rfl (wp_iconst (v := nI 5) dX12_yardRule_152 rfl (wp_iv2 dX12_yardRule_153 k11_128 q_X12_once (by decide) (xsh hX sh_187) (by decide) (Nat.le_of_ble_eq_true rfl) g1 ?_))
          refine wb_if_ne dX12_yardRule_156 rfl (fun c156 => ?_) (fun c156 => absurd c156 (by decide))
          refine wp_aload_n dX12_yardRule_161 rfl rfl (gv11_34 dX12_yardRule_162 (xsh X1 sh_187) h42 (wp_iconst (v := nI 2) dX12_yardRule_165 rfl ?_))
          refine wn_icmp_eq dX12_yardRule_166 rfl (by omega) (by omega) (fun c166 => ?_) (fun c166 => absurd c166 (by omega))
          refine wp_aload_n dX12_yardRule_174 rfl rfl (gv11_48 dX12_yardRule_175 (xsh X1 sh_187) hnum ?_)
          refine wn_if_ne dX12_yardRule_178 rfl (by omega) (fun c178 => ?_) (fun c178 => absurd c178 (by omega))
          exact wp_aload_n dX12_yardRule_191 rfl rfl (g11_260 dX12_yardRule_192 (xsh X1 sh_187) (xrr X1 r187_46) (wp_iconst (v := nI 5) dX12_yardRule_195 rfl (wp_aload_n dX12_yardRule_196 rfl rfl (gv11_48 dX12_yardRule_197 (xsh X1 sh_187) hnum (wn_iastore dX12_yardRule_200 (xsh X1 sh_209) rfl (by omega) (by decide) (wp_aload_n dX12_yardRule_201 rfl rfl (wp_iv1 dX12_yardRule_202 k11_65 q_X12_next (by decide) (xsh X1 sh_187) (by decide) (Nat.le_of_ble_eq_true rfl) g3 (wp_aload_n dX12_yardRule_205 rfl rfl (wp_iv1 dX12_yardRule_206 k11_131 q_X12_semi (by decide) (xsh X3 sh_187) (by decide) (Nat.le_of_ble_eq_true rfl) g4 (wb_ret dX12_yardRule_209 rfl rfl ⟨rfl, rfl⟩))))))))))
        · cases he
          exact ⟨fun w => ⟨rfl, f4.i q9 (by omega), t4, V3.fr f4 (fun i k h => by omega)⟩, fun w => absurd h3 w⟩
      · have g4 := m_semi_no2 (d + 1) X3 T3 t3 h3
        obtain ⟨w1, w2, w3, w4⟩ := xW_f (e1 := (xfh t n (xta t n (xta t n p))).1) (e2 := (xfh t n (xta t n (xta t n p))).2) F3
        refine ⟨false, xSI (xSI S3 187 9 (nI (xfh t n (xta t n (xta t n p))).1)) 187 10 (nI (xfh t n (xta t n (xta t n p))).2), ?_, w1, ⟨fun e he => (by cases he), fun p' v' he => ?_⟩, w4 187 20 _ q20 (by decide)⟩
        rotate_left
        · cases he
          exact ⟨fun w => absurd w h3, fun _ => ⟨rfl, w2, w3⟩⟩
        · refine xcall_intro (ls := [.ref 187]) q_X12_yardRule (by decide) rfl (Nat.le_of_ble_eq_true rfl) rfl ?_
          refine wp_aload_n dX12_yardRule_0 rfl rfl (wp_ldc2 (v := lN 427071729268) dX12_yardRule_1 k11_281 rfl (wp_iv2 dX12_yardRule_4 k11_124 q_X12_isWord (by decide) (xsh hX sh_187) (by decide) (Nat.le_of_ble_eq_true rfl) (m_isWord (d + 3) hX hT hM0 (r := xw_count) (W := 427071729268) ⟨by decide, by decide, by decide, by decide⟩ (by decide)) ?_))
          refine wb_if_eq dX12_yardRule_7 rfl (fun c7 => ?_) (fun c7 => absurd c7 (by rw [n_count]; decide))
          refine wp_aload_n dX12_yardRule_23 rfl rfl (wp_ldc2 (v := lN 25209) dX12_yardRule_24 k11_291 rfl (wp_iv2 dX12_yardRule_27 k11_124 q_X12_isWord (by decide) (xsh hX sh_187) (by decide) (Nat.le_of_ble_eq_true rfl) (m_isWord (d + 3) hX hT hM0 (r := xw_by) (W := 25209) ⟨by decide, by decide, by decide, by decide⟩ (by decide)) ?_))
          refine wb_if_eq dX12_yardRule_30 rfl (fun c30 => ?_) (fun c30 => absurd c30 (by rw [n_by]; decide))
          refine wp_aload_n dX12_yardRule_46 rfl rfl (wp_ldc2 (v := lN 6842740) dX12_yardRule_47 k11_297 rfl (wp_iv2 dX12_yardRule_50 k11_124 q_X12_isWord (by decide) (xsh hX sh_187) (by decide) (Nat.le_of_ble_eq_true rfl) (m_isWord (d + 3) hX hT hM0 (r := xw_hit) (W := 6842740) ⟨by decide, by decide, by decide, by decide⟩ (by decide)) ?_))
          refine wb_if_eq dX12_yardRule_53 rfl (fun c53 => ?_) (fun c53 => absurd c53 (by rw [n_hit]; decide))
          refine wp_aload_n dX12_yardRule_69 rfl rfl (wp_ldc2 (v := lN 1952998766) dX12_yardRule_70 k11_303 rfl (wp_iv2 dX12_yardRule_73 k11_124 q_X12_isWord (by decide) (xsh hX sh_187) (by decide) (Nat.le_of_ble_eq_true rfl) (m_isWord (d + 3) hX hT hM0 (r := xw_then) (W := 1952998766) ⟨by decide, by decide, by decide, by decide⟩ (by decide)) ?_))
          refine wb_if_eq dX12_yardRule_76 rfl (fun c76 => ?_) (fun c76 => absurd c76 (by rw [n_then]; decide))
          refine wp_aload_n dX12_yardRule_94 rfl rfl (wp_ldc2 (v := lN 1953854062) dX12_yardRule_95 k11_311 rfl (wp_iv2 dX12_yardRule_98 k11_124 q_X12_isWord (by decide) (xsh hX sh_187) (by decide) (Nat.le_of_ble_eq_true rfl) (m_isWord (d + 3) hX hT hM0 (r := xw_turn) (W := 1953854062) ⟨by decide, by decide, by decide, by decide⟩ (by decide)) ?_))
          refine wb_if_eq dX12_yardRule_101 rfl (fun c101 => ?_) (fun c101 => absurd c101 (by rw [n_turn]; decide))
          refine wp_aload_n dX12_yardRule_117 rfl rfl (wp_ldc2 (v := lN 6383981) dX12_yardRule_118 k11_317 rfl (wp_iv2 dX12_yardRule_121 k11_124 q_X12_isWord (by decide) (xsh hX sh_187) (by decide) (Nat.le_of_ble_eq_true rfl) (m_isWord (d + 3) hX hT hM0 (r := xw_aim) (W := 6383981) ⟨by decide, by decide, by decide, by decide⟩ (by decide)) ?_))
          refine wb_if_eq dX12_yardRule_124 rfl (fun c124 => ?_) (fun c124 => absurd c124 (by rw [n_aim]; decide))
          refine wp_aload_n dX12_yardRule_141 rfl rfl (wp_ldc2 (v := lN 1818584692) dX12_yardRule_142 k11_321 rfl (wp_iv2 dX12_yardRule_145 k11_124 q_X12_isWord (by decide) (xsh hX sh_187) (by decide) (Nat.le_of_ble_eq_true rfl) (m_isWord (d + 3) hX hT hM0 (r := xw_left) (W := 1818584692) ⟨by decide, by decide, by decide, by decide⟩ (by decide)) ?_))
          refine wb_if_eq dX12_yardRule_148 rfl (fun c148 => absurd c148 (by rw [h]; decide)) (fun c148 => ?_)
          refine wp_aload_n dX12_yardRule_151 rfl rfl (wp_iconst (v := nI 5) dX12_yardRule_152 rfl (wp_iv2 dX12_yardRule_153 k11_128 q_X12_once (by decide) (xsh hX sh_187) (by decide) (Nat.le_of_ble_eq_true rfl) g1 ?_))
          refine wb_if_ne dX12_yardRule_156 rfl (fun c156 => ?_) (fun c156 => absurd c156 (by decide))
          refine wp_aload_n dX12_yardRule_161 rfl rfl (gv11_34 dX12_yardRule_162 (xsh X1 sh_187) h42 (wp_iconst (v := nI 2) dX12_yardRule_165 rfl ?_))
          refine wn_icmp_eq dX12_yardRule_166 rfl (by omega) (by omega) (fun c166 => ?_) (fun c166 => absurd c166 (by omega))
          refine wp_aload_n dX12_yardRule_174 rfl rfl (gv11_48 dX12_yardRule_175 (xsh X1 sh_187) hnum ?_)
          refine wn_if_ne dX12_yardRule_178 rfl (by omega) (fun c178 => ?_) (fun c178 => absurd c178 (by omega))
          exact wp_aload_n dX12_yardRule_191 rfl rfl (g11_260 dX12_yardRule_192 (xsh X1 sh_187) (xrr X1 r187_46) (wp_iconst (v := nI 5) dX12_yardRule_195 rfl (wp_aload_n dX12_yardRule_196 rfl rfl (gv11_48 dX12_yardRule_197 (xsh X1 sh_187) hnum (wn_iastore dX12_yardRule_200 (xsh X1 sh_209) rfl (by omega) (by decide) (wp_aload_n dX12_yardRule_201 rfl rfl (wp_iv1 dX12_yardRule_202 k11_65 q_X12_next (by decide) (xsh X1 sh_187) (by decide) (Nat.le_of_ble_eq_true rfl) g3 (wp_aload_n dX12_yardRule_205 rfl rfl (wp_iv1 dX12_yardRule_206 k11_131 q_X12_semi (by decide) (xsh X3 sh_187) (by decide) (Nat.le_of_ble_eq_true rfl) g4 (wb_ret dX12_yardRule_209 rfl rfl ⟨rfl, rfl⟩))))))))))
  · have g4 := m_cant2 (d + 2) X1 T1 t1'
    obtain ⟨w1, w2, w3, w4⟩ := xW_f (e1 := (xfh t n (xta t n p)).1) (e2 := (xfh t n (xta t n p)).2) F1
    refine ⟨false, xSI (xSI S1 187 9 (nI (xfh t n (xta t n p)).1)) 187 10 (nI (xfh t n (xta t n p)).2), ?_, w1, ?_, w4 187 20 _ o1 (by decide)⟩
    rotate_left
    · unfold xyrule
      rw [if_pos rfl, if_neg h1]
      exact ⟨fun e he => (by cases he; exact ⟨rfl, w2, w3⟩), fun p' v' he => (by cases he)⟩
    · refine xcall_intro (ls := [.ref 187]) q_X12_yardRule (by decide) rfl (Nat.le_of_ble_eq_true rfl) rfl ?_
      refine wp_aload_n dX12_yardRule_0 rfl rfl (wp_ldc2 (v := lN 427071729268) dX12_yardRule_1 k11_281 rfl (wp_iv2 dX12_yardRule_4 k11_124 q_X12_isWord (by decide) (xsh hX sh_187) (by decide) (Nat.le_of_ble_eq_true rfl) (m_isWord (d + 3) hX hT hM0 (r := xw_count) (W := 427071729268) ⟨by decide, by decide, by decide, by decide⟩ (by decide)) ?_))
      refine wb_if_eq dX12_yardRule_7 rfl (fun c7 => ?_) (fun c7 => absurd c7 (by rw [n_count]; decide))
      refine wp_aload_n dX12_yardRule_23 rfl rfl (wp_ldc2 (v := lN 25209) dX12_yardRule_24 k11_291 rfl (wp_iv2 dX12_yardRule_27 k11_124 q_X12_isWord (by decide) (xsh hX sh_187) (by decide) (Nat.le_of_ble_eq_true rfl) (m_isWord (d + 3) hX hT hM0 (r := xw_by) (W := 25209) ⟨by decide, by decide, by decide, by decide⟩ (by decide)) ?_))
      refine wb_if_eq dX12_yardRule_30 rfl (fun c30 => ?_) (fun c30 => absurd c30 (by rw [n_by]; decide))
      refine wp_aload_n dX12_yardRule_46 rfl rfl (wp_ldc2 (v := lN 6842740) dX12_yardRule_47 k11_297 rfl (wp_iv2 dX12_yardRule_50 k11_124 q_X12_isWord (by decide) (xsh hX sh_187) (by decide) (Nat.le_of_ble_eq_true rfl) (m_isWord (d + 3) hX hT hM0 (r := xw_hit) (W := 6842740) ⟨by decide, by decide, by decide, by decide⟩ (by decide)) ?_))
      refine wb_if_eq dX12_yardRule_53 rfl (fun c53 => ?_) (fun c53 => absurd c53 (by rw [n_hit]; decide))
      refine wp_aload_n dX12_yardRule_69 rfl rfl (wp_ldc2 (v := lN 1952998766) dX12_yardRule_70 k11_303 rfl (wp_iv2 dX12_yardRule_73 k11_124 q_X12_isWord (by decide) (xsh hX sh_187) (by decide) (Nat.le_of_ble_eq_true rfl) (m_isWord (d + 3) hX hT hM0 (r := xw_then) (W := 1952998766) ⟨by decide, by decide, by decide, by decide⟩ (by decide)) ?_))
      refine wb_if_eq dX12_yardRule_76 rfl (fun c76 => ?_) (fun c76 => absurd c76 (by rw [n_then]; decide))
      refine wp_aload_n dX12_yardRule_94 rfl rfl (wp_ldc2 (v := lN 1953854062) dX12_yardRule_95 k11_311 rfl (wp_iv2 dX12_yardRule_98 k11_124 q_X12_isWord (by decide) (xsh hX sh_187) (by decide) (Nat.le_of_ble_eq_true rfl) (m_isWord (d + 3) hX hT hM0 (r := xw_turn) (W := 1953854062) ⟨by decide, by decide, by decide, by decide⟩ (by decide)) ?_))
      refine wb_if_eq dX12_yardRule_101 rfl (fun c101 => ?_) (fun c101 => absurd c101 (by rw [n_turn]; decide))
      refine wp_aload_n dX12_yardRule_117 rfl rfl (wp_ldc2 (v := lN 6383981) dX12_yardRule_118 k11_317 rfl (wp_iv2 dX12_yardRule_121 k11_124 q_X12_isWord (by decide) (xsh hX sh_187) (by decide) (Nat.le_of_ble_eq_true rfl) (m_isWord (d + 3) hX hT hM0 (r := xw_aim) (W := 6383981) ⟨by decide, by decide, by decide, by decide⟩ (by decide)) ?_))
      refine wb_if_eq dX12_yardRule_124 rfl (fun c124 => ?_) (fun c124 => absurd c124 (by rw [n_aim]; decide))
      refine wp_aload_n dX12_yardRule_141 rfl rfl (wp_ldc2 (v := lN 1818584692) dX12_yardRule_142 k11_321 rfl (wp_iv2 dX12_yardRule_145 k11_124 q_X12_isWord (by decide) (xsh hX sh_187) (by decide) (Nat.le_of_ble_eq_true rfl) (m_isWord (d + 3) hX hT hM0 (r := xw_left) (W := 1818584692) ⟨by decide, by decide, by decide, by decide⟩ (by decide)) ?_))
      refine wb_if_eq dX12_yardRule_148 rfl (fun c148 => absurd c148 (by rw [h]; decide)) (fun c148 => ?_)
      refine wp_aload_n dX12_yardRule_151 rfl rfl (wp_iconst (v := nI 5) dX12_yardRule_152 rfl (wp_iv2 dX12_yardRule_153 k11_128 q_X12_once (by decide) (xsh hX sh_187) (by decide) (Nat.le_of_ble_eq_true rfl) g1 ?_))
      refine wb_if_ne dX12_yardRule_156 rfl (fun c156 => ?_) (fun c156 => absurd c156 (by decide))
      refine wp_aload_n dX12_yardRule_161 rfl rfl (gv11_34 dX12_yardRule_162 (xsh X1 sh_187) a5 (wp_iconst (v := nI 2) dX12_yardRule_165 rfl ?_))
      refine wn_icmp_eq dX12_yardRule_166 rfl (by omega) (by omega) (fun c166 => absurd c166 (by omega)) (fun c166 => ?_)
      exact wp_aload_n dX12_yardRule_169 rfl rfl (wp_iv1 dX12_yardRule_170 k11_61 q_X12_cant (by decide) (xsh X1 sh_187) (by decide) (Nat.le_of_ble_eq_true rfl) g4 (wb_ret dX12_yardRule_173 rfl rfl ⟨rfl, rfl⟩))
def xFR (i k : Nat) : Prop := (i = 187 ∧ ((4 ≤ k ∧ k ≤ 10) ∨ k = 50)) ∨ i = 211
theorem xFN_R (i k : Nat) (h : i = 187 ∧ (k = 4 ∨ k = 5 ∨ k = 6 ∨ k = 7 ∨ k = 8)) : xFR i k := by unfold xFR; omega
theorem xFR_Y (i k : Nat) (h : xFR i k) : xFY i k := by unfold xFR at h; unfold xFY; omega
theorem xW_r {S1 S : xS} {e1 e2 : Nat} (h1 : xFl xFR S S1) : xFl xFR S (xSI (xSI S1 187 9 (nI e1)) 187 10 (nI e2)) ∧ (xSI (xSI S1 187 9 (nI e1)) 187 10 (nI e2)).2.1 187 9 = nI e1 ∧ (xSI (xSI S1 187 9 (nI e1)) 187 10 (nI e2)).2.1 187 10 = nI e2 ∧ ∀ a k v, S1.2.1 a k = v → (a ≠ 187 ∨ (k ≠ 9 ∧ k ≠ 10)) → (xSI (xSI S1 187 9 (nI e1)) 187 10 (nI e2)).2.1 a k = v := by
  refine ⟨(h1.SI (Or.inl ⟨rfl, by omega⟩)).SI (Or.inl ⟨rfl, by omega⟩), xi (xI_same _ _ _ _) (Or.inr (by decide)), xI_same _ _ _ _, fun a k v h hn => ?_⟩
  exact xi (xi h (by omega)) (by omega)
def xMD (n : Nat) (t : Nat → Nat) (S S' : xS) (b : Bool) (X : Except (Nat × Nat) (Nat × List Nat)) : Prop :=
  (∀ e, X = .error e → b = false ∧ S'.2.1 187 9 = nI e.1 ∧ S'.2.1 187 10 = nI e.2) ∧
  (∀ p' l', X = .ok (p', l') → S'.2.1 187 50 = nI l'.length ∧ (∀ i, i < l'.length → S'.2.1 211 i = nI (l'.getD i 0)) ∧ (xtk t n p' = 3 → b = true ∧ S'.2.1 187 9 = S.2.1 187 9 ∧ xTM S' n t (xta t n p')) ∧ (xtk t n p' ≠ 3 → b = false ∧ S'.2.1 187 9 = nI (xfh t n p').1 ∧ S'.2.1 187 10 = nI (xfh t n p').2))
theorem mrh_loop {n d : Nat} {t : Nat → Nat} : ∀ (j p : Nat) (l : List Nat) (S : xS), l.length + j = 4 → XC S → xTxM S n t → xTM S n t p → S.2.1 187 50 = nI l.length → (∀ i, i < l.length → S.2.1 211 i = nI (l.getD i 0)) → (l ≠ [] ∨ xtk t n p = 2) → Wp false (d + 4) 11 cX12_yardRule (some .boolean) false 254 [.ref 187] [] S (fun r S' => ∃ b, r = some (.int (xB b)) ∧ xFl xFR S S' ∧ xMD n t S S' b (xdigs t n (j + 1) p l)) := by
  intro j
  induction j with
  | zero =>
    intro p l S hj hX hT hM h50 h11 hz
    have hM0 := hM
    obtain ⟨hp, h6, h4, h5, hr⟩ := hM
    have b4 := xtk_b t n p
    have hab := xta_b t hp
    have hle := hT.2.1
    have rf : xFl xFR S S := xFl.rf S
    by_cases h1 : xtk t n p = 2
    · have hx := xtk2 h1
      have hnum := (hr hx.1).2.1
      have hlt := (hT.2.2 (xts t n p) (by omega)).1
      have h42 : S.2.1 187 5 = nI 2 := h5.trans (by rw [h1])
      have EX : xdigs t n (0 + 1) p l = .error (3, xts t n p) := by
        unfold xdigs
        rw [if_pos h1, if_pos (by omega)]
      rw [EX]
      have q1 : xMD n t S (xSI (xSI S 187 9 (nI 3)) 187 10 (nI (xts t n p))) false (.error (3, xts t n p)) := ⟨fun e he => (by cases he; exact ⟨rfl, xi (xI_same _ _ _ _) (Or.inr (by decide)), xI_same _ _ _ _⟩), fun p' l' he => (by cases he)⟩
      refine wp_aload_n dX12_yardRule_254 rfl rfl (gv11_34 dX12_yardRule_255 (xsh hX sh_187) h42 (wp_iconst (v := nI 2) dX12_yardRule_258 rfl ?_))
      refine wn_icmp_ne dX12_yardRule_259 rfl (by omega) (by omega) (fun c259 => absurd c259 (by omega)) (fun c259 => ?_)
      refine wp_aload_n dX12_yardRule_262 rfl rfl (gv11_263 dX12_yardRule_263 (xsh hX sh_187) h50 (wp_iconst (v := nI 4) dX12_yardRule_266 rfl ?_))
      refine wn_icmp_eq dX12_yardRule_267 rfl (by omega) (by omega) (fun c267 => ?_) (fun c267 => absurd c267 (by omega))
      exact wp_aload_n dX12_yardRule_278 rfl rfl (wp_iconst (v := nI 3) dX12_yardRule_279 rfl (wp_aload_n dX12_yardRule_280 rfl rfl (gv11_28 dX12_yardRule_281 (xsh hX sh_187) h6 (wp_iv3 dX12_yardRule_284 k11_57 q_X12_wrong (by decide) (xsh hX sh_187) (by decide) (Nat.le_of_ble_eq_true rfl) (m_wrong 3 _ (d + 3) hX) (wb_ret dX12_yardRule_287 rfl rfl ⟨false, rfl, (rf.SI (Or.inl ⟨rfl, by omega⟩)).SI (Or.inl ⟨rfl, by omega⟩), q1⟩)))))
    · have hl : l ≠ [] := hz.resolve_right h1
      have EX : xdigs t n (0 + 1) p l = .ok (p, l) := by
        unfold xdigs
        rw [if_neg h1, if_neg hl]
      rw [EX]
      by_cases h3 : xtk t n p = 3
      · obtain ⟨S4, g4, f4, t4⟩ := m_semi (d + 1) hX hT hM0 h3
        have q1 : xMD n t S S4 true (.ok (p, l)) := ⟨fun e he => (by cases he), fun p' l' he => (by cases he; exact ⟨f4.i h50 (by omega), fun i hi => f4.i (h11 i hi) (by omega), fun _ => ⟨rfl, f4.2.2 _ _ (by omega), t4⟩, fun w => absurd h3 w⟩)⟩
        refine wp_aload_n dX12_yardRule_254 rfl rfl (gv11_34 dX12_yardRule_255 (xsh hX sh_187) h5 (wp_iconst (v := nI 2) dX12_yardRule_258 rfl ?_))
        refine wn_icmp_ne dX12_yardRule_259 rfl (by omega) (by omega) (fun c259 => ?_) (fun c259 => absurd c259 (by omega))
        exact wp_aload_n dX12_yardRule_318 rfl rfl (wp_iv1 dX12_yardRule_319 k11_131 q_X12_semi (by decide) (xsh hX sh_187) (by decide) (Nat.le_of_ble_eq_true rfl) g4 (wb_ret dX12_yardRule_322 rfl rfl ⟨true, rfl, f4.mono xFN_R, q1⟩))
      · have g4 := m_semi_no2 (d + 1) hX hT hM0 h3
        obtain ⟨w1, w2, w3, w4⟩ := xW_r (e1 := (xfh t n p).1) (e2 := (xfh t n p).2) rf
        have q1 : xMD n t S (xSI (xSI S 187 9 (nI (xfh t n p).1)) 187 10 (nI (xfh t n p).2)) false (.ok (p, l)) := ⟨fun e he => (by cases he), fun p' l' he => (by cases he; exact ⟨w4 187 50 _ h50 (by decide), fun i hi => w4 211 i _ (h11 i hi) (Or.inl (by decide)), fun w => absurd w h3, fun _ => ⟨rfl, w2, w3⟩⟩)⟩
        refine wp_aload_n dX12_yardRule_254 rfl rfl (gv11_34 dX12_yardRule_255 (xsh hX sh_187) h5 (wp_iconst (v := nI 2) dX12_yardRule_258 rfl ?_))
        refine wn_icmp_ne dX12_yardRule_259 rfl (by omega) (by omega) (fun c259 => ?_) (fun c259 => absurd c259 (by omega))
        exact wp_aload_n dX12_yardRule_318 rfl rfl (wp_iv1 dX12_yardRule_319 k11_131 q_X12_semi (by decide) (xsh hX sh_187) (by decide) (Nat.le_of_ble_eq_true rfl) g4 (wb_ret dX12_yardRule_322 rfl rfl ⟨false, rfl, w1, q1⟩))
  | succ j ih =>
    intro p l S hj hX hT hM h50 h11 hz
    have hM0 := hM
    obtain ⟨hp, h6, h4, h5, hr⟩ := hM
    have b4 := xtk_b t n p
    have hab := xta_b t hp
    have hle := hT.2.1
    have rf : xFl xFR S S := xFl.rf S
    by_cases h1 : xtk t n p = 2
    · have hx := xtk2 h1
      have hnum := (hr hx.1).2.1
      have hlt := (hT.2.2 (xts t n p) (by omega)).1
      have h42 : S.2.1 187 5 = nI 2 := h5.trans (by rw [h1])
      rcases Nat.lt_or_ge 5 (t (xts t n p) - 48) with hd | hd
      · have EX : xdigs t n ((j + 1) + 1) p l = .error (3, xts t n p) := by
          unfold xdigs
          rw [if_pos h1, if_pos (by omega)]
        rw [EX]
        have q1 : xMD n t S (xSI (xSI S 187 9 (nI 3)) 187 10 (nI (xts t n p))) false (.error (3, xts t n p)) := ⟨fun e he => (by cases he; exact ⟨rfl, xi (xI_same _ _ _ _) (Or.inr (by decide)), xI_same _ _ _ _⟩), fun p' l' he => (by cases he)⟩
        refine wp_aload_n dX12_yardRule_254 rfl rfl (gv11_34 dX12_yardRule_255 (xsh hX sh_187) h42 (wp_iconst (v := nI 2) dX12_yardRule_258 rfl ?_))
        refine wn_icmp_ne dX12_yardRule_259 rfl (by omega) (by omega) (fun c259 => absurd c259 (by omega)) (fun c259 => ?_)
        refine wp_aload_n dX12_yardRule_262 rfl rfl (gv11_263 dX12_yardRule_263 (xsh hX sh_187) h50 (wp_iconst (v := nI 4) dX12_yardRule_266 rfl ?_))
        refine wn_icmp_eq dX12_yardRule_267 rfl (by omega) (by omega) (fun c267 => absurd c267 (by omega)) (fun c267 => ?_)
        refine wp_aload_n dX12_yardRule_270 rfl rfl (gv11_48 dX12_yardRule_271 (xsh hX sh_187) hnum (wp_iconst (v := nI 5) dX12_yardRule_274 rfl ?_))
        refine wn_icmp_le dX12_yardRule_275 rfl (by omega) (by omega) (fun c275 => absurd c275 (by omega)) (fun c275 => ?_)
        exact wp_aload_n dX12_yardRule_278 rfl rfl (wp_iconst (v := nI 3) dX12_yardRule_279 rfl (wp_aload_n dX12_yardRule_280 rfl rfl (gv11_28 dX12_yardRule_281 (xsh hX sh_187) h6 (wp_iv3 dX12_yardRule_284 k11_57 q_X12_wrong (by decide) (xsh hX sh_187) (by decide) (Nat.le_of_ble_eq_true rfl) (m_wrong 3 _ (d + 3) hX) (wb_ret dX12_yardRule_287 rfl rfl ⟨false, rfl, (rf.SI (Or.inl ⟨rfl, by omega⟩)).SI (Or.inl ⟨rfl, by omega⟩), q1⟩)))))
      · have EX : xdigs t n (j + 1 + 1) p l = xdigs t n (j + 1) (xta t n p) (l ++ [t (xts t n p) - 48]) := by
          rw [xdigs, if_pos h1, if_neg (by omega)]
        rw [EX]
        have hll : (l ++ [t (xts t n p) - 48]).length = l.length + 1 := by rw [List.length_append]; rfl
        have F2 : xFl (fun i k => (i = 211 ∧ k = l.length) ∨ (i = 187 ∧ k = 50)) S (xSI (xSI S 211 l.length (nI (t (xts t n p) - 48))) 187 50 (nI (l.length + 1))) := ((xFl.rf S).SI (Or.inl ⟨rfl, rfl⟩)).SI (Or.inr ⟨rfl, rfl⟩)
        have X2 := F2.XC hX
        have T2 := hT.fr F2 (by omega) (fun k => by omega)
        obtain ⟨S3, g3, f3, t3⟩ := m_next (d + 2) X2 T2 (F2.i h4 (by omega)) hab.2.1
        have X3 := f3.XC X2
        have T3 := T2.fr f3 (by omega) (fun k => by omega)
        have F3 : xFl xFR S S3 := (F2.mono (fun i k h => by unfold xFR; omega)).tt (f3.mono xFN_R)
        have q50 : S3.2.1 187 50 = nI (l ++ [t (xts t n p) - 48]).length := by rw [hll]; exact f3.i (xI_same _ _ _ _) (by omega)
        have e9 : S3.2.1 187 9 = S.2.1 187 9 := f3.i (F2.i rfl (by omega)) (by omega)
        have q11 : ∀ i, i < (l ++ [t (xts t n p) - 48]).length → S3.2.1 211 i = nI ((l ++ [t (xts t n p) - 48]).getD i 0) := by
          intro i hi
          rw [xgetD_app i hi]
          split
          · rename_i q; exact f3.i (xi (xi (h11 i q) (Or.inr (by omega))) (Or.inl (by decide))) (by omega)
          · rw [show i = l.length by omega]; exact f3.i (xi (xI_same _ _ _ _) (Or.inl (by decide))) (by omega)
        refine wp_aload_n dX12_yardRule_254 rfl rfl (gv11_34 dX12_yardRule_255 (xsh hX sh_187) h42 (wp_iconst (v := nI 2) dX12_yardRule_258 rfl ?_))
        refine wn_icmp_ne dX12_yardRule_259 rfl (by omega) (by omega) (fun c259 => absurd c259 (by omega)) (fun c259 => ?_)
        refine wp_aload_n dX12_yardRule_262 rfl rfl (gv11_263 dX12_yardRule_263 (xsh hX sh_187) h50 (wp_iconst (v := nI 4) dX12_yardRule_266 rfl ?_))
        refine wn_icmp_eq dX12_yardRule_267 rfl (by omega) (by omega) (fun c267 => absurd c267 (by omega)) (fun c267 => ?_)
        refine wp_aload_n dX12_yardRule_270 rfl rfl (gv11_48 dX12_yardRule_271 (xsh hX sh_187) hnum (wp_iconst (v := nI 5) dX12_yardRule_274 rfl ?_))
        refine wn_icmp_le dX12_yardRule_275 rfl (by omega) (by omega) (fun c275 => ?_) (fun c275 => absurd c275 (by omega))
        refine wp_aload_n dX12_yardRule_288 rfl rfl (g11_266 dX12_yardRule_289 (xsh hX sh_187) (xrr hX r187_48) (wp_aload_n dX12_yardRule_292 rfl rfl (gv11_263 dX12_yardRule_293 (xsh hX sh_187) h50 (wp_aload_n dX12_yardRule_296 rfl rfl (gv11_48 dX12_yardRule_297 (xsh hX sh_187) hnum (wn_iastore dX12_yardRule_300 (xsh hX sh_211) rfl (by omega) (by decide) (wp_aload_n dX12_yardRule_301 rfl rfl (wp_dup dX12_yardRule_302 rfl (gv11_263 dX12_yardRule_303 (xsh hX sh_187) (xi h50 (Or.inl (by decide))) (wp_iconst (v := nI 1) dX12_yardRule_306 rfl (wv_iadd dX12_yardRule_307 (nI_add _ _) (p11_263 dX12_yardRule_308 (xsh hX sh_187) (wp_aload_n dX12_yardRule_311 rfl rfl (wp_iv1 dX12_yardRule_312 k11_65 q_X12_next (by decide) (xsh hX sh_187) (by decide) (Nat.le_of_ble_eq_true rfl) g3 (wp_goto dX12_yardRule_315 rfl ?_)))))))))))))))
        refine (ih (xta t n p) (l ++ [t (xts t n p) - 48]) S3 (by omega) X3 T3 t3 q50 q11 (Or.inl (fun e => by rw [e] at hll; cases hll))).mono ?_
        rintro r S' ⟨b, z1, z2, z3, z4⟩
        exact ⟨b, z1, F3.tt z2, z3, fun p' l' he => (by obtain ⟨y1, y2, y3, y4⟩ := z4 p' l' he; exact ⟨y1, y2, fun w => ⟨(y3 w).1, (y3 w).2.1.trans e9, (y3 w).2.2⟩, y4⟩)⟩
    · have hl : l ≠ [] := hz.resolve_right h1
      have EX : xdigs t n ((j + 1) + 1) p l = .ok (p, l) := by
        unfold xdigs
        rw [if_neg h1, if_neg hl]
      rw [EX]
      by_cases h3 : xtk t n p = 3
      · obtain ⟨S4, g4, f4, t4⟩ := m_semi (d + 1) hX hT hM0 h3
        have q1 : xMD n t S S4 true (.ok (p, l)) := ⟨fun e he => (by cases he), fun p' l' he => (by cases he; exact ⟨f4.i h50 (by omega), fun i hi => f4.i (h11 i hi) (by omega), fun _ => ⟨rfl, f4.2.2 _ _ (by omega), t4⟩, fun w => absurd h3 w⟩)⟩
        refine wp_aload_n dX12_yardRule_254 rfl rfl (gv11_34 dX12_yardRule_255 (xsh hX sh_187) h5 (wp_iconst (v := nI 2) dX12_yardRule_258 rfl ?_))
        refine wn_icmp_ne dX12_yardRule_259 rfl (by omega) (by omega) (fun c259 => ?_) (fun c259 => absurd c259 (by omega))
        exact wp_aload_n dX12_yardRule_318 rfl rfl (wp_iv1 dX12_yardRule_319 k11_131 q_X12_semi (by decide) (xsh hX sh_187) (by decide) (Nat.le_of_ble_eq_true rfl) g4 (wb_ret dX12_yardRule_322 rfl rfl ⟨true, rfl, f4.mono xFN_R, q1⟩))
      · have g4 := m_semi_no2 (d + 1) hX hT hM0 h3
        obtain ⟨w1, w2, w3, w4⟩ := xW_r (e1 := (xfh t n p).1) (e2 := (xfh t n p).2) rf
        have q1 : xMD n t S (xSI (xSI S 187 9 (nI (xfh t n p).1)) 187 10 (nI (xfh t n p).2)) false (.ok (p, l)) := ⟨fun e he => (by cases he), fun p' l' he => (by cases he; exact ⟨w4 187 50 _ h50 (by decide), fun i hi => w4 211 i _ (h11 i hi) (Or.inl (by decide)), fun w => absurd w h3, fun _ => ⟨rfl, w2, w3⟩⟩)⟩
        refine wp_aload_n dX12_yardRule_254 rfl rfl (gv11_34 dX12_yardRule_255 (xsh hX sh_187) h5 (wp_iconst (v := nI 2) dX12_yardRule_258 rfl ?_))
        refine wn_icmp_ne dX12_yardRule_259 rfl (by omega) (by omega) (fun c259 => ?_) (fun c259 => absurd c259 (by omega))
        exact wp_aload_n dX12_yardRule_318 rfl rfl (wp_iv1 dX12_yardRule_319 k11_131 q_X12_semi (by decide) (xsh hX sh_187) (by decide) (Nat.le_of_ble_eq_true rfl) g4 (wb_ret dX12_yardRule_322 rfl rfl ⟨false, rfl, w1, q1⟩))
theorem m_yr6 {n p sm : Nat} {t : Nat → Nat} (d : Nat) {v : xYd} {S : xS} (hX : XC S) (hT : xTxM S n t) (hM : xTM S n t p) (hs : S.2.1 187 20 = nI sm) (hs2 : sm < 2 ^ 31) (hV : xYdN S v) (h : xiw xw_rhymes n t p = true) (hb : sm.testBit 7 = false) : ∃ b S', xcall false (d + 4) j_X12_yardRule [.ref 187] S (some (.int (xB b))) S' ∧ xFl xFY S S' ∧ xMO xYdN n t S S' b (xyrule t n 6 (xta t n p) v) ∧ S'.2.1 187 20 = nI (sm ||| 2 ^ 7) := by
  have hM0 := hM
  obtain ⟨hp, h6, h4, h5, hr⟩ := hM
  have b4 := xtk_b t n p
  have hab := xta_b t hp
  have hle := hT.2.1
  have n_count : xiw xw_count n t p = false := xiw_uni h (by decide)
  have n_by : xiw xw_by n t p = false := xiw_uni h (by decide)
  have n_hit : xiw xw_hit n t p = false := xiw_uni h (by decide)
  have n_then : xiw xw_then n t p = false := xiw_uni h (by decide)
  have n_turn : xiw xw_turn n t p = false := xiw_uni h (by decide)
  have n_aim : xiw xw_aim n t p = false := xiw_uni h (by decide)
  have n_left : xiw xw_left n t p = false := xiw_uni h (by decide)
  obtain ⟨S1, g1, f1, t1, o1⟩ := m_once (d + 1) hX hT hM0 hs hs2 (r := 7) (by decide) hb
  have X1 := f1.XC hX
  have T1 := hT.fr f1 (by omega) (fun k => by omega)
  have F1 : xFl xFY S S1 := f1.mono xFO_Y
  have V1 := hV.fr f1 (fun i k h => by omega)
  have t1' := t1
  obtain ⟨p1, a6, a4, a5, ar⟩ := t1
  have hab1 := xta_b t p1
  have b41 := xtk_b t n (xta t n p)
  have e9 : S1.2.1 187 9 = S.2.1 187 9 := f1.2.2 187 9 (by omega)
  have ER : xyrule t n 6 (xta t n p) v = match xdigs t n 5 (xta t n p) [] with
    | .error e => .error e
    | .ok q => .ok (q.1, (v.1, q.2)) := by
    unfold xyrule
    rw [if_neg (by decide), if_pos rfl]
    all_goals rfl
  rw [ER]
  have F0 : xFl (fun i k => i = 187 ∧ k = 50) S1 (xSI S1 187 50 (nI 0)) := (xFl.rf S1).SI ⟨rfl, rfl⟩
  have F2 : xFl xFY S (xSI S1 187 50 (nI 0)) := F1.SI (Or.inl ⟨rfl, by omega⟩)
  have T2 := T1.fr F0 (by omega) (fun k => by omega)
  have t2 := t1'.fr F0 (fun k _ _ => by omega) rfl
  by_cases h1 : xtk t n (xta t n p) = 2
  · have h42 : S1.2.1 187 5 = nI 2 := a5.trans (by rw [h1])
    have key : ∃ r S', xcall false (d + 4) j_X12_yardRule [.ref 187] S r S' ∧ (∃ b, r = some (.int (xB b)) ∧ xFl xFR (xSI S1 187 50 (nI 0)) S' ∧ xMD n t (xSI S1 187 50 (nI 0)) S' b (xdigs t n (4 + 1) (xta t n p) [])) := by
      refine xcall_some (ls := [.ref 187]) q_X12_yardRule (by decide) rfl (Nat.le_of_ble_eq_true rfl) rfl ?_
      refine wp_aload_n dX12_yardRule_0 rfl rfl (wp_ldc2 (v := lN 427071729268) dX12_yardRule_1 k11_281 rfl (wp_iv2 dX12_yardRule_4 k11_124 q_X12_isWord (by decide) (xsh hX sh_187) (by decide) (Nat.le_of_ble_eq_true rfl) (m_isWord (d + 3) hX hT hM0 (r := xw_count) (W := 427071729268) ⟨by decide, by decide, by decide, by decide⟩ (by decide)) ?_))
      refine wb_if_eq dX12_yardRule_7 rfl (fun c7 => ?_) (fun c7 => absurd c7 (by rw [n_count]; decide))
      refine wp_aload_n dX12_yardRule_23 rfl rfl (wp_ldc2 (v := lN 25209) dX12_yardRule_24 k11_291 rfl (wp_iv2 dX12_yardRule_27 k11_124 q_X12_isWord (by decide) (xsh hX sh_187) (by decide) (Nat.le_of_ble_eq_true rfl) (m_isWord (d + 3) hX hT hM0 (r := xw_by) (W := 25209) ⟨by decide, by decide, by decide, by decide⟩ (by decide)) ?_))
      refine wb_if_eq dX12_yardRule_30 rfl (fun c30 => ?_) (fun c30 => absurd c30 (by rw [n_by]; decide))
      refine wp_aload_n dX12_yardRule_46 rfl rfl (wp_ldc2 (v := lN 6842740) dX12_yardRule_47 k11_297 rfl (wp_iv2 dX12_yardRule_50 k11_124 q_X12_isWord (by decide) (xsh hX sh_187) (by decide) (Nat.le_of_ble_eq_true rfl) (m_isWord (d + 3) hX hT hM0 (r := xw_hit) (W := 6842740) ⟨by decide, by decide, by decide, by decide⟩ (by decide)) ?_))
      refine wb_if_eq dX12_yardRule_53 rfl (fun c53 => ?_) (fun c53 => absurd c53 (by rw [n_hit]; decide))
      refine wp_aload_n dX12_yardRule_69 rfl rfl (wp_ldc2 (v := lN 1952998766) dX12_yardRule_70 k11_303 rfl (wp_iv2 dX12_yardRule_73 k11_124 q_X12_isWord (by decide) (xsh hX sh_187) (by decide) (Nat.le_of_ble_eq_true rfl) (m_isWord (d + 3) hX hT hM0 (r := xw_then) (W := 1952998766) ⟨by decide, by decide, by decide, by decide⟩ (by decide)) ?_))
      refine wb_if_eq dX12_yardRule_76 rfl (fun c76 => ?_) (fun c76 => absurd c76 (by rw [n_then]; decide))
      refine wp_aload_n dX12_yardRule_94 rfl rfl (wp_ldc2 (v := lN 1953854062) dX12_yardRule_95 k11_311 rfl (wp_iv2 dX12_yardRule_98 k11_124 q_X12_isWord (by decide) (xsh hX sh_187) (by decide) (Nat.le_of_ble_eq_true rfl) (m_isWord (d + 3) hX hT hM0 (r := xw_turn) (W := 1953854062) ⟨by decide, by decide, by decide, by decide⟩ (by decide)) ?_))
      refine wb_if_eq dX12_yardRule_101 rfl (fun c101 => ?_) (fun c101 => absurd c101 (by rw [n_turn]; decide))
      refine wp_aload_n dX12_yardRule_117 rfl rfl (wp_ldc2 (v := lN 6383981) dX12_yardRule_118 k11_317 rfl (wp_iv2 dX12_yardRule_121 k11_124 q_X12_isWord (by decide) (xsh hX sh_187) (by decide) (Nat.le_of_ble_eq_true rfl) (m_isWord (d + 3) hX hT hM0 (r := xw_aim) (W := 6383981) ⟨by decide, by decide, by decide, by decide⟩ (by decide)) ?_))
      refine wb_if_eq dX12_yardRule_124 rfl (fun c124 => ?_) (fun c124 => absurd c124 (by rw [n_aim]; decide))
      refine wp_aload_n dX12_yardRule_141 rfl rfl (wp_ldc2 (v := lN 1818584692) dX12_yardRule_142 k11_321 rfl (wp_iv2 dX12_yardRule_145 k11_124 q_X12_isWord (by decide) (xsh hX sh_187) (by decide) (Nat.le_of_ble_eq_true rfl) (m_isWord (d + 3) hX hT hM0 (r := xw_left) (W := 1818584692) ⟨by decide, by decide, by decide, by decide⟩ (by decide)) ?_))
      refine wb_if_eq dX12_yardRule_148 rfl (fun c148 => ?_) (fun c148 => absurd c148 (by rw [n_left]; decide))
      refine wp_aload_n dX12_yardRule_210 rfl rfl (wp_ldc2 (v := lN 125793039377779) dX12_yardRule_211 k11_323 rfl (wp_iv2 dX12_yardRule_214 k11_124 q_X12_isWord (by decide) (xsh hX sh_187) (by decide) (Nat.le_of_ble_eq_true rfl) (m_isWord (d + 3) hX hT hM0 (r := xw_rhymes) (W := 125793039377779) ⟨by decide, by decide, by decide, by decide⟩ (by decide)) ?_))
      refine wb_if_ne dX12_yardRule_217 rfl (fun c217 => ?_) (fun c217 => absurd c217 (by rw [h]; decide))
      refine wp_aload_n dX12_yardRule_225 rfl rfl (wp_bipush (v := nI 7) dX12_yardRule_226 rfl (wp_iv2 dX12_yardRule_228 k11_128 q_X12_once (by decide) (xsh hX sh_187) (by decide) (Nat.le_of_ble_eq_true rfl) g1 ?_))
      refine wb_if_ne dX12_yardRule_231 rfl (fun c231 => ?_) (fun c231 => absurd c231 (by decide))
      refine wp_aload_n dX12_yardRule_236 rfl rfl (wp_iconst (v := nI 0) dX12_yardRule_237 rfl (p11_263 dX12_yardRule_238 (xsh X1 sh_187) (wp_aload_n dX12_yardRule_241 rfl rfl (gv11_34 dX12_yardRule_242 (xsh X1 sh_187) (xi h42 (Or.inr (by decide))) (wp_iconst (v := nI 2) dX12_yardRule_245 rfl ?_)))))
      refine wn_icmp_eq dX12_yardRule_246 rfl (by omega) (by omega) (fun c246 => ?_) (fun c246 => absurd c246 (by omega))
      exact mrh_loop 4 (xta t n p) [] (xSI S1 187 50 (nI 0)) rfl X1 T2 t2 (xI_same _ _ _ _) (fun i hi => absurd hi (Nat.not_lt_zero i)) (Or.inr h1)
    obtain ⟨r, S', g, b, rfl, z1, z2⟩ := key
    refine ⟨b, S', g, F2.tt (z1.mono xFR_Y), ?_, z1.i (F0.i o1 (by omega)) (by unfold xFR; omega)⟩
    cases hd : xdigs t n 5 (xta t n p) [] with
    | error e => exact ⟨fun e' he => (by cases he; exact z2.1 e hd), fun p' v' he => (by cases he)⟩
    | ok q =>
      obtain ⟨p', l'⟩ := q
      obtain ⟨y1, y2, y3, y4⟩ := z2.2 p' l' hd
      have hin := xdigs_in _ _ _ _ _ hd (fun x hx => (by cases hx)) (by decide)
      obtain ⟨v1, v2, v3, v4, v5⟩ := V1
      refine ⟨fun e he => (by cases he), fun p2 v2' he => ?_⟩
      cases he
      exact ⟨fun w => ⟨(y3 w).1, (y3 w).2.1.trans (F0.i e9 (by omega)), (y3 w).2.2, fun i hi => z1.i (F0.i (v1 i hi) (by omega)) (by unfold xFR; omega), z1.i (F0.i v2 (by omega)) (by unfold xFR; omega), y1, y2, v5.1, v5.2.1, hin.2.1, hin.2.2, hin.1⟩, y4⟩
  · have hd : xdigs t n 5 (xta t n p) [] = .error (xfh t n (xta t n p)) := by
      unfold xdigs
      rw [if_neg h1, if_pos rfl]
    rw [hd]
    have g4 := m_cant2 (S := xSI S1 187 50 (nI 0)) (d + 2) X1 T2 t2
    obtain ⟨w1, w2, w3, w4⟩ := xW_f (e1 := (xfh t n (xta t n p)).1) (e2 := (xfh t n (xta t n p)).2) F2
    refine ⟨false, xSI (xSI (xSI S1 187 50 (nI 0)) 187 9 (nI (xfh t n (xta t n p)).1)) 187 10 (nI (xfh t n (xta t n p)).2), ?_, w1, ⟨fun e he => (by cases he; exact ⟨rfl, w2, w3⟩), fun p' v' he => (by cases he)⟩, w4 187 20 _ (xi o1 (Or.inr (by decide))) (by decide)⟩
    refine xcall_intro (ls := [.ref 187]) q_X12_yardRule (by decide) rfl (Nat.le_of_ble_eq_true rfl) rfl ?_
    refine wp_aload_n dX12_yardRule_0 rfl rfl (wp_ldc2 (v := lN 427071729268) dX12_yardRule_1 k11_281 rfl (wp_iv2 dX12_yardRule_4 k11_124 q_X12_isWord (by decide) (xsh hX sh_187) (by decide) (Nat.le_of_ble_eq_true rfl) (m_isWord (d + 3) hX hT hM0 (r := xw_count) (W := 427071729268) ⟨by decide, by decide, by decide, by decide⟩ (by decide)) ?_))
    refine wb_if_eq dX12_yardRule_7 rfl (fun c7 => ?_) (fun c7 => absurd c7 (by rw [n_count]; decide))
    refine wp_aload_n dX12_yardRule_23 rfl rfl (wp_ldc2 (v := lN 25209) dX12_yardRule_24 k11_291 rfl (wp_iv2 dX12_yardRule_27 k11_124 q_X12_isWord (by decide) (xsh hX sh_187) (by decide) (Nat.le_of_ble_eq_true rfl) (m_isWord (d + 3) hX hT hM0 (r := xw_by) (W := 25209) ⟨by decide, by decide, by decide, by decide⟩ (by decide)) ?_))
    refine wb_if_eq dX12_yardRule_30 rfl (fun c30 => ?_) (fun c30 => absurd c30 (by rw [n_by]; decide))
    refine wp_aload_n dX12_yardRule_46 rfl rfl (wp_ldc2 (v := lN 6842740) dX12_yardRule_47 k11_297 rfl (wp_iv2 dX12_yardRule_50 k11_124 q_X12_isWord (by decide) (xsh hX sh_187) (by decide) (Nat.le_of_ble_eq_true rfl) (m_isWord (d + 3) hX hT hM0 (r := xw_hit) (W := 6842740) ⟨by decide, by decide, by decide, by decide⟩ (by decide)) ?_))
    refine wb_if_eq dX12_yardRule_53 rfl (fun c53 => ?_) (fun c53 => absurd c53 (by rw [n_hit]; decide))
    refine wp_aload_n dX12_yardRule_69 rfl rfl (wp_ldc2 (v := lN 1952998766) dX12_yardRule_70 k11_303 rfl (wp_iv2 dX12_yardRule_73 k11_124 q_X12_isWord (by decide) (xsh hX sh_187) (by decide) (Nat.le_of_ble_eq_true rfl) (m_isWord (d + 3) hX hT hM0 (r := xw_then) (W := 1952998766) ⟨by decide, by decide, by decide, by decide⟩ (by decide)) ?_))
    refine wb_if_eq dX12_yardRule_76 rfl (fun c76 => ?_) (fun c76 => absurd c76 (by rw [n_then]; decide))
    refine wp_aload_n dX12_yardRule_94 rfl rfl (wp_ldc2 (v := lN 1953854062) dX12_yardRule_95 k11_311 rfl (wp_iv2 dX12_yardRule_98 k11_124 q_X12_isWord (by decide) (xsh hX sh_187) (by decide) (Nat.le_of_ble_eq_true rfl) (m_isWord (d + 3) hX hT hM0 (r := xw_turn) (W := 1953854062) ⟨by decide, by decide, by decide, by decide⟩ (by decide)) ?_))
    refine wb_if_eq dX12_yardRule_101 rfl (fun c101 => ?_) (fun c101 => absurd c101 (by rw [n_turn]; decide))
    refine wp_aload_n dX12_yardRule_117 rfl rfl (wp_ldc2 (v := lN 6383981) dX12_yardRule_118 k11_317 rfl (wp_iv2 dX12_yardRule_121 k11_124 q_X12_isWord (by decide) (xsh hX sh_187) (by decide) (Nat.le_of_ble_eq_true rfl) (m_isWord (d + 3) hX hT hM0 (r := xw_aim) (W := 6383981) ⟨by decide, by decide, by decide, by decide⟩ (by decide)) ?_))
    refine wb_if_eq dX12_yardRule_124 rfl (fun c124 => ?_) (fun c124 => absurd c124 (by rw [n_aim]; decide))
    refine wp_aload_n dX12_yardRule_141 rfl rfl (wp_ldc2 (v := lN 1818584692) dX12_yardRule_142 k11_321 rfl (wp_iv2 dX12_yardRule_145 k11_124 q_X12_isWord (by decide) (xsh hX sh_187) (by decide) (Nat.le_of_ble_eq_true rfl) (m_isWord (d + 3) hX hT hM0 (r := xw_left) (W := 1818584692) ⟨by decide, by decide, by decide, by decide⟩ (by decide)) ?_))
    refine wb_if_eq dX12_yardRule_148 rfl (fun c148 => ?_) (fun c148 => absurd c148 (by rw [n_left]; decide))
    refine wp_aload_n dX12_yardRule_210 rfl rfl (wp_ldc2 (v := lN 125793039377779) dX12_yardRule_211 k11_323 rfl (wp_iv2 dX12_yardRule_214 k11_124 q_X12_isWord (by decide) (xsh hX sh_187) (by decide) (Nat.le_of_ble_eq_true rfl) (m_isWord (d + 3) hX hT hM0 (r := xw_rhymes) (W := 125793039377779) ⟨by decide, by decide, by decide, by decide⟩ (by decide)) ?_))
    refine wb_if_ne dX12_yardRule_217 rfl (fun c217 => ?_) (fun c217 => absurd c217 (by rw [h]; decide))
    refine wp_aload_n dX12_yardRule_225 rfl rfl (wp_bipush (v := nI 7) dX12_yardRule_226 rfl (wp_iv2 dX12_yardRule_228 k11_128 q_X12_once (by decide) (xsh hX sh_187) (by decide) (Nat.le_of_ble_eq_true rfl) g1 ?_))
    refine wb_if_ne dX12_yardRule_231 rfl (fun c231 => ?_) (fun c231 => absurd c231 (by decide))
    refine wp_aload_n dX12_yardRule_236 rfl rfl (wp_iconst (v := nI 0) dX12_yardRule_237 rfl (p11_263 dX12_yardRule_238 (xsh X1 sh_187) (wp_aload_n dX12_yardRule_241 rfl rfl (gv11_34 dX12_yardRule_242 (xsh X1 sh_187) (xi a5 (Or.inr (by decide))) (wp_iconst (v := nI 2) dX12_yardRule_245 rfl ?_)))))
    refine wn_icmp_eq dX12_yardRule_246 rfl (by omega) (by omega) (fun c246 => absurd c246 (by omega)) (fun c246 => ?_)
    exact wp_aload_n dX12_yardRule_249 rfl rfl (wp_iv1 dX12_yardRule_250 k11_61 q_X12_cant (by decide) (xsh X1 sh_187) (by decide) (Nat.le_of_ble_eq_true rfl) g4 (wb_ret dX12_yardRule_253 rfl rfl ⟨rfl, rfl⟩))
