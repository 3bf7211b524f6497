/-! has, forget, born and counted of the reference -/
theorem xof_ltf {α : Type} (f : xLn → List α) (dd : α) {L : List xLn} {l i : Nat} (hl : l < L.length) (hi : i < (f (L.getD l (0, 0, []))).length) : xof f L l + i < (L.flatMap f).length ∧ (L.flatMap f).getD (xof f L l + i) dd = (f (L.getD l (0, 0, []))).getD i dd := by
  refine ⟨?_, xof_get f dd L l i hl hi⟩
  have e := xof_succ f L l hl
  have := xof_le f L (l + 1)
  omega
theorem xsum_mul (f : Nat → Nat) (c : Nat) : ∀ n, xsum (fun k => c * f k) n = xsum f n * c
  | 0 => by unfold xsum; omega
  | n + 1 => by
    unfold xsum
    rw [xsum_mul f c n, Nat.add_mul, Nat.mul_comm c]
theorem xsum_tail (f g : Nat → Nat) (h0 : f 0 = 0) (h : ∀ k, f (k + 1) = g k) : ∀ n, xsum f (n + 1) = xsum g n
  | 0 => by unfold xsum; unfold xsum; rw [h0]
  | n + 1 => by
    rw [xsum, xsum_tail f g h0 h n, h n]
    rfl
theorem xsum_congr {f g : Nat → Nat} : ∀ n, (∀ k, k < n → f k = g k) → xsum f n = xsum g n
  | 0, _ => rfl
  | n + 1, h => by unfold xsum; rw [xsum_congr n (fun k hk => h k (by omega)), h n (by omega)]
/-- what a line is COUNTED -/
theorem xline_eq (v : xTg) (t : Nat → Nat) (b : Bool) (ln : xLn) : xsum (fun k => ln.1 * xct v t b ((xmit ln).getD k (0, 0, 0))) (xmit ln).length = xsum (fun k => xct v t b ((xcI ln).getD k (0, 0, 0))) (xcI ln).length * ln.1 := by
  rw [xsum_mul (fun k => xct v t b ((xmit ln).getD k (0, 0, 0)))]
  congr 1
  unfold xcI xmit
  split
  · show _ = xsum _ (ln.2.2.length + 1)
    refine (xsum_tail (fun k => xct v t b (([(5, ln.2.1, 2)] ++ ln.2.2).getD k (0, 0, 0))) (fun k => xct v t b (ln.2.2.getD k (0, 0, 0))) ?_ (fun k => rfl) _).symm
    show xct v t b (5, ln.2.1, 2) = 0
    unfold xct xbt
    cases b <;> simp
  · rfl
theorem xtot_m (v : xTg) (t : Nat → Nat) (b : Bool) (L : List xLn) : xsum (fun l => xsum (fun k => (L.getD l (0, 0, [])).1 * xct v t b ((xmit (L.getD l (0, 0, []))).getD k (0, 0, 0))) (xmit (L.getD l (0, 0, []))).length) L.length = xtot v t b L := xsum_congr _ (fun l _ => xline_eq v t b _)
theorem m_has_out {sv : Int32} (d : Nat) {S : xS} (hX : XC S) (hsl : xsl sv = false) : xcall false d j_X12_has [.ref 187, .int sv] S (some (.int (xB false))) S := by
  rcases Decidable.em (sv < 0) with w1 | w1
  · refine xcall_intro (ls := [.ref 187, .int sv]) q_X12_has (by decide) rfl (Nat.le_of_ble_eq_true rfl) rfl ?_
    refine wp_iload_n dX12_has_0 rfl ?_
    refine wp_if_lt dX12_has_1 rfl (fun c1 => ?_) (fun c1 => absurd c1 (not_not_intro w1))
    exact wp_iconst (v := nI 0) dX12_has_23 rfl (wb_ret dX12_has_24 rfl rfl ⟨rfl, rfl⟩)
  have w2 : ¬ sv < 6 := fun w => by unfold xsl at hsl; exact absurd ⟨w1, w⟩ (of_decide_eq_false hsl)
  refine xcall_intro (ls := [.ref 187, .int sv]) q_X12_has (by decide) rfl (Nat.le_of_ble_eq_true rfl) rfl ?_
  refine wp_iload_n dX12_has_0 rfl ?_
  refine wp_if_lt dX12_has_1 rfl (fun c1 => absurd c1 w1) (fun c1 => ?_)
  refine wp_iload_n dX12_has_4 rfl (wp_bipush (v := 6) dX12_has_5 rfl ?_)
  refine wp_icmp_ge dX12_has_7 rfl (fun c7 => ?_) (fun c7 => absurd c7 (not_not_intro (Int32.not_lt.mp w2)))
  exact wp_iconst (v := nI 0) dX12_has_23 rfl (wb_ret dX12_has_24 rfl rfl ⟨rfl, rfl⟩)
theorem m_has {s c : Nat} (d : Nat) (hs6 : s < 6) {S : xS} (hX : XC S) (h203 : S.2.1 203 s = nI c) (hc : c < 100) : xcall false d j_X12_has [.ref 187, .int (nI s)] S (some (.int (xB (decide (0 < c))))) S := by
  rcases Nat.lt_or_ge 0 c with q | q
  · refine xcall_intro (ls := [.ref 187, .int (nI s)]) q_X12_has (by decide) rfl (Nat.le_of_ble_eq_true rfl) rfl ?_
    refine wp_iload_n dX12_has_0 rfl ?_
    refine wn_if_lt dX12_has_1 rfl (by omega) ?_
    refine wp_iload_n dX12_has_4 rfl (wp_bipush (v := nI 6) dX12_has_5 rfl ?_)
    refine wn_icmp_ge dX12_has_7 rfl (by omega) (by omega) (fun c7 => absurd c7 (by omega)) (fun c7 => ?_)
    refine wp_aload_n dX12_has_10 rfl rfl (g11_222 dX12_has_11 (xsh hX sh_187) (xrr hX r187_37) (wp_iload_n dX12_has_14 rfl (wn_iaload dX12_has_15 (xsh hX sh_203) rfl (by omega) (by decide) h203 ?_)))
    refine wn_if_le dX12_has_16 rfl (by omega) (fun c16 => absurd c16 (by omega)) (fun c16 => ?_)
    exact wp_iconst (v := nI 1) dX12_has_19 rfl (wp_goto dX12_has_20 rfl (wb_ret dX12_has_24 rfl (xB_of_t (decide_eq_true q)) ⟨rfl, rfl⟩))
  · refine xcall_intro (ls := [.ref 187, .int (nI s)]) q_X12_has (by decide) rfl (Nat.le_of_ble_eq_true rfl) rfl ?_
    refine wp_iload_n dX12_has_0 rfl ?_
    refine wn_if_lt dX12_has_1 rfl (by omega) ?_
    refine wp_iload_n dX12_has_4 rfl (wp_bipush (v := nI 6) dX12_has_5 rfl ?_)
    refine wn_icmp_ge dX12_has_7 rfl (by omega) (by omega) (fun c7 => absurd c7 (by omega)) (fun c7 => ?_)
    refine wp_aload_n dX12_has_10 rfl rfl (g11_222 dX12_has_11 (xsh hX sh_187) (xrr hX r187_37) (wp_iload_n dX12_has_14 rfl (wn_iaload dX12_has_15 (xsh hX sh_203) rfl (by omega) (by decide) h203 ?_)))
    refine wn_if_le dX12_has_16 rfl (by omega) (fun c16 => ?_) (fun c16 => absurd c16 (by omega))
    exact wp_iconst (v := nI 0) dX12_has_23 rfl (wb_ret dX12_has_24 rfl (xB_of_f (decide_eq_false (by omega))) ⟨rfl, rfl⟩)
theorem m_forget_no {sv : Int32} (d : Nat) {S : xS} (hX : XC S) (gn : xcall false (d + 1) j_X12_has [.ref 187, .int sv] (xSI S 187 0 (nI 0)) (some (.int (xB false))) (xSI S 187 0 (nI 0))) : xcall false (d + 2) j_X12_forget [.ref 187, .int sv] S (some (.int (xB false))) (xSI S 187 0 (nI 0)) := by
  refine xcall_intro (ls := [.ref 187, .int sv]) q_X12_forget (by decide) rfl (Nat.le_of_ble_eq_true rfl) rfl ?_
  refine wp_aload_n dX12_forget_0 rfl rfl (wp_iconst (v := nI 0) dX12_forget_1 rfl (p11_1 dX12_forget_2 (xsh hX sh_187) (wp_aload_n dX12_forget_5 rfl rfl (wp_iload_n dX12_forget_6 rfl (wp_iv2 dX12_forget_7 k11_231 q_X12_has (by decide) (xsh hX sh_187) (by decide) (Nat.le_of_ble_eq_true rfl) gn ?_)))))
  refine wb_if_ne dX12_forget_10 rfl (fun c10 => absurd c10 (by decide)) (fun c10 => ?_)
  exact wp_iconst (v := nI 0) dX12_forget_13 rfl (wb_ret dX12_forget_14 rfl rfl ⟨rfl, rfl⟩)
theorem m_forget {s : Nat} (d : Nat) (hs6 : s < 6) {S : xS} (hX : XC S) (gn : xcall false (d + 1) j_X12_has [.ref 187, .int (nI s)] (xSI S 187 0 (nI 0)) (some (.int (xB true))) (xSI S 187 0 (nI 0))) : xcall false (d + 2) j_X12_forget [.ref 187, .int (nI s)] S (some (.int (xB true))) (xSI (xSI S 187 0 (nI 0)) 203 s (nI 0)) := by
  refine xcall_intro (ls := [.ref 187, .int (nI s)]) q_X12_forget (by decide) rfl (Nat.le_of_ble_eq_true rfl) rfl ?_
  refine wp_aload_n dX12_forget_0 rfl rfl (wp_iconst (v := nI 0) dX12_forget_1 rfl (p11_1 dX12_forget_2 (xsh hX sh_187) (wp_aload_n dX12_forget_5 rfl rfl (wp_iload_n dX12_forget_6 rfl (wp_iv2 dX12_forget_7 k11_231 q_X12_has (by decide) (xsh hX sh_187) (by decide) (Nat.le_of_ble_eq_true rfl) gn ?_)))))
  refine wb_if_ne dX12_forget_10 rfl (fun c10 => ?_) (fun c10 => absurd c10 (by decide))
  exact wp_aload_n dX12_forget_15 rfl rfl (g11_222 dX12_forget_16 (xsh hX sh_187) (xrr hX r187_37) (wp_iload_n dX12_forget_19 rfl (wp_iconst (v := nI 0) dX12_forget_20 rfl (wn_iastore dX12_forget_21 (xsh hX sh_203) rfl (by omega) (by decide) (wp_iconst (v := nI 1) dX12_forget_22 rfl (wb_ret dX12_forget_23 rfl rfl ⟨rfl, rfl⟩))))))
theorem m_born_no {sv day : Int32} (d : Nat) {S : xS} (hX : XC S) (gn : xcall false (d + 1) j_X12_has [.ref 187, .int sv] (xSI S 187 0 (nI 0)) (some (.int (xB false))) (xSI S 187 0 (nI 0))) : xcall false (d + 2) j_X12_born [.ref 187, .int sv, .int day] S (some (.int (xB false))) (xSI S 187 0 (nI 0)) := by
  refine xcall_intro (ls := [.ref 187, .int sv, .int day]) q_X12_born (by decide) rfl (Nat.le_of_ble_eq_true rfl) rfl ?_
  refine wp_aload_n dX12_born_0 rfl rfl (wp_iconst (v := nI 0) dX12_born_1 rfl (p11_1 dX12_born_2 (xsh hX sh_187) (wp_aload_n dX12_born_5 rfl rfl (wp_iload_n dX12_born_6 rfl (wp_iv2 dX12_born_7 k11_231 q_X12_has (by decide) (xsh hX sh_187) (by decide) (Nat.le_of_ble_eq_true rfl) gn ?_)))))
  refine wb_if_eq dX12_born_10 rfl (fun c10 => ?_) (fun c10 => absurd c10 (by decide))
  exact wp_iconst (v := nI 0) dX12_born_24 rfl (wb_ret dX12_born_25 rfl rfl ⟨rfl, rfl⟩)
theorem m_born {s : Nat} {day : Int32} (d : Nat) (hs6 : s < 6) {S : xS} (hX : XC S) (gn : xcall false (d + 1) j_X12_has [.ref 187, .int (nI s)] (xSI S 187 0 (nI 0)) (some (.int (xB true))) (xSI S 187 0 (nI 0))) : xcall false (d + 2) j_X12_born [.ref 187, .int (nI s), .int day] S (some (.int (xB (decide (¬ day < 0 ∧ day ≤ 999))))) (if ¬ day < 0 ∧ day ≤ 999 then xSI (xSI S 187 0 (nI 0)) 204 s day else xSI S 187 0 (nI 0)) := by
  rcases Decidable.em (day < 0) with c1 | c1
  · rw [decide_eq_false (fun w => w.1 c1), if_neg (fun w => w.1 c1)]
    refine xcall_intro (ls := [.ref 187, .int (nI s), .int day]) q_X12_born (by decide) rfl (Nat.le_of_ble_eq_true rfl) rfl ?_
    refine wp_aload_n dX12_born_0 rfl rfl (wp_iconst (v := nI 0) dX12_born_1 rfl (p11_1 dX12_born_2 (xsh hX sh_187) (wp_aload_n dX12_born_5 rfl rfl (wp_iload_n dX12_born_6 rfl (wp_iv2 dX12_born_7 k11_231 q_X12_has (by decide) (xsh hX sh_187) (by decide) (Nat.le_of_ble_eq_true rfl) gn ?_)))))
    refine wb_if_eq dX12_born_10 rfl (fun c10 => absurd c10 (by decide)) (fun c10 => ?_)
    refine wp_iload_n dX12_born_13 rfl ?_
    refine wp_if_lt dX12_born_14 rfl (fun c14 => ?_) (fun c14 => absurd c14 (not_not_intro c1))
    exact wp_iconst (v := nI 0) dX12_born_24 rfl (wb_ret dX12_born_25 rfl rfl ⟨rfl, rfl⟩)
  rcases Decidable.em (day ≤ 999) with c2 | c2
  · rw [decide_eq_true ⟨c1, c2⟩, if_pos ⟨c1, c2⟩]
    refine xcall_intro (ls := [.ref 187, .int (nI s), .int day]) q_X12_born (by decide) rfl (Nat.le_of_ble_eq_true rfl) rfl ?_
    refine wp_aload_n dX12_born_0 rfl rfl (wp_iconst (v := nI 0) dX12_born_1 rfl (p11_1 dX12_born_2 (xsh hX sh_187) (wp_aload_n dX12_born_5 rfl rfl (wp_iload_n dX12_born_6 rfl (wp_iv2 dX12_born_7 k11_231 q_X12_has (by decide) (xsh hX sh_187) (by decide) (Nat.le_of_ble_eq_true rfl) gn ?_)))))
    refine wb_if_eq dX12_born_10 rfl (fun c10 => absurd c10 (by decide)) (fun c10 => ?_)
    refine wp_iload_n dX12_born_13 rfl ?_
    refine wp_if_lt dX12_born_14 rfl (fun c14 => absurd c14 c1) (fun c14 => ?_)
    refine wp_iload_n dX12_born_17 rfl (wp_sipush (v := 999) dX12_born_18 rfl ?_)
    refine wp_icmp_le dX12_born_21 rfl (fun c21 => ?_) (fun c21 => absurd c21 (not_not_intro c2))
    exact wp_aload_n dX12_born_26 rfl rfl (g11_225 dX12_born_27 (xsh hX sh_187) (xrr hX r187_38) (wp_iload_n dX12_born_30 rfl (wp_iload_n dX12_born_31 rfl (wn_iastore dX12_born_32 (xsh hX sh_204) rfl (by omega) (by decide) (wp_iconst (v := nI 1) dX12_born_33 rfl (wb_ret dX12_born_34 rfl rfl ⟨rfl, rfl⟩))))))
  · rw [decide_eq_false (fun w => c2 w.2), if_neg (fun w => c2 w.2)]
    refine xcall_intro (ls := [.ref 187, .int (nI s), .int day]) q_X12_born (by decide) rfl (Nat.le_of_ble_eq_true rfl) rfl ?_
    refine wp_aload_n dX12_born_0 rfl rfl (wp_iconst (v := nI 0) dX12_born_1 rfl (p11_1 dX12_born_2 (xsh hX sh_187) (wp_aload_n dX12_born_5 rfl rfl (wp_iload_n dX12_born_6 rfl (wp_iv2 dX12_born_7 k11_231 q_X12_has (by decide) (xsh hX sh_187) (by decide) (Nat.le_of_ble_eq_true rfl) gn ?_)))))
    refine wb_if_eq dX12_born_10 rfl (fun c10 => absurd c10 (by decide)) (fun c10 => ?_)
    refine wp_iload_n dX12_born_13 rfl ?_
    refine wp_if_lt dX12_born_14 rfl (fun c14 => absurd c14 c1) (fun c14 => ?_)
    refine wp_iload_n dX12_born_17 rfl (wp_sipush (v := 999) dX12_born_18 rfl ?_)
    refine wp_icmp_le dX12_born_21 rfl (fun c21 => absurd c21 c2) (fun c21 => ?_)
    exact wp_iconst (v := nI 0) dX12_born_24 rfl (wb_ret dX12_born_25 rfl rfl ⟨rfl, rfl⟩)
theorem xmit_bd {t : Nat → Nat} {n : Nat} {L : List xLn} (h : xRok t n L) {o : xIt} (ho : o ∈ L.flatMap xmit) : xiok t o ∧ o.2.1 + o.2.2 ≤ n := by
  obtain ⟨ln, h1, h2⟩ := List.mem_flatMap.mp ho
  have ho2 : o ∈ L.flatMap xcI := List.mem_flatMap.mpr ⟨ln, h1, by unfold xcI; exact List.mem_append_right _ h2⟩
  refine ⟨(h.1 ln h1).2.2.2.2 o h2, ?_⟩
  obtain ⟨i, hi, e⟩ := List.getElem_of_mem ho2
  have hc := (xRok_ch h hi).2
  rw [List.getD_eq_getElem?_getD, List.getElem?_eq_getElem hi] at hc
  have hc' : (L.flatMap xcI)[i].2.1 + xisz (L.flatMap xcI)[i] ≤ n := hc
  rw [e] at hc'
  unfold xisz at hc'
  split at hc' <;> omega
theorem m_counts {n s : Nat} {t : Nat → Nat} {L : List xLn} {v : xTg} (d : Nat) (b : Bool) {i : Nat} (hi : i < (L.flatMap xmit).length) (hs6 : s < 6) {S : xS} (hX : XC S) (hM : xRM s S n t L) (hok : xRok t n L) (hn : n ≤ 240) (hlen : (L.flatMap xmit).length ≤ 121) (hT : xTgM S v) : xcall false (d + 2) j_X12_counts [.ref 187, .int (nI (122 * s + i)), .int (xB b)] S (some (.int (nI (xct v t b ((L.flatMap xmit).getD i (0, 0, 0)))))) S := by
  obtain ⟨k1, k2, k3⟩ := hM.2.1 i hi
  obtain ⟨io, ib⟩ := xmit_bd hok (xmem_getD (d := (0, 0, 0)) hi)
  have h4 := io.2.2.2.2.2
  rcases Decidable.em (((L.flatMap xmit).getD i (0, 0, 0)).1 = 0) with e0 | e0
  · have hw := io.1 (Or.inl e0)
    cases b with
    | true =>
      have gb := m_beatsOf (s := 260 + 240 * s + ((L.flatMap xmit).getD i (0, 0, 0)).2.1) (n := ((L.flatMap xmit).getD i (0, 0, 0)).2.2) (w := fun k => t (((L.flatMap xmit).getD i (0, 0, 0)).2.1 + k)) (d + 0) hX (by omega) (by omega) (fun k hk => ⟨hw.2.2 k hk, by
        have e := hM.1 (((L.flatMap xmit).getD i (0, 0, 0)).2.1 + k) (by omega)
        have hsb := xsm_b (hw.2.2 k hk)
        rw [xby_lo _ (by omega)] at e
        rw [show 260 + 240 * s + ((L.flatMap xmit).getD i (0, 0, 0)).2.1 + k = 260 + 240 * s + (((L.flatMap xmit).getD i (0, 0, 0)).2.1 + k) by omega]
        exact e⟩) hT
      refine xcall_intro (ls := [.ref 187, .int (nI (122 * s + i)), .int (xB true)]) q_X12_counts (by decide) rfl (Nat.le_of_ble_eq_true rfl) rfl ?_
      refine wp_aload_n dX12_counts_0 rfl rfl (g11_207 dX12_counts_1 (xsh hX sh_187) (xrr hX r187_32) (wp_iload_n dX12_counts_4 rfl (wn_iaload dX12_counts_5 (xsh hX sh_198) rfl (by omega) (by decide) k1 ?_)))
      refine wn_if_ne dX12_counts_6 rfl (by omega) (fun c6 => absurd c6 (by omega)) (fun c6 => ?_)
      refine wp_iload_n dX12_counts_9 rfl ?_
      refine wb_if_eq dX12_counts_10 rfl (fun c10 => absurd c10 (by decide)) (fun c10 => ?_)
      exact wp_aload_n dX12_counts_13 rfl rfl (wp_aload_n dX12_counts_14 rfl rfl (g11_210 dX12_counts_15 (xsh hX sh_187) (xrr hX r187_33) (wp_iload_n dX12_counts_18 rfl (wn_iaload dX12_counts_19 (xsh hX sh_199) rfl (by omega) (by decide) k2 (wp_aload_n dX12_counts_20 rfl rfl (g11_213 dX12_counts_21 (xsh hX sh_187) (xrr hX r187_34) (wp_iload_n dX12_counts_24 rfl (wn_iaload dX12_counts_25 (xsh hX sh_200) rfl (by omega) (by decide) k3 (wp_iv3 dX12_counts_26 k11_166 q_X12_beatsOf (by decide) (xsh hX sh_187) (by decide) (Nat.le_of_ble_eq_true rfl) gb (wp_goto dX12_counts_29 rfl (wp_ireturn dX12_counts_33 rfl rfl ⟨xret (by unfold xct xbt; rw [if_pos (Or.inl rfl), if_pos e0]), rfl⟩)))))))))))
    | false =>
      refine xcall_intro (ls := [.ref 187, .int (nI (122 * s + i)), .int (xB false)]) q_X12_counts (by decide) rfl (Nat.le_of_ble_eq_true rfl) rfl ?_
      refine wp_aload_n dX12_counts_0 rfl rfl (g11_207 dX12_counts_1 (xsh hX sh_187) (xrr hX r187_32) (wp_iload_n dX12_counts_4 rfl (wn_iaload dX12_counts_5 (xsh hX sh_198) rfl (by omega) (by decide) k1 ?_)))
      refine wn_if_ne dX12_counts_6 rfl (by omega) (fun c6 => absurd c6 (by omega)) (fun c6 => ?_)
      refine wp_iload_n dX12_counts_9 rfl ?_
      refine wb_if_eq dX12_counts_10 rfl (fun c10 => ?_) (fun c10 => absurd c10 (by decide))
      exact wp_iconst (v := nI 1) dX12_counts_32 rfl (wp_ireturn dX12_counts_33 rfl rfl ⟨xret (by unfold xct; rw [if_neg (fun w => w.elim (fun q => by cases q) (fun q => by omega)), if_pos e0]), rfl⟩)
  rcases Decidable.em (((L.flatMap xmit).getD i (0, 0, 0)).1 = 1) with e1 | e1
  · refine xcall_intro (ls := [.ref 187, .int (nI (122 * s + i)), .int (xB b)]) q_X12_counts (by decide) rfl (Nat.le_of_ble_eq_true rfl) rfl ?_
    refine wp_aload_n dX12_counts_0 rfl rfl (g11_207 dX12_counts_1 (xsh hX sh_187) (xrr hX r187_32) (wp_iload_n dX12_counts_4 rfl (wn_iaload dX12_counts_5 (xsh hX sh_198) rfl (by omega) (by decide) k1 ?_)))
    refine wn_if_ne dX12_counts_6 rfl (by omega) (fun c6 => ?_) (fun c6 => absurd c6 (by omega))
    refine wp_aload_n dX12_counts_34 rfl rfl (g11_207 dX12_counts_35 (xsh hX sh_187) (xrr hX r187_32) (wp_iload_n dX12_counts_38 rfl (wn_iaload dX12_counts_39 (xsh hX sh_198) rfl (by omega) (by decide) k1 (wp_iconst (v := nI 1) dX12_counts_40 rfl ?_))))
    refine wn_icmp_ne dX12_counts_41 rfl (by omega) (by omega) (fun c41 => absurd c41 (by omega)) (fun c41 => ?_)
    exact wp_aload_n dX12_counts_44 rfl rfl (g11_213 dX12_counts_45 (xsh hX sh_187) (xrr hX r187_34) (wp_iload_n dX12_counts_48 rfl (wn_iaload dX12_counts_49 (xsh hX sh_200) rfl (by omega) (by decide) k3 (wp_goto dX12_counts_50 rfl (wp_ireturn dX12_counts_72 rfl rfl ⟨xret (by unfold xct xbt; rw [if_pos (Or.inr e1), if_neg e0, if_neg (by omega), if_pos e1]), rfl⟩)))))
  rcases Decidable.em (((L.flatMap xmit).getD i (0, 0, 0)).1 = 2) with e2 | e2
  · cases b with
    | true =>
      refine xcall_intro (ls := [.ref 187, .int (nI (122 * s + i)), .int (xB true)]) q_X12_counts (by decide) rfl (Nat.le_of_ble_eq_true rfl) rfl ?_
      refine wp_aload_n dX12_counts_0 rfl rfl (g11_207 dX12_counts_1 (xsh hX sh_187) (xrr hX r187_32) (wp_iload_n dX12_counts_4 rfl (wn_iaload dX12_counts_5 (xsh hX sh_198) rfl (by omega) (by decide) k1 ?_)))
      refine wn_if_ne dX12_counts_6 rfl (by omega) (fun c6 => ?_) (fun c6 => absurd c6 (by omega))
      refine wp_aload_n dX12_counts_34 rfl rfl (g11_207 dX12_counts_35 (xsh hX sh_187) (xrr hX r187_32) (wp_iload_n dX12_counts_38 rfl (wn_iaload dX12_counts_39 (xsh hX sh_198) rfl (by omega) (by decide) k1 (wp_iconst (v := nI 1) dX12_counts_40 rfl ?_))))
      refine wn_icmp_ne dX12_counts_41 rfl (by omega) (by omega) (fun c41 => ?_) (fun c41 => absurd c41 (by omega))
      refine wp_aload_n dX12_counts_53 rfl rfl (g11_207 dX12_counts_54 (xsh hX sh_187) (xrr hX r187_32) (wp_iload_n dX12_counts_57 rfl (wn_iaload dX12_counts_58 (xsh hX sh_198) rfl (by omega) (by decide) k1 (wp_iconst (v := nI 2) dX12_counts_59 rfl ?_))))
      refine wn_icmp_ne dX12_counts_60 rfl (by omega) (by omega) (fun c60 => absurd c60 (by omega)) (fun c60 => ?_)
      refine wp_iload_n dX12_counts_63 rfl ?_
      refine wb_if_eq dX12_counts_64 rfl (fun c64 => absurd c64 (by decide)) (fun c64 => ?_)
      exact wp_iconst (v := nI 1) dX12_counts_67 rfl (wp_goto dX12_counts_68 rfl (wp_ireturn dX12_counts_72 rfl rfl ⟨xret (by unfold xct xbt; rw [if_pos (Or.inl rfl), if_neg e0, if_pos e2]), rfl⟩))
    | false =>
      refine xcall_intro (ls := [.ref 187, .int (nI (122 * s + i)), .int (xB false)]) q_X12_counts (by decide) rfl (Nat.le_of_ble_eq_true rfl) rfl ?_
      refine wp_aload_n dX12_counts_0 rfl rfl (g11_207 dX12_counts_1 (xsh hX sh_187) (xrr hX r187_32) (wp_iload_n dX12_counts_4 rfl (wn_iaload dX12_counts_5 (xsh hX sh_198) rfl (by omega) (by decide) k1 ?_)))
      refine wn_if_ne dX12_counts_6 rfl (by omega) (fun c6 => ?_) (fun c6 => absurd c6 (by omega))
      refine wp_aload_n dX12_counts_34 rfl rfl (g11_207 dX12_counts_35 (xsh hX sh_187) (xrr hX r187_32) (wp_iload_n dX12_counts_38 rfl (wn_iaload dX12_counts_39 (xsh hX sh_198) rfl (by omega) (by decide) k1 (wp_iconst (v := nI 1) dX12_counts_40 rfl ?_))))
      refine wn_icmp_ne dX12_counts_41 rfl (by omega) (by omega) (fun c41 => ?_) (fun c41 => absurd c41 (by omega))
      refine wp_aload_n dX12_counts_53 rfl rfl (g11_207 dX12_counts_54 (xsh hX sh_187) (xrr hX r187_32) (wp_iload_n dX12_counts_57 rfl (wn_iaload dX12_counts_58 (xsh hX sh_198) rfl (by omega) (by decide) k1 (wp_iconst (v := nI 2) dX12_counts_59 rfl ?_))))
      refine wn_icmp_ne dX12_counts_60 rfl (by omega) (by omega) (fun c60 => absurd c60 (by omega)) (fun c60 => ?_)
      refine wp_iload_n dX12_counts_63 rfl ?_
      refine wb_if_eq dX12_counts_64 rfl (fun c64 => ?_) (fun c64 => absurd c64 (by decide))
      exact wp_iconst (v := nI 0) dX12_counts_71 rfl (wp_ireturn dX12_counts_72 rfl rfl ⟨xret (by unfold xct; rw [if_neg (fun w => w.elim (fun q => by cases q) e1), if_neg e0]), rfl⟩)
  · refine xcall_intro (ls := [.ref 187, .int (nI (122 * s + i)), .int (xB b)]) q_X12_counts (by decide) rfl (Nat.le_of_ble_eq_true rfl) rfl ?_
    refine wp_aload_n dX12_counts_0 rfl rfl (g11_207 dX12_counts_1 (xsh hX sh_187) (xrr hX r187_32) (wp_iload_n dX12_counts_4 rfl (wn_iaload dX12_counts_5 (xsh hX sh_198) rfl (by omega) (by decide) k1 ?_)))
    refine wn_if_ne dX12_counts_6 rfl (by omega) (fun c6 => ?_) (fun c6 => absurd c6 (by omega))
    refine wp_aload_n dX12_counts_34 rfl rfl (g11_207 dX12_counts_35 (xsh hX sh_187) (xrr hX r187_32) (wp_iload_n dX12_counts_38 rfl (wn_iaload dX12_counts_39 (xsh hX sh_198) rfl (by omega) (by decide) k1 (wp_iconst (v := nI 1) dX12_counts_40 rfl ?_))))
    refine wn_icmp_ne dX12_counts_41 rfl (by omega) (by omega) (fun c41 => ?_) (fun c41 => absurd c41 (by omega))
    refine wp_aload_n dX12_counts_53 rfl rfl (g11_207 dX12_counts_54 (xsh hX sh_187) (xrr hX r187_32) (wp_iload_n dX12_counts_57 rfl (wn_iaload dX12_counts_58 (xsh hX sh_198) rfl (by omega) (by decide) k1 (wp_iconst (v := nI 2) dX12_counts_59 rfl ?_))))
    refine wn_icmp_ne dX12_counts_60 rfl (by omega) (by omega) (fun c60 => ?_) (fun c60 => absurd c60 (by omega))
    exact wp_iconst (v := nI 0) dX12_counts_71 rfl (wp_ireturn dX12_counts_72 rfl rfl ⟨xret (by unfold xct xbt; rw [if_neg e0, if_neg e2, if_neg e1, if_neg e0]; split <;> rfl), rfl⟩)
theorem co_in {n s : Nat} {t : Nat → Nat} {L : List xLn} {v : xTg} {b : Bool} {d : Nat} (hs6 : s < 6) {S : xS} (hX : XC S) (hM : xRM s S n t L) (hok : xRok t n L) (hn : n ≤ 240) (hlen : (L.flatMap xmit).length ≤ 121) (hT : xTgM S v) {l : Nat} (hl : l < L.length) (hl16 : L.length ≤ 16) {A : Nat} {Q : Option Value → xS → Prop} (K : Wp false (d + 3) 11 cX12_countedOf (some .int) false 83 [.ref 187, .int (nI s), .int (xB b), .int (nI (A + xsum (fun k => (L.getD l (0, 0, [])).1 * xct v t b ((xmit (L.getD l (0, 0, []))).getD k (0, 0, 0))) (xmit (L.getD l (0, 0, []))).length)), .int (nI l), .int (nI (xof xmit L l + (xmit (L.getD l (0, 0, []))).length))] [] S Q) : ∀ (j k : Nat), k + j = (xmit (L.getD l (0, 0, []))).length → Wp false (d + 3) 11 cX12_countedOf (some .int) false 30 [.ref 187, .int (nI s), .int (xB b), .int (nI (A + xsum (fun k => (L.getD l (0, 0, [])).1 * xct v t b ((xmit (L.getD l (0, 0, []))).getD k (0, 0, 0))) k)), .int (nI l), .int (nI (xof xmit L l + k))] [] S Q := by
  have e := xof_succ xmit L l hl
  have hle := xof_le xmit L (l + 1)
  have hlf := hM.2.2.1 (l + 1) (by omega)
  have htm := hM.2.2.2.1 l hl
  intro j
  induction j with
  | zero =>
    intro k hk
    have hkk : k = (xmit (L.getD l (0, 0, []))).length := by omega
    subst hkk
    refine wp_iload dX12_countedOf_30 rfl (wp_aload_n dX12_countedOf_32 rfl rfl (g11_216 dX12_countedOf_33 (xsh hX sh_187) (xrr hX r187_35) (wp_bipush (v := nI 17) dX12_countedOf_36 rfl (wp_iload_n dX12_countedOf_38 rfl (wv_imul dX12_countedOf_39 (pk_mul _ _) (wp_iload dX12_countedOf_40 rfl (wv_iadd dX12_countedOf_42 (nI_add _ _) (wp_iconst (v := nI 1) dX12_countedOf_43 rfl (wv_iadd dX12_countedOf_44 (nI_add _ _) (wn_iaload dX12_countedOf_45 (xsh hX sh_201) rfl (by omega) (by decide) hlf ?_))))))))))
    refine wn_icmp_ge dX12_countedOf_46 rfl (by omega) (by omega) (fun c46 => ?_) (fun c46 => absurd c46 (by omega))
    exact K
  | succ j ih =>
    intro k hk
    obtain ⟨o1, o2⟩ := xof_ltf xmit (0, 0, 0) hl (show k < (xmit (L.getD l (0, 0, []))).length by omega)
    have gc := m_counts d b o1 hs6 hX hM hok hn hlen hT
    rw [o2] at gc
    have eA : A + xsum (fun k => (L.getD l (0, 0, [])).1 * xct v t b ((xmit (L.getD l (0, 0, []))).getD k (0, 0, 0))) k + (L.getD l (0, 0, [])).1 * xct v t b ((xmit (L.getD l (0, 0, []))).getD k (0, 0, 0)) = A + xsum (fun k => (L.getD l (0, 0, [])).1 * xct v t b ((xmit (L.getD l (0, 0, []))).getD k (0, 0, 0))) (k + 1) := by rw [Nat.add_assoc]; rfl
    refine wp_iload dX12_countedOf_30 rfl (wp_aload_n dX12_countedOf_32 rfl rfl (g11_216 dX12_countedOf_33 (xsh hX sh_187) (xrr hX r187_35) (wp_bipush (v := nI 17) dX12_countedOf_36 rfl (wp_iload_n dX12_countedOf_38 rfl (wv_imul dX12_countedOf_39 (pk_mul _ _) (wp_iload dX12_countedOf_40 rfl (wv_iadd dX12_countedOf_42 (nI_add _ _) (wp_iconst (v := nI 1) dX12_countedOf_43 rfl (wv_iadd dX12_countedOf_44 (nI_add _ _) (wn_iaload dX12_countedOf_45 (xsh hX sh_201) rfl (by omega) (by decide) hlf ?_))))))))))
    refine wn_icmp_ge dX12_countedOf_46 rfl (by omega) (by omega) (fun c46 => absurd c46 (by omega)) (fun c46 => ?_)
    exact wp_iload_n dX12_countedOf_49 rfl (wp_aload_n dX12_countedOf_50 rfl rfl (g11_219 dX12_countedOf_51 (xsh hX sh_187) (xrr hX r187_36) (wp_bipush (v := nI 16) dX12_countedOf_54 rfl (wp_iload_n dX12_countedOf_56 rfl (wv_imul dX12_countedOf_57 (pk_mul _ _) (wp_iload dX12_countedOf_58 rfl (wv_iadd dX12_countedOf_60 (nI_add _ _) (wn_iaload dX12_countedOf_61 (xsh hX sh_202) rfl (by omega) (by decide) htm (wp_aload_n dX12_countedOf_62 rfl rfl (wp_bipush (v := nI 122) dX12_countedOf_63 rfl (wp_iload_n dX12_countedOf_65 rfl (wv_imul dX12_countedOf_66 (pk_mul _ _) (wp_iload dX12_countedOf_67 rfl (wv_iadd dX12_countedOf_69 (nI_add _ _) (wp_iload_n dX12_countedOf_70 rfl (wp_iv3 dX12_countedOf_71 k11_234 q_X12_counts (by decide) (xsh hX sh_187) (by decide) (Nat.le_of_ble_eq_true rfl) gc (wv_imul dX12_countedOf_74 (pk_mul _ _) (wv_iadd dX12_countedOf_75 ((nI_add _ _).trans (congrArg nI eA)) (wp_istore_n dX12_countedOf_76 ⟨Nat.le_of_ble_eq_true rfl, Or.inr rfl⟩ rfl (wp_iinc dX12_countedOf_77 rfl (nI_1 _) ⟨Nat.le_of_ble_eq_true rfl, Or.inr rfl⟩ rfl (wp_goto dX12_countedOf_80 rfl (ih (k + 1) (by omega)))))))))))))))))))))))
theorem co_out {n s : Nat} {t : Nat → Nat} {L : List xLn} {v : xTg} {b : Bool} {d : Nat} (hs6 : s < 6) {S : xS} (hX : XC S) (hM : xRM s S n t L) (hok : xRok t n L) (hn : n ≤ 240) (hlen : (L.flatMap xmit).length ≤ 121) (hT : xTgM S v) (hl16 : L.length ≤ 16) : ∀ (j l : Nat) (y5 : Value), l + j = L.length → Wp false (d + 3) 11 cX12_countedOf (some .int) false 5 [.ref 187, .int (nI s), .int (xB b), .int (nI (xsum (fun l => xsum (fun k => (L.getD l (0, 0, [])).1 * xct v t b ((xmit (L.getD l (0, 0, []))).getD k (0, 0, 0))) (xmit (L.getD l (0, 0, []))).length) l)), .int (nI l), y5] [] S (fun r S' => r = some (.int (nI (xtot v t b L))) ∧ S' = S) := by
  have h203 := hM.2.2.2.2
  intro j
  induction j with
  | zero =>
    intro l y5 hl
    have hll : l = L.length := by omega
    subst hll
    have et := xtot_m v t b L
    refine wp_iload dX12_countedOf_5 rfl (wp_aload_n dX12_countedOf_7 rfl rfl (g11_222 dX12_countedOf_8 (xsh hX sh_187) (xrr hX r187_37) (wp_iload_n dX12_countedOf_11 rfl (wn_iaload dX12_countedOf_12 (xsh hX sh_203) rfl (by omega) (by decide) h203 ?_))))
    refine wn_icmp_ge dX12_countedOf_13 rfl (by omega) (by omega) (fun c13 => ?_) (fun c13 => absurd c13 (by omega))
    exact wp_iload_n dX12_countedOf_89 rfl (wp_ireturn dX12_countedOf_90 rfl rfl ⟨xret et, rfl⟩)
  | succ j ih =>
    intro l y5 hl
    have hl' : l < L.length := by omega
    have hlf := hM.2.2.1 l (by omega)
    refine wp_iload dX12_countedOf_5 rfl (wp_aload_n dX12_countedOf_7 rfl rfl (g11_222 dX12_countedOf_8 (xsh hX sh_187) (xrr hX r187_37) (wp_iload_n dX12_countedOf_11 rfl (wn_iaload dX12_countedOf_12 (xsh hX sh_203) rfl (by omega) (by decide) h203 ?_))))
    refine wn_icmp_ge dX12_countedOf_13 rfl (by omega) (by omega) (fun c13 => absurd c13 (by omega)) (fun c13 => ?_)
    refine wp_aload_n dX12_countedOf_16 rfl rfl (g11_216 dX12_countedOf_17 (xsh hX sh_187) (xrr hX r187_35) (wp_bipush (v := nI 17) dX12_countedOf_20 rfl (wp_iload_n dX12_countedOf_22 rfl (wv_imul dX12_countedOf_23 (pk_mul _ _) (wp_iload dX12_countedOf_24 rfl (wv_iadd dX12_countedOf_26 (nI_add _ _) (wn_iaload dX12_countedOf_27 (xsh hX sh_201) rfl (by omega) (by decide) hlf (wp_istore dX12_countedOf_28 ⟨Nat.le_of_ble_eq_true rfl, Or.inr rfl⟩ rfl ?_))))))))
    refine wp_locals (ls' := [.ref 187, .int (nI s), .int (xB b), .int (nI (xsum (fun l => xsum (fun k => (L.getD l (0, 0, [])).1 * xct v t b ((xmit (L.getD l (0, 0, []))).getD k (0, 0, 0))) (xmit (L.getD l (0, 0, []))).length) l + xsum (fun k => (L.getD l (0, 0, [])).1 * xct v t b ((xmit (L.getD l (0, 0, []))).getD k (0, 0, 0))) 0)), .int (nI l), .int (nI (xof xmit L l + 0))]) rfl ?_
    refine co_in hs6 hX hM hok hn hlen hT hl' hl16 ?_ (xmit (L.getD l (0, 0, []))).length 0 (by omega)
    exact wp_iinc dX12_countedOf_83 rfl (nI_1 _) ⟨Nat.le_of_ble_eq_true rfl, Or.inr rfl⟩ rfl (wp_goto dX12_countedOf_86 rfl (ih (l + 1) _ (by omega)))
theorem m_countedOf {n s : Nat} {t : Nat → Nat} {L : List xLn} {v : xTg} (d : Nat) (b : Bool) (hs6 : s < 6) {S : xS} (hX : XC S) (hM : xRM s S n t L) (hok : xRok t n L) (hn : n ≤ 240) (hlen : (L.flatMap xmit).length ≤ 121) (hT : xTgM S v) (hl16 : L.length ≤ 16) : xcall false (d + 3) j_X12_countedOf [.ref 187, .int (nI s), .int (xB b)] S (some (.int (nI (xtot v t b L)))) S := by
  refine xcall_intro (ls := [.ref 187, .int (nI s), .int (xB b), .float 0, .float 0, .float 0]) q_X12_countedOf (by decide) rfl (Nat.le_of_ble_eq_true rfl) rfl ?_
  exact wp_iconst (v := nI 0) dX12_countedOf_0 rfl (wp_istore_n dX12_countedOf_1 ⟨Nat.le_of_ble_eq_true rfl, Or.inr rfl⟩ rfl (wp_iconst (v := nI 0) dX12_countedOf_2 rfl (wp_istore dX12_countedOf_3 ⟨Nat.le_of_ble_eq_true rfl, Or.inr rfl⟩ rfl (co_out hs6 hX hM hok hn hlen hT hl16 L.length 0 _ (by omega)))))
theorem m_counted_no {sv bv : Int32} (d : Nat) {S : xS} (hX : XC S) (gn : xcall false (d + 1) j_X12_has [.ref 187, .int sv] (xSI S 187 0 (nI 0)) (some (.int (xB false))) (xSI S 187 0 (nI 0))) : xcall false (d + 2) j_X12_counted [.ref 187, .int sv, .int bv] S (some (.int (-1))) (xSI S 187 0 (nI 0)) := by
  refine xcall_intro (ls := [.ref 187, .int sv, .int bv]) q_X12_counted (by decide) rfl (Nat.le_of_ble_eq_true rfl) rfl ?_
  refine wp_aload_n dX12_counted_0 rfl rfl (wp_iconst (v := nI 0) dX12_counted_1 rfl (p11_1 dX12_counted_2 (xsh hX sh_187) (wp_aload_n dX12_counted_5 rfl rfl (wp_iload_n dX12_counted_6 rfl (wp_iv2 dX12_counted_7 k11_231 q_X12_has (by decide) (xsh hX sh_187) (by decide) (Nat.le_of_ble_eq_true rfl) gn ?_)))))
  refine wb_if_eq dX12_counted_10 rfl (fun c10 => ?_) (fun c10 => absurd c10 (by decide))
  exact wp_iconst (v := -1) dX12_counted_22 rfl (wp_ireturn dX12_counted_23 rfl rfl ⟨rfl, rfl⟩)
theorem m_counted {n s : Nat} {t : Nat → Nat} {L : List xLn} {v : xTg} (d : Nat) (b : Bool) (hs6 : s < 6) {S : xS} (hX : XC S) (hM : xRM s (xSI S 187 0 (nI 0)) n t L) (hok : xRok t n L) (hn : n ≤ 240) (hlen : (L.flatMap xmit).length ≤ 121) (hT : xTgM (xSI S 187 0 (nI 0)) v) (hl16 : L.length ≤ 16) (gn : xcall false (d + 3) j_X12_has [.ref 187, .int (nI s)] (xSI S 187 0 (nI 0)) (some (.int (xB true))) (xSI S 187 0 (nI 0))) : xcall false (d + 4) j_X12_counted [.ref 187, .int (nI s), .int (xB b)] S (some (.int (nI (xtot v t b L)))) (xSI S 187 0 (nI 0)) := by
  have gc := m_countedOf (S := xSI S 187 0 (nI 0)) d b hs6 hX hM hok hn hlen hT hl16
  refine xcall_intro (ls := [.ref 187, .int (nI s), .int (xB b)]) q_X12_counted (by decide) rfl (Nat.le_of_ble_eq_true rfl) rfl ?_
  refine wp_aload_n dX12_counted_0 rfl rfl (wp_iconst (v := nI 0) dX12_counted_1 rfl (p11_1 dX12_counted_2 (xsh hX sh_187) (wp_aload_n dX12_counted_5 rfl rfl (wp_iload_n dX12_counted_6 rfl (wp_iv2 dX12_counted_7 k11_231 q_X12_has (by decide) (xsh hX sh_187) (by decide) (Nat.le_of_ble_eq_true rfl) gn ?_)))))
  refine wb_if_eq dX12_counted_10 rfl (fun c10 => absurd c10 (by decide)) (fun c10 => ?_)
  exact wp_aload_n dX12_counted_13 rfl rfl (wp_iload_n dX12_counted_14 rfl (wp_iload_n dX12_counted_15 rfl (wp_iv3 dX12_counted_16 k11_238 q_X12_countedOf (by decide) (xsh hX sh_187) (by decide) (Nat.le_of_ble_eq_true rfl) gc (wp_goto dX12_counted_19 rfl (wp_ireturn dX12_counted_23 rfl rfl ⟨rfl, rfl⟩)))))
