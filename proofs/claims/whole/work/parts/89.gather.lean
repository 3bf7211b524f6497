/-! the RING of the class is gathered; its small calls -/
def xgOf (P : Nat) (v : xYd) : xRg := (P, decide (v.1 1 = 1), decide (v.1 2 = 1), decide (v.1 4 = 1), v.1 3, v.1 5)
def xbts (v : xYd) : Bool := decide (v.1 0 = 1)
theorem xgOf_ok {P : Nat} {v : xYd} (h : xYok v) (h1 : 1 ≤ P) (h2 : P ≤ 12) : xgo (xgOf P v) := by
  refine ⟨h1, h2, ?_, ?_⟩
  · have := h.1 3 (by decide)
    exact this
  · have : v.1 5 ≤ 9 := h.1 5 (by decide)
    show v.1 5 < 2 ^ 30
    omega
theorem c_rhymeAt {i : Nat} {y yb yc : Nat} {v : xYd} (d : Nat) (hyc : xYdC y yb yc) {S : xS} (hX : XC S) (hY : xYdV y yb yc S v) (hi : i < v.2.length) : xcall false d j_X10_rhymeAt [.ref y, .int (nI i)] S (some (.int (nI (v.2.getD i 0)))) S := by
  obtain ⟨hy, hyb, hyc2, ryb, ryc⟩ := hyc.sh hX
  have k2 := hY.2.1
  have h4 := hY.2.2.2.2.2.2.1
  have e := hY.2.2.1 i hi
  refine xcall_intro (ls := [.ref y, .int (nI i)]) q_X10_rhymeAt (by decide) rfl (Nat.le_of_ble_eq_true rfl) rfl ?_
  refine wp_iload_n dX10_rhymeAt_0 rfl ?_
  refine wn_if_lt dX10_rhymeAt_1 rfl (by omega) ?_
  refine wp_iload_n dX10_rhymeAt_4 rfl (wp_aload_n dX10_rhymeAt_5 rfl rfl (gv9_27 dX10_rhymeAt_6 hy k2 ?_))
  refine wn_icmp_ge dX10_rhymeAt_9 rfl (by omega) (by omega) (fun c9 => absurd c9 (by omega)) (fun c9 => ?_)
  refine wp_iload_n dX10_rhymeAt_12 rfl (wp_aload_n dX10_rhymeAt_13 rfl rfl (g9_15 dX10_rhymeAt_14 hy ryc (wp_alen (v := nI 4) dX10_rhymeAt_17 hyc2 ⟨by decide, by decide⟩ rfl ?_)))
  refine wn_icmp_ge dX10_rhymeAt_18 rfl (by omega) (by omega) (fun c18 => absurd c18 (by omega)) (fun c18 => ?_)
  exact wp_aload_n dX10_rhymeAt_21 rfl rfl (g9_15 dX10_rhymeAt_22 hy ryc (wp_iload_n dX10_rhymeAt_25 rfl (wn_iaload dX10_rhymeAt_26 hyc2 rfl (by omega) (by decide) e (wp_goto dX10_rhymeAt_27 rfl (wp_ireturn dX10_rhymeAt_31 rfl rfl ⟨rfl, rfl⟩)))))
theorem c_hasFists {y yb yc : Nat} {v : xYd} (d : Nat) (hyc : xYdC y yb yc) {S : xS} (hX : XC S) (hY : xYdV y yb yc S v) : xcall false d j_X10_hasFists [.ref y] S (some (.int (xB (decide (v.1 1 = 1))))) S := by
  obtain ⟨hy, hyb, hyc2, ryb, ryc⟩ := hyc.sh hX
  have e := hY.1 1 (by decide)
  have hb := hY.2.2.2.1 1 (by decide)
  have hb2 : v.1 1 ≤ 1 := hb
  rcases Decidable.em (v.1 1 = 1) with w | w
  · rw [decide_eq_true w]
    refine xcall_intro (ls := [.ref y]) q_X10_hasFists (by decide) rfl (Nat.le_of_ble_eq_true rfl) rfl ?_
    refine wp_aload_n dX10_hasFists_0 rfl rfl (g9_11 dX10_hasFists_1 hy ryb (wp_iconst (v := nI 1) dX10_hasFists_4 rfl (wn_iaload dX10_hasFists_5 hyb rfl (by omega) (by decide) e (wp_iconst (v := nI 1) dX10_hasFists_6 rfl ?_))))
    refine wn_icmp_ne dX10_hasFists_7 rfl (by omega) (by omega) (fun c7 => absurd c7 (by omega)) (fun c7 => ?_)
    exact wp_iconst (v := nI 1) dX10_hasFists_10 rfl (wp_goto dX10_hasFists_11 rfl (wb_ret dX10_hasFists_15 rfl rfl ⟨rfl, rfl⟩))
  · rw [decide_eq_false w]
    refine xcall_intro (ls := [.ref y]) q_X10_hasFists (by decide) rfl (Nat.le_of_ble_eq_true rfl) rfl ?_
    refine wp_aload_n dX10_hasFists_0 rfl rfl (g9_11 dX10_hasFists_1 hy ryb (wp_iconst (v := nI 1) dX10_hasFists_4 rfl (wn_iaload dX10_hasFists_5 hyb rfl (by omega) (by decide) e (wp_iconst (v := nI 1) dX10_hasFists_6 rfl ?_))))
    refine wn_icmp_ne dX10_hasFists_7 rfl (by omega) (by omega) (fun c7 => ?_) (fun c7 => absurd c7 (by omega))
    exact wp_iconst (v := nI 0) dX10_hasFists_14 rfl (wb_ret dX10_hasFists_15 rfl rfl ⟨rfl, rfl⟩)
theorem c_countsBeats {y yb yc : Nat} {v : xYd} (d : Nat) (hyc : xYdC y yb yc) {S : xS} (hX : XC S) (hY : xYdV y yb yc S v) : xcall false d j_X10_countsBeats [.ref y] S (some (.int (xB (decide (v.1 0 = 1))))) S := by
  obtain ⟨hy, hyb, hyc2, ryb, ryc⟩ := hyc.sh hX
  have e := hY.1 0 (by decide)
  have hb := hY.2.2.2.1 0 (by decide)
  have hb2 : v.1 0 ≤ 1 := hb
  rcases Decidable.em (v.1 0 = 1) with w | w
  · rw [decide_eq_true w]
    refine xcall_intro (ls := [.ref y]) q_X10_countsBeats (by decide) rfl (Nat.le_of_ble_eq_true rfl) rfl ?_
    refine wp_aload_n dX10_countsBeats_0 rfl rfl (g9_11 dX10_countsBeats_1 hy ryb (wp_iconst (v := nI 0) dX10_countsBeats_4 rfl (wn_iaload dX10_countsBeats_5 hyb rfl (by omega) (by decide) e (wp_iconst (v := nI 1) dX10_countsBeats_6 rfl ?_))))
    refine wn_icmp_ne dX10_countsBeats_7 rfl (by omega) (by omega) (fun c7 => absurd c7 (by omega)) (fun c7 => ?_)
    exact wp_iconst (v := nI 1) dX10_countsBeats_10 rfl (wp_goto dX10_countsBeats_11 rfl (wb_ret dX10_countsBeats_15 rfl rfl ⟨rfl, rfl⟩))
  · rw [decide_eq_false w]
    refine xcall_intro (ls := [.ref y]) q_X10_countsBeats (by decide) rfl (Nat.le_of_ble_eq_true rfl) rfl ?_
    refine wp_aload_n dX10_countsBeats_0 rfl rfl (g9_11 dX10_countsBeats_1 hy ryb (wp_iconst (v := nI 0) dX10_countsBeats_4 rfl (wn_iaload dX10_countsBeats_5 hyb rfl (by omega) (by decide) e (wp_iconst (v := nI 1) dX10_countsBeats_6 rfl ?_))))
    refine wn_icmp_ne dX10_countsBeats_7 rfl (by omega) (by omega) (fun c7 => ?_) (fun c7 => absurd c7 (by omega))
    exact wp_iconst (v := nI 0) dX10_countsBeats_14 rfl (wb_ret dX10_countsBeats_15 rfl rfl ⟨rfl, rfl⟩)
theorem c_hitStays {y yb yc : Nat} {v : xYd} (d : Nat) (hyc : xYdC y yb yc) {S : xS} (hX : XC S) (hY : xYdV y yb yc S v) : xcall false d j_X10_hitStays [.ref y] S (some (.int (xB (decide (v.1 2 = 1))))) S := by
  obtain ⟨hy, hyb, hyc2, ryb, ryc⟩ := hyc.sh hX
  have e := hY.1 2 (by decide)
  have hb := hY.2.2.2.1 2 (by decide)
  have hb2 : v.1 2 ≤ 1 := hb
  rcases Decidable.em (v.1 2 = 1) with w | w
  · rw [decide_eq_true w]
    refine xcall_intro (ls := [.ref y]) q_X10_hitStays (by decide) rfl (Nat.le_of_ble_eq_true rfl) rfl ?_
    refine wp_aload_n dX10_hitStays_0 rfl rfl (g9_11 dX10_hitStays_1 hy ryb (wp_iconst (v := nI 2) dX10_hitStays_4 rfl (wn_iaload dX10_hitStays_5 hyb rfl (by omega) (by decide) e (wp_iconst (v := nI 1) dX10_hitStays_6 rfl ?_))))
    refine wn_icmp_ne dX10_hitStays_7 rfl (by omega) (by omega) (fun c7 => absurd c7 (by omega)) (fun c7 => ?_)
    exact wp_iconst (v := nI 1) dX10_hitStays_10 rfl (wp_goto dX10_hitStays_11 rfl (wb_ret dX10_hitStays_15 rfl rfl ⟨rfl, rfl⟩))
  · rw [decide_eq_false w]
    refine xcall_intro (ls := [.ref y]) q_X10_hitStays (by decide) rfl (Nat.le_of_ble_eq_true rfl) rfl ?_
    refine wp_aload_n dX10_hitStays_0 rfl rfl (g9_11 dX10_hitStays_1 hy ryb (wp_iconst (v := nI 2) dX10_hitStays_4 rfl (wn_iaload dX10_hitStays_5 hyb rfl (by omega) (by decide) e (wp_iconst (v := nI 1) dX10_hitStays_6 rfl ?_))))
    refine wn_icmp_ne dX10_hitStays_7 rfl (by omega) (by omega) (fun c7 => ?_) (fun c7 => absurd c7 (by omega))
    exact wp_iconst (v := nI 0) dX10_hitStays_14 rfl (wb_ret dX10_hitStays_15 rfl rfl ⟨rfl, rfl⟩)
theorem c_turnsAlways {y yb yc : Nat} {v : xYd} (d : Nat) (hyc : xYdC y yb yc) {S : xS} (hX : XC S) (hY : xYdV y yb yc S v) : xcall false d j_X10_turnsAlways [.ref y] S (some (.int (xB (decide (v.1 4 = 1))))) S := by
  obtain ⟨hy, hyb, hyc2, ryb, ryc⟩ := hyc.sh hX
  have e := hY.1 4 (by decide)
  have hb := hY.2.2.2.1 4 (by decide)
  have hb2 : v.1 4 ≤ 1 := hb
  rcases Decidable.em (v.1 4 = 1) with w | w
  · rw [decide_eq_true w]
    refine xcall_intro (ls := [.ref y]) q_X10_turnsAlways (by decide) rfl (Nat.le_of_ble_eq_true rfl) rfl ?_
    refine wp_aload_n dX10_turnsAlways_0 rfl rfl (g9_11 dX10_turnsAlways_1 hy ryb (wp_iconst (v := nI 4) dX10_turnsAlways_4 rfl (wn_iaload dX10_turnsAlways_5 hyb rfl (by omega) (by decide) e (wp_iconst (v := nI 1) dX10_turnsAlways_6 rfl ?_))))
    refine wn_icmp_ne dX10_turnsAlways_7 rfl (by omega) (by omega) (fun c7 => absurd c7 (by omega)) (fun c7 => ?_)
    exact wp_iconst (v := nI 1) dX10_turnsAlways_10 rfl (wp_goto dX10_turnsAlways_11 rfl (wb_ret dX10_turnsAlways_15 rfl rfl ⟨rfl, rfl⟩))
  · rw [decide_eq_false w]
    refine xcall_intro (ls := [.ref y]) q_X10_turnsAlways (by decide) rfl (Nat.le_of_ble_eq_true rfl) rfl ?_
    refine wp_aload_n dX10_turnsAlways_0 rfl rfl (g9_11 dX10_turnsAlways_1 hy ryb (wp_iconst (v := nI 4) dX10_turnsAlways_4 rfl (wn_iaload dX10_turnsAlways_5 hyb rfl (by omega) (by decide) e (wp_iconst (v := nI 1) dX10_turnsAlways_6 rfl ?_))))
    refine wn_icmp_ne dX10_turnsAlways_7 rfl (by omega) (by omega) (fun c7 => ?_) (fun c7 => absurd c7 (by omega))
    exact wp_iconst (v := nI 0) dX10_turnsAlways_14 rfl (wb_ret dX10_turnsAlways_15 rfl rfl ⟨rfl, rfl⟩)
theorem c_wantsLeft {y yb yc : Nat} {v : xYd} (d : Nat) (hyc : xYdC y yb yc) {S : xS} (hX : XC S) (hY : xYdV y yb yc S v) : xcall false d j_X10_wantsLeft [.ref y] S (some (.int (xB (decide (v.1 7 = 0))))) S := by
  obtain ⟨hy, hyb, hyc2, ryb, ryc⟩ := hyc.sh hX
  have e := hY.1 7 (by decide)
  have hb2 : v.1 7 ≤ 1 := hY.2.2.2.1 7 (by decide)
  rcases Decidable.em (v.1 7 = 0) with w | w
  · rw [decide_eq_true w]
    refine xcall_intro (ls := [.ref y]) q_X10_wantsLeft (by decide) rfl (Nat.le_of_ble_eq_true rfl) rfl ?_
    refine wp_aload_n dX10_wantsLeft_0 rfl rfl (g9_11 dX10_wantsLeft_1 hy ryb (wp_bipush (v := nI 7) dX10_wantsLeft_4 rfl (wn_iaload dX10_wantsLeft_6 hyb rfl (by omega) (by decide) e ?_)))
    refine wn_if_ne dX10_wantsLeft_7 rfl (by omega) (fun c7 => absurd c7 (by omega)) (fun c7 => ?_)
    exact wp_iconst (v := nI 1) dX10_wantsLeft_10 rfl (wp_goto dX10_wantsLeft_11 rfl (wb_ret dX10_wantsLeft_15 rfl rfl ⟨rfl, rfl⟩))
  · rw [decide_eq_false w]
    refine xcall_intro (ls := [.ref y]) q_X10_wantsLeft (by decide) rfl (Nat.le_of_ble_eq_true rfl) rfl ?_
    refine wp_aload_n dX10_wantsLeft_0 rfl rfl (g9_11 dX10_wantsLeft_1 hy ryb (wp_bipush (v := nI 7) dX10_wantsLeft_4 rfl (wn_iaload dX10_wantsLeft_6 hyb rfl (by omega) (by decide) e ?_)))
    refine wn_if_ne dX10_wantsLeft_7 rfl (by omega) (fun c7 => ?_) (fun c7 => absurd c7 (by omega))
    exact wp_iconst (v := nI 0) dX10_wantsLeft_14 rfl (wb_ret dX10_wantsLeft_15 rfl rfl ⟨rfl, rfl⟩)
theorem c_leftMost {y yb yc : Nat} {v : xYd} (d : Nat) (hyc : xYdC y yb yc) {S : xS} (hX : XC S) (hY : xYdV y yb yc S v) : xcall false d j_X10_leftMost [.ref y] S (some (.int (nI (v.1 5)))) S := by
  obtain ⟨hy, hyb, hyc2, ryb, ryc⟩ := hyc.sh hX
  have e := hY.1 5 (by decide)
  refine xcall_intro (ls := [.ref y]) q_X10_leftMost (by decide) rfl (Nat.le_of_ble_eq_true rfl) rfl ?_
  exact wp_aload_n dX10_leftMost_0 rfl rfl (g9_11 dX10_leftMost_1 hy ryb (wp_iconst (v := nI 5) dX10_leftMost_4 rfl (wn_iaload dX10_leftMost_5 hyb rfl (by omega) (by decide) e (wp_ireturn dX10_leftMost_6 rfl rfl ⟨rfl, rfl⟩))))
theorem c_nextFrom {y yb yc : Nat} {v : xYd} (d : Nat) (hyc : xYdC y yb yc) {S : xS} (hX : XC S) (hY : xYdV y yb yc S v) : xcall false d j_X10_nextFrom [.ref y] S (some (.int (nI (v.1 3)))) S := by
  obtain ⟨hy, hyb, hyc2, ryb, ryc⟩ := hyc.sh hX
  have e := hY.1 3 (by decide)
  refine xcall_intro (ls := [.ref y]) q_X10_nextFrom (by decide) rfl (Nat.le_of_ble_eq_true rfl) rfl ?_
  exact wp_aload_n dX10_nextFrom_0 rfl rfl (g9_11 dX10_nextFrom_1 hy ryb (wp_iconst (v := nI 3) dX10_nextFrom_4 rfl (wn_iaload dX10_nextFrom_5 hyb rfl (by omega) (by decide) e (wp_ireturn dX10_nextFrom_6 rfl rfl ⟨rfl, rfl⟩))))
theorem c_wBeatsOf {a b c e : Nat} {l : List (List Nat)} {v : xTg} {p : Nat} (d : Nat) (hw : xWo a b c e) {S : xS} (hX : XC S) (hV : xWV a b c S l) (hB : xWB e S v l) (hp : p < l.length) : xcall false d j_X9_beatsOf [.ref a, .int (nI p)] S (some (.int (nI (xwB v (l.getD p []))))) S := by
  obtain ⟨ha, hb, hc, he, rb, rc, re⟩ := hw.sh hX
  have k3 := hV.1
  have h12 := hV.2.2.2.2
  have ev := hB p hp
  refine xcall_intro (ls := [.ref a, .int (nI p)]) q_X9_beatsOf (by decide) rfl (Nat.le_of_ble_eq_true rfl) rfl ?_
  refine wp_iload_n dX9_beatsOf_0 rfl ?_
  refine wn_if_lt dX9_beatsOf_1 rfl (by omega) ?_
  refine wp_iload_n dX9_beatsOf_4 rfl (wp_aload_n dX9_beatsOf_5 rfl rfl (gv8_22 dX9_beatsOf_6 ha k3 ?_))
  refine wn_icmp_ge dX9_beatsOf_9 rfl (by omega) (by omega) (fun c9 => absurd c9 (by omega)) (fun c9 => ?_)
  refine wp_iload_n dX9_beatsOf_12 rfl (wp_aload_n dX9_beatsOf_13 rfl rfl (g8_19 dX9_beatsOf_14 ha re (wp_alen (v := nI 12) dX9_beatsOf_17 he ⟨by decide, by decide⟩ rfl ?_)))
  refine wn_icmp_ge dX9_beatsOf_18 rfl (by omega) (by omega) (fun c18 => absurd c18 (by omega)) (fun c18 => ?_)
  exact wp_aload_n dX9_beatsOf_21 rfl rfl (g8_19 dX9_beatsOf_22 ha re (wp_iload_n dX9_beatsOf_25 rfl (wn_iaload dX9_beatsOf_26 he rfl (by omega) (by decide) ev (wp_goto dX9_beatsOf_27 rfl (wp_ireturn dX9_beatsOf_31 rfl rfl ⟨rfl, rfl⟩)))))
theorem c_wLettersOf {a b c e : Nat} {l : List (List Nat)} {p : Nat} (d : Nat) (hw : xWo a b c e) {S : xS} (hX : XC S) (hV : xWV a b c S l) (hp : p < l.length) : xcall false d j_X9_lettersOf [.ref a, .int (nI p)] S (some (.int (nI (l.getD p []).length))) S := by
  obtain ⟨ha, hb, hc, he, rb, rc, re⟩ := hw.sh hX
  have k3 := hV.1
  have h12 := hV.2.2.2.2
  have v1 := hV.2.1.1 p (by omega)
  have v2 := hV.2.1.1 (p + 1) (by omega)
  have ex : xoff l (p + 1) = xoff l p + (l.getD p []).length := rfl
  have es : nI (xoff l (p + 1)) - nI (xoff l p) = nI (l.getD p []).length := (pk_sub (by omega)).trans (congrArg nI (by omega))
  refine xcall_intro (ls := [.ref a, .int (nI p)]) q_X9_lettersOf (by decide) rfl (Nat.le_of_ble_eq_true rfl) rfl ?_
  refine wp_iload_n dX9_lettersOf_0 rfl ?_
  refine wn_if_lt dX9_lettersOf_1 rfl (by omega) ?_
  refine wp_iload_n dX9_lettersOf_4 rfl (wp_aload_n dX9_lettersOf_5 rfl rfl (gv8_22 dX9_lettersOf_6 ha k3 ?_))
  refine wn_icmp_ge dX9_lettersOf_9 rfl (by omega) (by omega) (fun c9 => absurd c9 (by omega)) (fun c9 => ?_)
  refine wp_iload_n dX9_lettersOf_12 rfl (wp_iconst (v := nI 1) dX9_lettersOf_13 rfl (wv_iadd dX9_lettersOf_14 (nI_add _ _) (wp_aload_n dX9_lettersOf_15 rfl rfl (g8_15 dX9_lettersOf_16 ha rc (wp_alen (v := nI 13) dX9_lettersOf_19 hc ⟨by decide, by decide⟩ rfl ?_)))))
  refine wn_icmp_ge dX9_lettersOf_20 rfl (by omega) (by omega) (fun c20 => absurd c20 (by omega)) (fun c20 => ?_)
  exact wp_aload_n dX9_lettersOf_23 rfl rfl (g8_15 dX9_lettersOf_24 ha rc (wp_iload_n dX9_lettersOf_27 rfl (wp_iconst (v := nI 1) dX9_lettersOf_28 rfl (wv_iadd dX9_lettersOf_29 (nI_add _ _) (wn_iaload dX9_lettersOf_30 hc rfl (by omega) (by decide) v2 (wp_aload_n dX9_lettersOf_31 rfl rfl (g8_15 dX9_lettersOf_32 ha rc (wp_iload_n dX9_lettersOf_35 rfl (wn_iaload dX9_lettersOf_36 hc rfl (by omega) (by decide) v1 (wv_isub dX9_lettersOf_37 es (wp_goto dX9_lettersOf_38 rfl (wp_ireturn dX9_lettersOf_42 rfl rfl ⟨rfl, rfl⟩))))))))))))
theorem ga_1 {y a2 : Nat} {a b c e : Nat} {l : List (List Nat)} {v : xTg} {d : Nat} (hw : xWo a b c e) {Q : Option Value → xS → Prop} : ∀ (j i : Nat) (S : xS), i + j = l.length → XC S → xWV a b c S l → xWB e S v l → S.2.1 74 10 = nI l.length → (∀ q, q < i → S.2.1 77 q = nI (xwB v (l.getD q []))) → (∀ S' y4, xFl (fun i _ => i = 77) S S' → (∀ q, q < l.length → S'.2.1 77 q = nI (xwB v (l.getD q []))) → Wp false (d + 1) 4 cX4_gather none false 47 [.ref 74, .ref y, .ref a, .ref a2, y4] [] S' Q) → Wp false (d + 1) 4 cX4_gather none false 19 [.ref 74, .ref y, .ref a, .ref a2, .int (nI i)] [] S Q := by
  have hwu : a + 3 < 74 ∧ b < 74 ∧ c < 74 ∧ e < 74 := by rcases hw with h | h | h <;> omega
  intro j
  induction j with
  | zero =>
    intro i S hi hX hV hB kp h K
    have h12 := hV.2.2.2.2
    have hii : i = l.length := by omega
    subst hii
    refine wp_iload dX4_gather_19 rfl (wp_aload_n dX4_gather_21 rfl rfl (gv4_47 dX4_gather_22 (xsh hX sh_74) kp ?_))
    refine wn_icmp_ge dX4_gather_25 rfl (by omega) (by omega) (fun c25 => ?_) (fun c25 => absurd c25 (by omega))
    exact K S _ (xFl.rf S) h
  | succ j ih =>
    intro i S hi hX hV hB kp h K
    have h12 := hV.2.2.2.2
    have ha := (hw.sh hX).1
    have gb := c_wBeatsOf (d + 0) hw hX hV hB (show i < l.length by omega)
    have F1 : xFl (fun i' q => i' = 77 ∧ q = i) S (xSI S 77 i (nI (xwB v (l.getD i [])))) := (xFl.rf S).SI ⟨rfl, rfl⟩
    have ih2 := ih (i + 1) _ (by omega) (F1.XC hX) (hV.fm (F1.m (R := fun _ _ => False)) (fun i k h => by omega)) (hB.fm (F1.m (R := fun _ _ => False)) (fun k h => by omega)) (F1.i kp (by omega)) (fun q hq => by
      rcases Nat.lt_or_ge q i with w | w
      · exact F1.i (h q w) (by omega)
      · rw [show q = i by omega]; exact xI_same _ _ _ _) (fun S' y4 f h' => K S' y4 ((F1.mono (fun i k h => h.1)).tt f) h')
    refine wp_iload dX4_gather_19 rfl (wp_aload_n dX4_gather_21 rfl rfl (gv4_47 dX4_gather_22 (xsh hX sh_74) kp ?_))
    refine wn_icmp_ge dX4_gather_25 rfl (by omega) (by omega) (fun c25 => absurd c25 (by omega)) (fun c25 => ?_)
    exact wp_aload_n dX4_gather_28 rfl rfl (g4_27 dX4_gather_29 (xsh hX sh_74) (xrr hX r74_3) (wp_iload dX4_gather_32 rfl (wp_aload_n dX4_gather_34 rfl rfl (wp_iload dX4_gather_35 rfl (wp_iv2 dX4_gather_37 k4_71 q_X9_beatsOf (by decide) ha (by decide) (Nat.le_of_ble_eq_true rfl) gb (wn_iastore dX4_gather_40 (xsh hX sh_77) rfl (by omega) (by decide) (wp_iinc dX4_gather_41 rfl (nI_1 _) ⟨Nat.le_of_ble_eq_true rfl, Or.inr rfl⟩ rfl (wp_goto dX4_gather_44 rfl ih2))))))))
theorem ga_2 {y a2 : Nat} {a b c e : Nat} {l : List (List Nat)} {d : Nat} (hw : xWo a b c e) (h5 : l.length ≤ 5) {Q : Option Value → xS → Prop} : ∀ (j i : Nat) (S : xS), i + j = l.length → XC S → xWV a b c S l → S.2.1 74 5 = nI l.length → (∀ q, q < i → S.2.1 78 q = nI (l.getD q []).length) → (∀ S' y4, xFl (fun i _ => i = 78) S S' → (∀ q, q < l.length → S'.2.1 78 q = nI (l.getD q []).length) → Wp false (d + 1) 4 cX4_gather none false 94 [.ref 74, .ref y, .ref a2, .ref a, y4] [] S' Q) → Wp false (d + 1) 4 cX4_gather none false 66 [.ref 74, .ref y, .ref a2, .ref a, .int (nI i)] [] S Q := by
  have hwu : a + 3 < 74 ∧ b < 74 ∧ c < 74 ∧ e < 74 := by rcases hw with h | h | h <;> omega
  intro j
  induction j with
  | zero =>
    intro i S hi hX hV kp h K
    have hii : i = l.length := by omega
    subst hii
    refine wp_iload dX4_gather_66 rfl (wp_aload_n dX4_gather_68 rfl rfl (gv4_33 dX4_gather_69 (xsh hX sh_74) kp ?_))
    refine wn_icmp_ge dX4_gather_72 rfl (by omega) (by omega) (fun c72 => ?_) (fun c72 => absurd c72 (by omega))
    exact K S _ (xFl.rf S) h
  | succ j ih =>
    intro i S hi hX hV kp h K
    have ha := (hw.sh hX).1
    have gb := c_wLettersOf (d + 0) hw hX hV (show i < l.length by omega)
    have F1 : xFl (fun i' q => i' = 78 ∧ q = i) S (xSI S 78 i (nI (l.getD i []).length)) := (xFl.rf S).SI ⟨rfl, rfl⟩
    have ih2 := ih (i + 1) _ (by omega) (F1.XC hX) (hV.fm (F1.m (R := fun _ _ => False)) (fun i k h => by omega)) (F1.i kp (by omega)) (fun q hq => by
      rcases Nat.lt_or_ge q i with w | w
      · exact F1.i (h q w) (by omega)
      · rw [show q = i by omega]; exact xI_same _ _ _ _) (fun S' y4 f h' => K S' y4 ((F1.mono (fun i k h => h.1)).tt f) h')
    refine wp_iload dX4_gather_66 rfl (wp_aload_n dX4_gather_68 rfl rfl (gv4_33 dX4_gather_69 (xsh hX sh_74) kp ?_))
    refine wn_icmp_ge dX4_gather_72 rfl (by omega) (by omega) (fun c72 => absurd c72 (by omega)) (fun c72 => ?_)
    exact wp_aload_n dX4_gather_75 rfl rfl (g4_30 dX4_gather_76 (xsh hX sh_74) (xrr hX r74_4) (wp_iload dX4_gather_79 rfl (wp_aload_n dX4_gather_81 rfl rfl (wp_iload dX4_gather_82 rfl (wp_iv2 dX4_gather_84 k4_75 q_X9_lettersOf (by decide) ha (by decide) (Nat.le_of_ble_eq_true rfl) gb (wn_iastore dX4_gather_87 (xsh hX sh_78) rfl (by omega) (by decide) (wp_iinc dX4_gather_88 rfl (nI_1 _) ⟨Nat.le_of_ble_eq_true rfl, Or.inr rfl⟩ rfl (wp_goto dX4_gather_91 rfl ih2))))))))
theorem ga_3 {y yb yc a a2 : Nat} {v : xYd} {d : Nat} (hyc : xYdC y yb yc) {Q : Option Value → xS → Prop} : ∀ (j i : Nat) (S : xS), i + j = v.2.length → XC S → xYdV y yb yc S v → S.2.1 74 2 = nI v.2.length → (∀ q, q < i → S.2.1 76 q = nI (v.2.getD q 0)) → (∀ S' y4, xFl (fun i _ => i = 76) S S' → (∀ q, q < v.2.length → S'.2.1 76 q = nI (v.2.getD q 0)) → Wp false (d + 1) 4 cX4_gather none false 141 [.ref 74, .ref y, .ref a2, .ref a, y4] [] S' Q) → Wp false (d + 1) 4 cX4_gather none false 113 [.ref 74, .ref y, .ref a2, .ref a, .int (nI i)] [] S Q := by
  have hyu : y < 17 ∧ yb < 17 ∧ yc < 17 := by rcases hyc with h | h <;> omega
  intro j
  induction j with
  | zero =>
    intro i S hi hX hY kp h K
    have h4 := hY.2.2.2.2.2.2.1
    have hii : i = v.2.length := by omega
    subst hii
    refine wp_iload dX4_gather_113 rfl (wp_aload_n dX4_gather_115 rfl rfl (gv4_23 dX4_gather_116 (xsh hX sh_74) kp ?_))
    refine wn_icmp_ge dX4_gather_119 rfl (by omega) (by omega) (fun c119 => ?_) (fun c119 => absurd c119 (by omega))
    exact K S _ (xFl.rf S) h
  | succ j ih =>
    intro i S hi hX hY kp h K
    have h4 := hY.2.2.2.2.2.2.1
    have hy := (hyc.sh hX).1
    have gb := c_rhymeAt (d + 0) hyc hX hY (show i < v.2.length by omega)
    have F1 : xFl (fun i' q => i' = 76 ∧ q = i) S (xSI S 76 i (nI (v.2.getD i 0))) := (xFl.rf S).SI ⟨rfl, rfl⟩
    have ih2 := ih (i + 1) _ (by omega) (F1.XC hX) (hY.fr _ _ _ _ F1 (fun i k h => by omega)) (F1.i kp (by omega)) (fun q hq => by
      rcases Nat.lt_or_ge q i with w | w
      · exact F1.i (h q w) (by omega)
      · rw [show q = i by omega]; exact xI_same _ _ _ _) (fun S' y4 f h' => K S' y4 ((F1.mono (fun i k h => h.1)).tt f) h')
    refine wp_iload dX4_gather_113 rfl (wp_aload_n dX4_gather_115 rfl rfl (gv4_23 dX4_gather_116 (xsh hX sh_74) kp ?_))
    refine wn_icmp_ge dX4_gather_119 rfl (by omega) (by omega) (fun c119 => absurd c119 (by omega)) (fun c119 => ?_)
    exact wp_aload_n dX4_gather_122 rfl rfl (g4_19 dX4_gather_123 (xsh hX sh_74) (xrr hX r74_1) (wp_iload dX4_gather_126 rfl (wp_aload_n dX4_gather_128 rfl rfl (wp_iload dX4_gather_129 rfl (wp_iv2 dX4_gather_131 k4_81 q_X10_rhymeAt (by decide) hy (by decide) (Nat.le_of_ble_eq_true rfl) gb (wn_iastore dX4_gather_134 (xsh hX sh_76) rfl (by omega) (by decide) (wp_iinc dX4_gather_135 rfl (nI_1 _) ⟨Nat.le_of_ble_eq_true rfl, Or.inr rfl⟩ rfl (wp_goto dX4_gather_138 rfl ih2))))))))
