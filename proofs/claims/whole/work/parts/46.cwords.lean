/-! people and answers of the class -/
/-- the value of a class's words -/
def xWV (a b c : Nat) (S : xS) (l : List (List Nat)) : Prop := S.2.1 a 3 = nI l.length ∧ xWL b c S l ∧ xWl l ∧ 1 ≤ l.length ∧ l.length ≤ 12
/-- the BEATS of one word -/
def xwB (v : xTg) (x : List Nat) : Nat := xbeats v (fun k => x.getD k 0) x.length
def xWB (e : Nat) (S : xS) (v : xTg) (l : List (List Nat)) : Prop := ∀ i, i < l.length → S.2.1 e i = nI (xwB v (l.getD i []))
theorem xWV.fm {a b c : Nat} {S S' : xS} {P R : Nat → Nat → Prop} {l : List (List Nat)} (h : xWV a b c S l) (hf : xFm P R S S') (hn : ∀ i k, ((i = a ∧ k = 3) ∨ i = b ∨ i = c) → ¬ P i k) : xWV a b c S' l :=
  ⟨hf.i h.1 (hn _ _ (Or.inl ⟨rfl, rfl⟩)), ⟨fun q hq => hf.i (h.2.1.1 q hq) (hn _ _ (Or.inr (Or.inr rfl))), fun q k hq hk => hf.i (h.2.1.2 q k hq hk) (hn _ _ (Or.inr (Or.inl rfl)))⟩, h.2.2⟩
theorem xWB.fm {e : Nat} {S S' : xS} {P R : Nat → Nat → Prop} {v : xTg} {l : List (List Nat)} (h : xWB e S v l) (hf : xFm P R S S') (hn : ∀ k, ¬ P e k) : xWB e S' v l := fun i hi => hf.i (h i hi) (hn i)
theorem xTgV.fm {a b c : Nat} {S S' : xS} {P R : Nat → Nat → Prop} {v : xTg} (h : xTgV a b c S v) (hf : xFm P R S S') (hn : ∀ i k, (i = a ∨ i = b ∨ i = c) → ¬ P i k) : xTgV a b c S' v := by
  obtain ⟨h1, ⟨h2, h3, h4, h5⟩, ⟨h6, h7, h8, h9⟩, h10, h11⟩ := h
  exact ⟨⟨hf.i h1.1 (hn _ _ (Or.inl rfl)), h1.2⟩, ⟨hf.i h2 (hn _ _ (Or.inl rfl)), h3, fun i hi => hf.i (h4 i hi) (hn _ _ (Or.inr (Or.inl rfl))), h5⟩, ⟨hf.i h6 (hn _ _ (Or.inl rfl)), h7, fun i hi => hf.i (h8 i hi) (hn _ _ (Or.inr (Or.inr rfl))), h9⟩, hf.i h10 (hn _ _ (Or.inl rfl)), h11⟩
theorem xwB_b {v : xTg} {x : List Nat} : 1 ≤ xwB v x ∧ xwB v x ≤ x.length + 1 := xbeats_b _ _ _
theorem c_lettersOf {a b c e : Nat} {l : List (List Nat)} (d : Nat) (hw : xWo a b c e) {S : xS} (hX : XC S) (hV : xWV a b c S l) {i : Nat} (hi : i < l.length) : xcall false d j_X9_lettersOf [.ref a, .int (nI i)] S (some (.int (nI (l.getD i []).length))) S := by
  have hwu := hw
  unfold xWo at hwu
  obtain ⟨ha, hb, hc, he, rb, rc, re⟩ := hw.sh hX
  obtain ⟨v1, v2, v3, v4, v5⟩ := hV
  have h1 := v2.1 i (by omega)
  have h2 := v2.1 (i + 1) (by omega)
  have ho := xoff_le v3 (i + 1) (by omega)
  have e : xoff l (i + 1) = xoff l i + (l.getD i []).length := rfl
  refine xcall_intro (ls := [.ref a, .int (nI i)]) q_X9_lettersOf (by decide) rfl (Nat.le_of_ble_eq_true rfl) rfl ?_
  refine wp_iload_n dX9_lettersOf_0 rfl ?_
  refine wn_if_lt dX9_lettersOf_1 rfl (by omega) ?_
  refine wp_iload_n dX9_lettersOf_4 rfl (wp_aload_n dX9_lettersOf_5 rfl rfl (gv8_22 dX9_lettersOf_6 ha v1 ?_))
  refine wn_icmp_ge dX9_lettersOf_9 rfl (by omega) (by omega) (fun c9 => absurd c9 (by omega)) (fun c9 => ?_)
  refine wp_iload_n dX9_lettersOf_12 rfl (wp_iconst (v := nI 1) dX9_lettersOf_13 rfl (wv_iadd dX9_lettersOf_14 (nI_add _ _) (wp_aload_n dX9_lettersOf_15 rfl rfl (g8_15 dX9_lettersOf_16 ha rc (wp_alen dX9_lettersOf_19 hc ⟨by decide, by decide⟩ rfl ?_)))))
  refine wn_icmp_ge dX9_lettersOf_20 rfl (by omega) (by omega) (fun c20 => absurd c20 (by omega)) (fun c20 => ?_)
  exact wp_aload_n dX9_lettersOf_23 rfl rfl (g8_15 dX9_lettersOf_24 ha rc (wp_iload_n dX9_lettersOf_27 rfl (wp_iconst (v := nI 1) dX9_lettersOf_28 rfl (wv_iadd dX9_lettersOf_29 (nI_add _ _) (wn_iaload dX9_lettersOf_30 hc rfl (by omega) (by decide) h2 (wp_aload_n dX9_lettersOf_31 rfl rfl (g8_15 dX9_lettersOf_32 ha rc (wp_iload_n dX9_lettersOf_35 rfl (wn_iaload dX9_lettersOf_36 hc rfl (by omega) (by decide) h1 (wv_isub dX9_lettersOf_37 (pk_sub (by omega)) (wp_goto dX9_lettersOf_38 rfl (wp_ireturn dX9_lettersOf_42 rfl rfl ⟨xret (by omega), rfl⟩))))))))))))
theorem c_wbeatsOf {a b c e : Nat} {l : List (List Nat)} (d : Nat) (hw : xWo a b c e) {S : xS} (hX : XC S) (hV : xWV a b c S l) {v : xTg} (hB : xWB e S v l) {i : Nat} (hi : i < l.length) : xcall false d j_X9_beatsOf [.ref a, .int (nI i)] S (some (.int (nI (xwB v (l.getD i []))))) S := by
  have hwu := hw
  unfold xWo at hwu
  obtain ⟨ha, hb, hc, he, rb, rc, re⟩ := hw.sh hX
  obtain ⟨v1, v2, v3, v4, v5⟩ := hV
  have h1 := hB i hi
  refine xcall_intro (ls := [.ref a, .int (nI i)]) q_X9_beatsOf (by decide) rfl (Nat.le_of_ble_eq_true rfl) rfl ?_
  refine wp_iload_n dX9_beatsOf_0 rfl ?_
  refine wn_if_lt dX9_beatsOf_1 rfl (by omega) ?_
  refine wp_iload_n dX9_beatsOf_4 rfl (wp_aload_n dX9_beatsOf_5 rfl rfl (gv8_22 dX9_beatsOf_6 ha v1 ?_))
  refine wn_icmp_ge dX9_beatsOf_9 rfl (by omega) (by omega) (fun c9 => absurd c9 (by omega)) (fun c9 => ?_)
  refine wp_iload_n dX9_beatsOf_12 rfl (wp_aload_n dX9_beatsOf_13 rfl rfl (g8_19 dX9_beatsOf_14 ha re (wp_alen dX9_beatsOf_17 he ⟨by decide, by decide⟩ rfl ?_)))
  refine wn_icmp_ge dX9_beatsOf_18 rfl (by omega) (by omega) (fun c18 => absurd c18 (by omega)) (fun c18 => ?_)
  exact wp_aload_n dX9_beatsOf_21 rfl rfl (g8_19 dX9_beatsOf_22 ha re (wp_iload_n dX9_beatsOf_25 rfl (wn_iaload dX9_beatsOf_26 he rfl (by omega) (by decide) h1 (wp_goto dX9_beatsOf_27 rfl (wp_ireturn dX9_beatsOf_31 rfl rfl ⟨rfl, rfl⟩)))))
theorem wm_loop {a b c e ta tb tc : Nat} {l : List (List Nat)} {v : xTg} (d : Nat) (hw : xWo a b c e) (htg : xTgC ta tb tc) : ∀ (j i : Nat) (S : xS), i + j = l.length → XC S → xWV a b c S l → xTgV ta tb tc S v → (∀ k, k < i → S.2.1 e k = nI (xwB v (l.getD k []))) → Wp false (d + 3) 8 cX9_measure none false 2 [.ref a, .ref ta, .int (nI i)] [] S (fun r S' => r = none ∧ xFl (fun i _ => i = e) S S' ∧ xWB e S' v l) := by
  intro j
  induction j with
  | zero =>
    intro i S hi hX hV hT h
    have hii : i = l.length := by omega
    subst hii
    have hwu := hw
    unfold xWo at hwu
    obtain ⟨ha, hb, hc, he, rb, rc, re⟩ := hw.sh hX
    obtain ⟨v1, v2, v3, v4, v5⟩ := hV
    refine wp_iload_n dX9_measure_2 rfl (wp_aload_n dX9_measure_3 rfl rfl (gv8_22 dX9_measure_4 ha v1 ?_))
    refine wn_icmp_ge dX9_measure_7 rfl (by omega) (by omega) (fun c7 => ?_) (fun c7 => absurd c7 (by omega))
    exact wp_return dX9_measure_50 rfl ⟨rfl, xFl.rf S, h⟩
  | succ j ih =>
    intro i S hi hX hV hT h
    have hV0 := hV
    have htu := htg
    unfold xTgC at htu
    have hwu := hw
    unfold xWo at hwu
    obtain ⟨ha, hb, hc, he, rb, rc, re⟩ := hw.sh hX
    obtain ⟨v1, v2, v3, v4, v5⟩ := hV
    obtain ⟨hta, _, _, _, _⟩ := htg.sh hX
    have h1 := v2.1 i (by omega)
    have ho := xoff_le v3 (i + 1) (by omega)
    have e1 : xoff l (i + 1) = xoff l i + (l.getD i []).length := rfl
    obtain ⟨g1, g2, g3⟩ := xWl_get v3 (q := i) (by omega)
    have gl := c_lettersOf (d + 2) hw hX hV0 (i := i) (by omega)
    have gb := c_beatsIn (x := b) (nx := 144) (s := xoff l i) (n := (l.getD i []).length) (w := fun k => (l.getD i []).getD k 0) d htg hX hT hb (by decide) (by omega) g2 (fun k hk => ⟨g3 k hk, v2.2 i k (by omega) hk⟩)
    have F1 : xFl (fun i _ => i = e) S (xSI S e i (nI (xwB v (l.getD i [])))) := (xFl.rf S).SI rfl
    refine wp_iload_n dX9_measure_2 rfl (wp_aload_n dX9_measure_3 rfl rfl (gv8_22 dX9_measure_4 ha v1 ?_))
    refine wn_icmp_ge dX9_measure_7 rfl (by omega) (by omega) (fun c7 => absurd c7 (by omega)) (fun c7 => ?_)
    refine wp_iload_n dX9_measure_10 rfl (wp_aload_n dX9_measure_11 rfl rfl (g8_19 dX9_measure_12 ha re (wp_alen dX9_measure_15 he ⟨by decide, by decide⟩ rfl ?_)))
    refine wn_icmp_ge dX9_measure_16 rfl (by omega) (by omega) (fun c16 => absurd c16 (by omega)) (fun c16 => ?_)
    refine wp_aload_n dX9_measure_19 rfl rfl (g8_19 dX9_measure_20 ha re (wp_iload_n dX9_measure_23 rfl (wp_aload_n dX9_measure_24 rfl rfl (wp_aload_n dX9_measure_25 rfl rfl (g8_9 dX9_measure_26 ha rb (wp_aload_n dX9_measure_29 rfl rfl (g8_15 dX9_measure_30 ha rc (wp_iload_n dX9_measure_33 rfl (wn_iaload dX9_measure_34 hc rfl (by omega) (by decide) h1 (wp_aload_n dX9_measure_35 rfl rfl (wp_iload_n dX9_measure_36 rfl (wp_iv2 dX9_measure_37 k8_30 q_X9_lettersOf (by decide) ha (by decide) (Nat.le_of_ble_eq_true rfl) gl (wp_iv4 dX9_measure_40 k8_34 q_X8_beatsIn (by decide) hta (by decide) (Nat.le_of_ble_eq_true rfl) gb (wn_iastore dX9_measure_43 he rfl (by omega) (by decide) (wp_iinc dX9_measure_44 rfl (nI_1 _) ⟨Nat.le_of_ble_eq_true rfl, Or.inr rfl⟩ rfl (wp_goto dX9_measure_47 rfl ?_))))))))))))))))
    refine (ih (i + 1) (xSI S e i (nI (xwB v (l.getD i [])))) (by omega) (F1.XC hX) (hV0.fm (F1.m (R := fun _ _ => False)) (fun i k h => by omega)) (hT.fr _ _ _ _ F1 (fun i k h => by omega)) (fun k hk => ?_)).mono ?_
    · rcases Nat.lt_or_ge k i with q | q
      · exact xi (h k q) (Or.inr (by omega))
      · rw [show k = i by omega]; exact xI_same _ _ _ _
    · rintro r S' ⟨z1, z2, z3⟩
      exact ⟨z1, F1.tt z2, z3⟩
theorem c_measure {a b c e ta tb tc : Nat} {l : List (List Nat)} {v : xTg} (d : Nat) (hw : xWo a b c e) (htg : xTgC ta tb tc) {S : xS} (hX : XC S) (hV : xWV a b c S l) (hT : xTgV ta tb tc S v) : ∃ S', xcall false (d + 3) j_X9_measure [.ref a, .ref ta] S none S' ∧ xFl (fun i _ => i = e) S S' ∧ xWB e S' v l := by
  have key : ∃ r S', xcall false (d + 3) j_X9_measure [.ref a, .ref ta] S r S' ∧ (r = none ∧ xFl (fun i _ => i = e) S S' ∧ xWB e S' v l) := by
    refine xcall_some (ls := [.ref a, .ref ta, .float 0]) q_X9_measure (by decide) rfl (Nat.le_of_ble_eq_true rfl) rfl ?_
    exact wp_iconst (v := nI 0) dX9_measure_0 rfl (wp_istore_n dX9_measure_1 ⟨Nat.le_of_ble_eq_true rfl, Or.inr rfl⟩ rfl (wm_loop d hw htg l.length 0 S (by omega) hX hV hT (fun k hk => absurd hk (Nat.not_lt_zero k))))
  obtain ⟨r, S', g, rfl, z1, z2⟩ := key
  exact ⟨S', g, z1, z2⟩
def xFwp (sa sb sc se i k : Nat) : Prop := (i = sa ∧ k = 3) ∨ i = sb ∨ (i = sc ∧ 1 ≤ k) ∨ (i = 1 ∧ k = 1) ∨ i = se
def xRwp (i k : Nat) : Prop := i = 0 ∧ (k = 8 ∨ k = 10)
theorem xRwp_n (i k : Nat) (h : xRwp i k) : xRT i k = none := by
  rcases h with ⟨rfl, rfl | rfl⟩ <;> decide
theorem c_people {fa fb fc fe sa sb sc se n : Nat} {t : Nat → Nat} (d : Nat) (hs : xWo sa sb sc se) {S : xS} (hX : XC S) (hn : S.2.1 1 1 = nI n) (hle : n ≤ 260) (hb : ∀ k, k < n → t k < 256 ∧ S.2.1 2 k = nI (t k)) (h8 : S.2.2.1 0 8 = some fa) (h10 : S.2.2.1 0 10 = some sa) (h0 : S.2.1 sc 0 = nI 0) {ta tb tc : Nat} {v : xTg} (htg : xTgC ta tb tc) (hrt : S.2.2.1 0 2 = some ta) (hT : xTgV ta tb tc S v) : ∃ k S', xcall false (d + 4) j_X11_people [.ref 0] S (some (.int k)) S' ∧ xFm (xFwp sa sb sc se) xRwp S S' ∧ S'.2.1 1 1 = nI 0 ∧ (xwsp t n 12 n [] [] = none → k = -1 ∧ S'.2.2.1 0 8 = some fa ∧ S'.2.2.1 0 10 = some sa) ∧ (∀ l, xwsp t n 12 n [] [] = some l → k = nI l.length ∧ S'.2.2.1 0 8 = some sa ∧ S'.2.2.1 0 10 = some fa ∧ xWV sa sb sc S' l ∧ xWB se S' v l) := by
  have hsu := hs
  unfold xWo at hsu
  have htu := htg
  unfold xTgC at htu
  have gt := c_take hX hn (d + 3)
  have F1 : xFl (fun i k => i = 1 ∧ k = 1) S (xSI S 1 1 (nI 0)) := (xFl.rf S).SI ⟨rfl, rfl⟩
  have X1 := F1.XC hX
  obtain ⟨bb, S2, g2, f2, y1, y2⟩ := c_wread (most := 12) (d + 2) hs (by decide) hle X1 (F1.i h0 (by omega)) (fun k hk => ⟨(hb k hk).1, F1.i (hb k hk).2 (by omega)⟩)
  have X2 := f2.XC X1
  have M2 : xFm (xFwp sa sb sc se) xRwp S S2 := (F1.m.mono (fun i k h => Or.inr (Or.inr (Or.inr (Or.inl h)))) (fun _ _ h => h)).tt (f2.m.mono (fun i k h => by omega) (fun _ _ h => h))
  have e8 : S2.2.2.1 0 8 = some fa := f2.r (F1.r h8)
  have e10 : S2.2.2.1 0 10 = some sa := f2.r (F1.r h10)
  have q10 : (xSI S 1 1 (nI 0)).2.2.1 0 10 = some sa := h10
  have h11 : S2.2.1 1 1 = nI 0 := f2.i (xI_same _ _ _ _) (by omega)
  obtain ⟨has, _, _, _, _, _, _⟩ := hs.sh X1
  cases hR : xwsp t n 12 n [] [] with
  | none =>
    have hbb := y1 hR
    subst hbb
    refine ⟨-1, S2, ?_, M2, h11, fun _ => ⟨rfl, e8, e10⟩, fun l hl => (by cases hl)⟩
    refine xcall_intro (ls := [.ref 0, .float 0]) q_X11_people (by decide) rfl (Nat.le_of_ble_eq_true rfl) rfl ?_
    refine wp_aload_n dX11_people_0 rfl rfl (g10_64 dX11_people_1 (xsh hX sh_0) q10 (wp_aload_n dX11_people_4 rfl rfl (g10_10 dX11_people_5 (xsh hX sh_0) (xrr hX r0_0) (g10_104 dX11_people_8 (xsh hX sh_1) (xrr hX r1_0) (wp_aload_n dX11_people_11 rfl rfl (g10_10 dX11_people_12 (xsh hX sh_0) (xrr hX r0_0) (wp_iv1 dX11_people_15 k10_107 q_X6_take (by decide) (xsh hX sh_1) (by decide) (Nat.le_of_ble_eq_true rfl) gt (wp_bipush (v := nI 12) dX11_people_18 rfl (wp_iv4 dX11_people_20 k10_148 q_X9_read (by decide) has (by decide) (Nat.le_of_ble_eq_true rfl) g2 ?_)))))))))
    refine wb_if_ne dX11_people_23 rfl (fun c23 => absurd c23 (by decide)) (fun c23 => ?_)
    exact wp_iconst (v := -1) dX11_people_26 rfl (wp_ireturn dX11_people_27 rfl rfl ⟨rfl, rfl⟩)
  | some l =>
    obtain ⟨hbb, v1, v2⟩ := y2 l hR
    subst hbb
    have hin := xwsp_in _ _ _ _ hR (fun x hx => by cases hx) (by decide) (fun x hx => by cases hx)
    have V2 : xWV sa sb sc S2 l := ⟨v1, v2, hin.1, hin.2.1, by have := hin.2.2; omega⟩
    have MR : xFm (fun _ _ => False) xRwp S2 (xSR (xSR S2 0 8 (some sa)) 0 10 (some fa)) := ((xFm.rf S2).SR (a := 0) (k := 8) ⟨rfl, Or.inl rfl⟩).SR (a := 0) (k := 10) ⟨rfl, Or.inr rfl⟩
    have X3 := MR.XC X2 xRwp_n
    have V3 := V2.fm MR (fun _ _ _ h => h)
    have r8 : (xSR (xSR S2 0 8 (some sa)) 0 10 (some fa)).2.2.1 0 8 = some sa := (xR_ne _ _ (Or.inr (by decide))).trans (xR_same _ _ _ _)
    have r10 : (xSR (xSR S2 0 8 (some sa)) 0 10 (some fa)).2.2.1 0 10 = some fa := xR_same _ _ _ _
    obtain ⟨has2, _, _, _, _, _, _⟩ := hs.sh X2
    obtain ⟨has3, _, _, _, _, _, _⟩ := hs.sh X3
    have hr2 : (xSR (xSR S2 0 8 (some sa)) 0 10 (some fa)).2.2.1 0 2 = some ta := MR.r (f2.r (F1.r hrt)) (by unfold xRwp; omega)
    have hT3 := ((hT.fr _ _ _ _ F1 (fun i k h => by omega)).fr _ _ _ _ f2 (fun i k h => by omega)).fm MR (fun _ _ _ h => h)
    obtain ⟨S4, g4, f4, b4⟩ := c_measure d hs htg X3 V3 hT3
    have X4 := f4.XC X3
    have V4 := V3.fm (f4.m (R := xRwp)) (fun i k h => by omega)
    have M4 : xFm (xFwp sa sb sc se) xRwp S S4 := (M2.tt (MR.mono (fun _ _ h => h.elim) (fun _ _ h => h))).tt (f4.m.mono (fun i k h => Or.inr (Or.inr (Or.inr (Or.inr h)))) (fun _ _ h => h))
    have k4 := V4.1
    have r84 := f4.r r8
    refine ⟨nI l.length, S4, ?_, M4, f4.i h11 (by omega), fun h => (by cases h), fun l' hl => (by cases hl; exact ⟨rfl, r84, f4.r r10, V4, b4⟩)⟩
    refine xcall_intro (ls := [.ref 0, .float 0]) q_X11_people (by decide) rfl (Nat.le_of_ble_eq_true rfl) rfl ?_
    refine wp_aload_n dX11_people_0 rfl rfl (g10_64 dX11_people_1 (xsh hX sh_0) q10 (wp_aload_n dX11_people_4 rfl rfl (g10_10 dX11_people_5 (xsh hX sh_0) (xrr hX r0_0) (g10_104 dX11_people_8 (xsh hX sh_1) (xrr hX r1_0) (wp_aload_n dX11_people_11 rfl rfl (g10_10 dX11_people_12 (xsh hX sh_0) (xrr hX r0_0) (wp_iv1 dX11_people_15 k10_107 q_X6_take (by decide) (xsh hX sh_1) (by decide) (Nat.le_of_ble_eq_true rfl) gt (wp_bipush (v := nI 12) dX11_people_18 rfl (wp_iv4 dX11_people_20 k10_148 q_X9_read (by decide) (by first | exact has | exact has2 | exact has3 | exact (f4.sh has3)) (by decide) (Nat.le_of_ble_eq_true rfl) g2 ?_)))))))))
    refine wb_if_ne dX11_people_23 rfl (fun c23 => ?_) (fun c23 => absurd c23 (by decide))
    exact wp_aload_n dX11_people_28 rfl rfl (g10_57 dX11_people_29 (xsh X2 sh_0) e8 (wp_astore_n dX11_people_32 rfl ⟨Nat.le_of_ble_eq_true rfl, Or.inr rfl⟩ rfl (wp_aload_n dX11_people_33 rfl rfl (wp_aload_n dX11_people_34 rfl rfl (g10_64 dX11_people_35 (xsh X2 sh_0) e10 (p10_57 dX11_people_38 (xsh X2 sh_0) (wp_aload_n dX11_people_41 rfl rfl (wp_aload_n dX11_people_42 rfl rfl (p10_64 dX11_people_43 (xsh (X2.SR rfl) sh_0) (wp_aload_n dX11_people_46 rfl rfl (g10_57 dX11_people_47 (xsh ((X2.SR rfl).SR rfl) sh_0) r8 (wp_aload_n dX11_people_50 rfl rfl (g10_26 dX11_people_51 (xsh ((X2.SR rfl).SR rfl) sh_0) hr2 (wp_iv2 dX11_people_54 k10_151 q_X9_measure (by decide) (by first | exact has | exact has2 | exact has3 | exact (f4.sh has3)) (by decide) (Nat.le_of_ble_eq_true rfl) g4 (wp_aload_n dX11_people_57 rfl rfl (g10_57 dX11_people_58 (xsh X4 sh_0) r84 (gv10_152 dX11_people_61 (by first | exact has | exact has2 | exact has3 | exact (f4.sh has3)) k4 (wp_ireturn dX11_people_64 rfl rfl ⟨rfl, rfl⟩))))))))))))))))))
def xFwa (sa sb sc se i k : Nat) : Prop := (i = sa ∧ k = 3) ∨ i = sb ∨ (i = sc ∧ 1 ≤ k) ∨ (i = 1 ∧ k = 1)
def xRwa (i k : Nat) : Prop := i = 0 ∧ (k = 9 ∨ k = 10)
theorem xRwa_n (i k : Nat) (h : xRwa i k) : xRT i k = none := by
  rcases h with ⟨rfl, rfl | rfl⟩ <;> decide
theorem c_answers {fa fb fc fe sa sb sc se n : Nat} {t : Nat → Nat} (d : Nat) (hs : xWo sa sb sc se) {S : xS} (hX : XC S) (hn : S.2.1 1 1 = nI n) (hle : n ≤ 260) (hb : ∀ k, k < n → t k < 256 ∧ S.2.1 2 k = nI (t k)) (h8 : S.2.2.1 0 9 = some fa) (h10 : S.2.2.1 0 10 = some sa) (h0 : S.2.1 sc 0 = nI 0) : ∃ k S', xcall false (d + 4) j_X11_answers [.ref 0] S (some (.int k)) S' ∧ xFm (xFwa sa sb sc se) xRwa S S' ∧ S'.2.1 1 1 = nI 0 ∧ (xwsp t n 5 n [] [] = none → k = -1 ∧ S'.2.2.1 0 9 = some fa ∧ S'.2.2.1 0 10 = some sa) ∧ (∀ l, xwsp t n 5 n [] [] = some l → k = nI l.length ∧ S'.2.2.1 0 9 = some sa ∧ S'.2.2.1 0 10 = some fa ∧ xWV sa sb sc S' l) := by
  have hsu := hs
  unfold xWo at hsu
  have gt := c_take hX hn (d + 3)
  have F1 : xFl (fun i k => i = 1 ∧ k = 1) S (xSI S 1 1 (nI 0)) := (xFl.rf S).SI ⟨rfl, rfl⟩
  have X1 := F1.XC hX
  obtain ⟨bb, S2, g2, f2, y1, y2⟩ := c_wread (most := 5) (d + 2) hs (by decide) hle X1 (F1.i h0 (by omega)) (fun k hk => ⟨(hb k hk).1, F1.i (hb k hk).2 (by omega)⟩)
  have X2 := f2.XC X1
  have M2 : xFm (xFwa sa sb sc se) xRwa S S2 := (F1.m.mono (fun i k h => Or.inr (Or.inr (Or.inr h))) (fun _ _ h => h)).tt (f2.m.mono (fun i k h => by omega) (fun _ _ h => h))
  have e8 : S2.2.2.1 0 9 = some fa := f2.r (F1.r h8)
  have e10 : S2.2.2.1 0 10 = some sa := f2.r (F1.r h10)
  have q10 : (xSI S 1 1 (nI 0)).2.2.1 0 10 = some sa := h10
  have h11 : S2.2.1 1 1 = nI 0 := f2.i (xI_same _ _ _ _) (by omega)
  obtain ⟨has, _, _, _, _, _, _⟩ := hs.sh X1
  cases hR : xwsp t n 5 n [] [] with
  | none =>
    have hbb := y1 hR
    subst hbb
    refine ⟨-1, S2, ?_, M2, h11, fun _ => ⟨rfl, e8, e10⟩, fun l hl => (by cases hl)⟩
    refine xcall_intro (ls := [.ref 0, .float 0]) q_X11_answers (by decide) rfl (Nat.le_of_ble_eq_true rfl) rfl ?_
    refine wp_aload_n dX11_answers_0 rfl rfl (g10_64 dX11_answers_1 (xsh hX sh_0) q10 (wp_aload_n dX11_answers_4 rfl rfl (g10_10 dX11_answers_5 (xsh hX sh_0) (xrr hX r0_0) (g10_104 dX11_answers_8 (xsh hX sh_1) (xrr hX r1_0) (wp_aload_n dX11_answers_11 rfl rfl (g10_10 dX11_answers_12 (xsh hX sh_0) (xrr hX r0_0) (wp_iv1 dX11_answers_15 k10_107 q_X6_take (by decide) (xsh hX sh_1) (by decide) (Nat.le_of_ble_eq_true rfl) gt (wp_iconst (v := nI 5) dX11_answers_18 rfl (wp_iv4 dX11_answers_19 k10_148 q_X9_read (by decide) has (by decide) (Nat.le_of_ble_eq_true rfl) g2 ?_)))))))))
    refine wb_if_ne dX11_answers_22 rfl (fun c22 => absurd c22 (by decide)) (fun c22 => ?_)
    exact wp_iconst (v := -1) dX11_answers_25 rfl (wp_ireturn dX11_answers_26 rfl rfl ⟨rfl, rfl⟩)
  | some l =>
    obtain ⟨hbb, v1, v2⟩ := y2 l hR
    subst hbb
    have hin := xwsp_in _ _ _ _ hR (fun x hx => by cases hx) (by decide) (fun x hx => by cases hx)
    have V2 : xWV sa sb sc S2 l := ⟨v1, v2, hin.1, hin.2.1, by have := hin.2.2; omega⟩
    have MR : xFm (fun _ _ => False) xRwa S2 (xSR (xSR S2 0 9 (some sa)) 0 10 (some fa)) := ((xFm.rf S2).SR (a := 0) (k := 9) ⟨rfl, Or.inl rfl⟩).SR (a := 0) (k := 10) ⟨rfl, Or.inr rfl⟩
    have X3 := MR.XC X2 xRwa_n
    have V3 := V2.fm MR (fun _ _ _ h => h)
    have r8 : (xSR (xSR S2 0 9 (some sa)) 0 10 (some fa)).2.2.1 0 9 = some sa := (xR_ne _ _ (Or.inr (by decide))).trans (xR_same _ _ _ _)
    have r10 : (xSR (xSR S2 0 9 (some sa)) 0 10 (some fa)).2.2.1 0 10 = some fa := xR_same _ _ _ _
    obtain ⟨has2, _, _, _, _, _, _⟩ := hs.sh X2
    obtain ⟨has3, _, _, _, _, _, _⟩ := hs.sh X3
    have k3 := V3.1
    refine ⟨nI l.length, _, ?_, M2.tt (MR.mono (fun _ _ h => h.elim) (fun _ _ h => h)), h11, fun h => (by cases h), fun l' hl => (by cases hl; exact ⟨rfl, r8, r10, V3⟩)⟩
    refine xcall_intro (ls := [.ref 0, .float 0]) q_X11_answers (by decide) rfl (Nat.le_of_ble_eq_true rfl) rfl ?_
    refine wp_aload_n dX11_answers_0 rfl rfl (g10_64 dX11_answers_1 (xsh hX sh_0) q10 (wp_aload_n dX11_answers_4 rfl rfl (g10_10 dX11_answers_5 (xsh hX sh_0) (xrr hX r0_0) (g10_104 dX11_answers_8 (xsh hX sh_1) (xrr hX r1_0) (wp_aload_n dX11_answers_11 rfl rfl (g10_10 dX11_answers_12 (xsh hX sh_0) (xrr hX r0_0) (wp_iv1 dX11_answers_15 k10_107 q_X6_take (by decide) (xsh hX sh_1) (by decide) (Nat.le_of_ble_eq_true rfl) gt (wp_iconst (v := nI 5) dX11_answers_18 rfl (wp_iv4 dX11_answers_19 k10_148 q_X9_read (by decide) (by first | exact has | exact has2 | exact has3) (by decide) (Nat.le_of_ble_eq_true rfl) g2 ?_)))))))))
    refine wb_if_ne dX11_answers_22 rfl (fun c22 => ?_) (fun c22 => absurd c22 (by decide))
    exact wp_aload_n dX11_answers_27 rfl rfl (g10_61 dX11_answers_28 (xsh X2 sh_0) e8 (wp_astore_n dX11_answers_31 rfl ⟨Nat.le_of_ble_eq_true rfl, Or.inr rfl⟩ rfl (wp_aload_n dX11_answers_32 rfl rfl (wp_aload_n dX11_answers_33 rfl rfl (g10_64 dX11_answers_34 (xsh X2 sh_0) e10 (p10_61 dX11_answers_37 (xsh X2 sh_0) (wp_aload_n dX11_answers_40 rfl rfl (wp_aload_n dX11_answers_41 rfl rfl (p10_64 dX11_answers_42 (xsh (X2.SR rfl) sh_0) (wp_aload_n dX11_answers_45 rfl rfl (g10_61 dX11_answers_46 (xsh ((X2.SR rfl).SR rfl) sh_0) r8 (gv10_152 dX11_answers_49 (by first | exact has | exact has2 | exact has3) k3 (wp_ireturn dX11_answers_52 rfl rfl ⟨rfl, rfl⟩)))))))))))))
