/-! THE YARD of the class: a rule read -/
theorem xsl_n {k : Nat} (hk : k < 2 ^ 31) : xsl (nI k) = decide (k < 6) := by
  rcases Nat.lt_or_ge k 6 with h | h
  · rw [decide_eq_true h]
    exact decide_eq_true ⟨nI_pos hk, (nI_ltI hk (by decide)).mpr h⟩
  · rw [decide_eq_false (by omega)]
    exact decide_eq_false (fun q => absurd (show k < 6 from (nI_ltI hk (by decide)).mp q.2) (by omega))
/-- what the rules tell (0 to 7), and the rhymes -/
abbrev xYd : Type := (Nat → Nat) × List Nat
def xyup (f : Nat → Nat) (r x : Nat) : Nat → Nat := fun i => if i = r then x else f i
def xyf0 : Nat → Nat := fun i => if i = 0 ∨ i = 5 ∨ i = 7 then 1 else 0
/-- the choices of a rule -/
def xychs (r : Nat) : List (List Nat) := if r = 0 then [xw_words, xw_beats] else if r = 1 then [xw_heads, xw_fists] else if r = 2 then [xw_out, xw_stays] else if r = 3 then [xw_next, xw_same, xw_caller] else if r = 4 then [xw_never, xw_always] else [xw_left, xw_free]
def xytop (r : Nat) : Nat := if r = 3 then 2 else if r = 5 then 9 else 1
def xYok (v : xYd) : Prop := (∀ i, i < 8 → v.1 i ≤ xytop i) ∧ 1 ≤ v.1 5 ∧ 1 ≤ v.2.length ∧ v.2.length ≤ 4 ∧ ∀ x ∈ v.2, x < 6
def xdigs (t : Nat → Nat) (n : Nat) : Nat → Nat → List Nat → Except (Nat × Nat) (Nat × List Nat)
  | 0, _, _ => .error (0, 0)
  | f + 1, p, l => if xtk t n p = 2 then (if l.length = 4 ∨ 5 < t (xts t n p) - 48 then .error (3, xts t n p) else xdigs t n f (xta t n p) (l ++ [t (xts t n p) - 48])) else if l = [] then .error (xfh t n p) else .ok (p, l)
def xyrule (t : Nat → Nat) (n : Nat) (r p : Nat) (v : xYd) : Except (Nat × Nat) (Nat × xYd) :=
  if r = 5 then (if xtk t n p = 2 then (if t (xts t n p) - 48 < 1 then .error (3, xts t n p) else .ok (xta t n p, (xyup v.1 5 (t (xts t n p) - 48), v.2))) else .error (xfh t n p))
  else if r = 6 then (match xdigs t n 5 p [] with
    | .error e => .error e
    | .ok q => .ok (q.1, (v.1, q.2)))
  else (match xwh t n p (xychs r) 0 with
    | none => .error (xfh t n p)
    | some k => .ok (xta t n p, (xyup v.1 r k, v.2)))
def xYdC (a b c : Nat) : Prop := (a = 11 ∧ b = 12 ∧ c = 13) ∨ (a = 14 ∧ b = 15 ∧ c = 16)
theorem xYdC.sh {a b c : Nat} (h : xYdC a b c) {S : xS} (hX : XC S) : S.1[a]? = some (9, 3) ∧ S.1[b]? = some (20, 8) ∧ S.1[c]? = some (20, 4) ∧ S.2.2.1 a 0 = some b ∧ S.2.2.1 a 1 = some c := by
  rcases h with ⟨rfl, rfl, rfl⟩ | ⟨rfl, rfl, rfl⟩
  · exact ⟨xsh hX sh_11, xsh hX sh_12, xsh hX sh_13, xrr hX r11_0, xrr hX r11_1⟩
  · exact ⟨xsh hX sh_14, xsh hX sh_15, xsh hX sh_16, xrr hX r14_0, xrr hX r14_1⟩
def xYdV (a b c : Nat) (S : xS) (v : xYd) : Prop :=
  (∀ i, i < 8 → S.2.1 b i = nI (v.1 i)) ∧ S.2.1 a 2 = nI v.2.length ∧ (∀ i, i < v.2.length → S.2.1 c i = nI (v.2.getD i 0)) ∧ xYok v
theorem xYdV.fr {a b c : Nat} (S S' : xS) (P : Nat → Nat → Prop) (v : xYd) (h : xYdV a b c S v) (hf : xFl P S S') (hn : ∀ i k, (i = a ∨ i = b ∨ i = c) → ¬ P i k) : xYdV a b c S' v :=
  ⟨fun i hi => hf.i (h.1 i hi) (hn _ _ (Or.inr (Or.inl rfl))), hf.i h.2.1 (hn _ _ (Or.inl rfl)), fun i hi => hf.i (h.2.2.1 i hi) (hn _ _ (Or.inr (Or.inr rfl))), h.2.2.2⟩
theorem xyok_up {v : xYd} {r x : Nat} (h : xYok v) (hx : x ≤ xytop r) (h1 : 1 ≤ x) : xYok (xyup v.1 r x, v.2) := by
  refine ⟨fun i hi => ?_, ?_, h.2.2⟩
  · show xyup v.1 r x i ≤ xytop i
    unfold xyup
    split
    · rename_i e; rw [e]; exact hx
    · exact h.1 i hi
  · show 1 ≤ xyup v.1 r x 5
    unfold xyup
    split
    · exact h1
    · exact h.2.1
theorem xyok_up' {v : xYd} {r x : Nat} (h : xYok v) (hx : x ≤ xytop r) (h1 : r ≠ 5) : xYok (xyup v.1 r x, v.2) := by
  refine ⟨fun i hi => ?_, ?_, h.2.2⟩
  · show xyup v.1 r x i ≤ xytop i
    unfold xyup
    split
    · rename_i e; rw [e]; exact hx
    · exact h.1 i hi
  · show 1 ≤ xyup v.1 r x 5
    unfold xyup
    rw [if_neg (fun e => h1 e.symm)]
    exact h.2.1
theorem xyok_0 : xYok (xyf0, [0]) := ⟨by decide, by decide, by decide, by decide, by decide⟩
theorem xdigs_in {t : Nat → Nat} {n : Nat} : ∀ (f p : Nat) (l : List Nat) (p' : Nat) (l' : List Nat), xdigs t n f p l = .ok (p', l') → (∀ x ∈ l, x < 6) → l.length ≤ 4 → (∀ x ∈ l', x < 6) ∧ 1 ≤ l'.length ∧ l'.length ≤ 4
  | 0, _, _, _, _, h, _, _ => by cases h
  | f + 1, p, l, p', l', h, hl, h4 => by
    unfold xdigs at h
    split at h
    · split at h
      · cases h
      · rename_i hz
        refine xdigs_in f _ _ p' l' h (fun x hx => ?_) (by rw [List.length_append]; simp only [List.length_cons, List.length_nil]; omega)
        rcases List.mem_append.mp hx with q | q
        · exact hl x q
        · rw [List.mem_singleton.mp q]
          omega
    · split at h
      · cases h
      · rename_i hn
        cases h
        refine ⟨hl, ?_, h4⟩
        cases l with
        | nil => exact absurd rfl hn
        | cons x l => simp
theorem xgetD_app {l : List Nat} {x : Nat} : ∀ i, i < (l ++ [x]).length → (l ++ [x]).getD i 0 = if i < l.length then l.getD i 0 else x := by
  intro i hi
  rw [List.length_append] at hi
  simp only [List.length_cons, List.length_nil] at hi
  simp only [List.getD_eq_getElem?_getD]
  split
  · rename_i q
    rw [List.getElem?_append_left q]
  · rename_i q
    rw [List.getElem?_append_right (by omega), show i - l.length = 0 by omega]
    rfl
theorem fill_loop {b m d : Nat} {x : Int32} (hm : m < 100000) : ∀ (j i : Nat) (S : xS), i + j = m → S.1[b]? = some (20, m) → (∀ k, k < i → S.2.1 b k = x) → Wp false d 15 cJ7_fill_53178 none false 5 [.ref b, .int x, .int (nI i), .int (nI m)] [] S (fun r S' => r = none ∧ xFl (fun i _ => i = b) S S' ∧ ∀ k, k < m → S'.2.1 b k = x) := by
  intro j
  induction j with
  | zero =>
    intro i S hi hb h
    have : i = m := by omega
    subst this
    refine wp_iload_n dJ7_fill_53178_5 rfl (wp_iload_n dJ7_fill_53178_6 rfl ?_)
    refine wn_icmp_ge dJ7_fill_53178_7 rfl (by omega) (by omega) (fun c7 => ?_) (fun c7 => absurd c7 (by omega))
    exact wp_return dJ7_fill_53178_20 rfl ⟨rfl, xFl.rf S, h⟩
  | succ j ih =>
    intro i S hi hb h
    have F1 : xFl (fun i _ => i = b) S (xSI S b i x) := (xFl.rf S).SI rfl
    refine wp_iload_n dJ7_fill_53178_5 rfl (wp_iload_n dJ7_fill_53178_6 rfl ?_)
    refine wn_icmp_ge dJ7_fill_53178_7 rfl (by omega) (by omega) (fun c7 => absurd c7 (by omega)) (fun c7 => ?_)
    refine wp_aload_n dJ7_fill_53178_10 rfl rfl (wp_iload_n dJ7_fill_53178_11 rfl (wp_iload_n dJ7_fill_53178_12 rfl (wn_iastore dJ7_fill_53178_13 hb rfl (by omega) (by omega) (wp_iinc dJ7_fill_53178_14 rfl (nI_1 _) ⟨Nat.le_of_ble_eq_true rfl, Or.inr rfl⟩ rfl (wp_goto dJ7_fill_53178_17 rfl ?_)))))
    refine (ih (i + 1) (xSI S b i x) (by omega) hb (fun k hk => ?_)).mono (fun r S' ⟨p1, p2, p3⟩ => ⟨p1, F1.tt p2, p3⟩)
    rcases Nat.lt_or_ge k i with q | q
    · exact xi (h k q) (Or.inr (by omega))
    · rw [show k = i by omega]; exact xI_same _ _ _ _
theorem c_fill {b m : Nat} {x : Int32} (d : Nat) {S : xS} (hm : m < 100000) (hb : S.1[b]? = some (20, m)) : ∃ S', xcall false d j_J7_fill_53178 [.ref b, .int x] S none S' ∧ xFl (fun i _ => i = b) S S' ∧ ∀ k, k < m → S'.2.1 b k = x := by
  have key : ∃ r S', xcall false d j_J7_fill_53178 [.ref b, .int x] S r S' ∧ (r = none ∧ xFl (fun i _ => i = b) S S' ∧ ∀ k, k < m → S'.2.1 b k = x) := by
    refine xcall_some (ls := [.ref b, .int x, .float 0, .float 0]) q_J7_fill_53178 (by decide) rfl (Nat.le_of_ble_eq_true rfl) rfl ?_
    exact wp_iconst (v := nI 0) dJ7_fill_53178_0 rfl (wp_istore_n dJ7_fill_53178_1 ⟨Nat.le_of_ble_eq_true rfl, Or.inr rfl⟩ rfl (wp_aload_n dJ7_fill_53178_2 rfl rfl (wv_alen dJ7_fill_53178_3 hb ⟨by decide, by decide⟩ rfl (wp_istore_n dJ7_fill_53178_4 ⟨Nat.le_of_ble_eq_true rfl, Or.inr rfl⟩ rfl (fill_loop hm m 0 S (by omega) hb (fun k hk => absurd hk (Nat.not_lt_zero k)))))))
  obtain ⟨r, S', h1, rfl, p1, p2⟩ := key
  exact ⟨S', h1, p1, p2⟩
theorem c_setUsual {a b c : Nat} (htg : xYdC a b c) (d : Nat) {S : xS} (hX : XC S) : ∃ S', xcall false (d + 1) j_X10_setUsual [.ref a] S none S' ∧ xFl (fun i k => i = a ∨ i = b ∨ i = c) S S' ∧ xYdV a b c S' (xyf0, [0]) := by
  have htg' := htg
  unfold xYdC at htg'
  obtain ⟨ha, hb, hc, ra, rc⟩ := htg.sh hX
  obtain ⟨S1, g1, f1, q1⟩ := c_fill (x := nI 0) d (by decide) hb
  have X1 := f1.XC hX
  obtain ⟨ha1, hb1, hc1, ra1, rc1⟩ := htg.sh X1
  refine ⟨xSI (xSI (xSI (xSI (xSI S1 b 0 (nI 1)) b 5 (nI 1)) b 7 (nI 1)) c 0 (nI 0)) a 2 (nI 1), ?_, (((((f1.mono (Q := fun i k => i = a ∨ i = b ∨ i = c) (fun i k h => Or.inr (Or.inl h))).SI (a := b) (k := 0) (Or.inr (Or.inl rfl))).SI (a := b) (k := 5) (Or.inr (Or.inl rfl))).SI (a := b) (k := 7) (Or.inr (Or.inl rfl))).SI (a := c) (k := 0) (Or.inr (Or.inr rfl))).SI (a := a) (k := 2) (Or.inl rfl), ?_⟩
  · refine xcall_intro (ls := [.ref a]) q_X10_setUsual (by decide) rfl (Nat.le_of_ble_eq_true rfl) rfl ?_
    exact wp_aload_n dX10_setUsual_0 rfl rfl (g9_11 dX10_setUsual_1 (by first | exact ha | exact ha1) ra (wp_iconst (v := nI 0) dX10_setUsual_4 rfl (wp_is2 dX10_setUsual_5 k9_21 q_J7_fill_53178 (by decide) (Nat.le_of_ble_eq_true rfl) g1 (wp_aload_n dX10_setUsual_8 rfl rfl (g9_11 dX10_setUsual_9 (by first | exact ha | exact ha1) ra1 (wp_iconst (v := nI 0) dX10_setUsual_12 rfl (wp_iconst (v := nI 1) dX10_setUsual_13 rfl (wn_iastore dX10_setUsual_14 (by first | exact hb | exact hb1) rfl (by omega) (by decide) (wp_aload_n dX10_setUsual_15 rfl rfl (g9_11 dX10_setUsual_16 (by first | exact ha | exact ha1) ra1 (wp_iconst (v := nI 5) dX10_setUsual_19 rfl (wp_iconst (v := nI 1) dX10_setUsual_20 rfl (wn_iastore dX10_setUsual_21 (by first | exact hb | exact hb1) rfl (by omega) (by decide) (wp_aload_n dX10_setUsual_22 rfl rfl (g9_11 dX10_setUsual_23 (by first | exact ha | exact ha1) ra1 (wp_bipush (v := nI 7) dX10_setUsual_26 rfl (wp_iconst (v := nI 1) dX10_setUsual_28 rfl (wn_iastore dX10_setUsual_29 (by first | exact hb | exact hb1) rfl (by omega) (by decide) (wp_aload_n dX10_setUsual_30 rfl rfl (g9_15 dX10_setUsual_31 (by first | exact ha | exact ha1) rc1 (wp_iconst (v := nI 0) dX10_setUsual_34 rfl (wp_iconst (v := nI 0) dX10_setUsual_35 rfl (wn_iastore dX10_setUsual_36 hc1 rfl (by omega) (by decide) (wp_aload_n dX10_setUsual_37 rfl rfl (wp_iconst (v := nI 1) dX10_setUsual_38 rfl (p9_27 dX10_setUsual_39 (by first | exact ha | exact ha1) (wp_return dX10_setUsual_42 rfl ⟨rfl, rfl⟩)))))))))))))))))))))))))))
  · refine ⟨fun i hi => ?_, xI_same _ _ _ _, fun i hi => ?_, xyok_0⟩
    · rcases (show i = 0 ∨ i = 5 ∨ i = 7 ∨ ¬ (i = 0 ∨ i = 5 ∨ i = 7) by omega) with rfl | rfl | rfl | q
      · exact xi (xi (xi (xi (xI_same _ _ _ _) (Or.inr (by decide))) (Or.inr (by decide))) (Or.inl (by omega))) (Or.inl (by omega))
      · exact xi (xi (xi (xI_same _ _ _ _) (Or.inr (by decide))) (Or.inl (by omega))) (Or.inl (by omega))
      · exact xi (xi (xI_same _ _ _ _) (Or.inl (by omega))) (Or.inl (by omega))
      · show _ = nI (xyf0 i)
        unfold xyf0
        rw [if_neg q]
        exact xi (xi (xi (xi (xi (q1 i hi) (Or.inr (by omega))) (Or.inr (by omega))) (Or.inr (by omega))) (Or.inl (by omega))) (Or.inl (by omega))
    · have : i = 0 := by simp only [List.length_cons, List.length_nil] at hi; omega
      subst this
      exact xi (xI_same _ _ _ _) (Or.inl (by omega))
theorem c_ydReset {a b c : Nat} (htg : xYdC a b c) (d : Nat) {S : xS} (hX : XC S) : ∃ S', xcall false (d + 2) j_X10_reset [.ref a] S none S' ∧ xFl (fun i k => i = a ∨ i = b ∨ i = c) S S' ∧ xYdV a b c S' (xyf0, [0]) := by
  have htg' := htg
  unfold xYdC at htg'
  obtain ⟨ha, hb, hc, ra, rc⟩ := htg.sh hX
  obtain ⟨S1, g1, f1, q1⟩ := c_setUsual htg d hX
  have X1 := f1.XC hX
  refine ⟨S1, ?_, f1, q1⟩
  refine xcall_intro (ls := [.ref a]) q_X10_reset (by decide) rfl (Nat.le_of_ble_eq_true rfl) rfl ?_
  exact wp_aload_n dX10_reset_0 rfl rfl (wp_iv1 dX10_reset_1 k9_18 q_X10_setUsual (by decide) (by first | exact ha | exact ha1) (by decide) (Nat.le_of_ble_eq_true rfl) g1 (wp_return dX10_reset_4 rfl ⟨rfl, rfl⟩))
theorem c_choicesOf (r d : Nat) {S : xS} (hr : r < 8) : xcall false d j_X10_choicesOf [.int (nI r)] S (some (.retAddr (if r < 5 then 2 + r else 7))) S := by
  rcases (show r = 0 ∨ r = 1 ∨ r = 2 ∨ r = 3 ∨ r = 4 ∨ r = 5 ∨ r = 6 ∨ r = 7 by omega) with rfl | rfl | rfl | rfl | rfl | rfl | rfl | rfl
  · refine xcall_intro (ls := [.int (nI 0)]) q_X10_choicesOf (by decide) rfl (Nat.le_of_ble_eq_true rfl) rfl ?_
    exact wp_iload_n dX10_choicesOf_0 rfl (wp_table_in dX10_choicesOf_1 (by decide) rfl rfl (wp_ldcS dX10_choicesOf_36 k9_55 (wp_areturn dX10_choicesOf_38 rfl rfl ⟨rfl, rfl⟩)))
  · refine xcall_intro (ls := [.int (nI 1)]) q_X10_choicesOf (by decide) rfl (Nat.le_of_ble_eq_true rfl) rfl ?_
    exact wp_iload_n dX10_choicesOf_0 rfl (wp_table_in dX10_choicesOf_1 (by decide) rfl rfl (wp_ldcS dX10_choicesOf_39 k9_57 (wp_areturn dX10_choicesOf_41 rfl rfl ⟨rfl, rfl⟩)))
  · refine xcall_intro (ls := [.int (nI 2)]) q_X10_choicesOf (by decide) rfl (Nat.le_of_ble_eq_true rfl) rfl ?_
    exact wp_iload_n dX10_choicesOf_0 rfl (wp_table_in dX10_choicesOf_1 (by decide) rfl rfl (wp_ldcS dX10_choicesOf_42 k9_59 (wp_areturn dX10_choicesOf_44 rfl rfl ⟨rfl, rfl⟩)))
  · refine xcall_intro (ls := [.int (nI 3)]) q_X10_choicesOf (by decide) rfl (Nat.le_of_ble_eq_true rfl) rfl ?_
    exact wp_iload_n dX10_choicesOf_0 rfl (wp_table_in dX10_choicesOf_1 (by decide) rfl rfl (wp_ldcS dX10_choicesOf_45 k9_61 (wp_areturn dX10_choicesOf_47 rfl rfl ⟨rfl, rfl⟩)))
  · refine xcall_intro (ls := [.int (nI 4)]) q_X10_choicesOf (by decide) rfl (Nat.le_of_ble_eq_true rfl) rfl ?_
    exact wp_iload_n dX10_choicesOf_0 rfl (wp_table_in dX10_choicesOf_1 (by decide) rfl rfl (wp_ldcS dX10_choicesOf_48 k9_63 (wp_areturn dX10_choicesOf_50 rfl rfl ⟨rfl, rfl⟩)))
  · refine xcall_intro (ls := [.int (nI 5)]) q_X10_choicesOf (by decide) rfl (Nat.le_of_ble_eq_true rfl) rfl ?_
    exact wp_iload_n dX10_choicesOf_0 rfl (wp_table_out dX10_choicesOf_1 (by decide) rfl (wp_ldcS dX10_choicesOf_51 k9_65 (wp_areturn dX10_choicesOf_53 rfl rfl ⟨rfl, rfl⟩)))
  · refine xcall_intro (ls := [.int (nI 6)]) q_X10_choicesOf (by decide) rfl (Nat.le_of_ble_eq_true rfl) rfl ?_
    exact wp_iload_n dX10_choicesOf_0 rfl (wp_table_out dX10_choicesOf_1 (by decide) rfl (wp_ldcS dX10_choicesOf_51 k9_65 (wp_areturn dX10_choicesOf_53 rfl rfl ⟨rfl, rfl⟩)))
  · refine xcall_intro (ls := [.int (nI 7)]) q_X10_choicesOf (by decide) rfl (Nat.le_of_ble_eq_true rfl) rfl ?_
    exact wp_iload_n dX10_choicesOf_0 rfl (wp_table_out dX10_choicesOf_1 (by decide) rfl (wp_ldcS dX10_choicesOf_51 k9_65 (wp_areturn dX10_choicesOf_53 rfl rfl ⟨rfl, rfl⟩)))
theorem c_readLeft {a b c n p : Nat} {t : Nat → Nat} {v : xYd} (d : Nat) (htg : xYdC a b c) {S : xS} (hX : XC S) (hT : xTx S n t) (hC : xTC S n t p) (hV : xYdV a b c S v) (hF : S.2.1 3 5 = nI 0) : ∃ b' S', xcall false (d + 2) j_X10_readLeft [.ref a, .ref 3] S (some (.int (xB b'))) S' ∧ xFl (fun i k => (i = a ∨ i = b ∨ i = c) ∨ (i = 3 ∧ 2 ≤ k)) S S' ∧ xRO (xYdV a b c) n t S' b' (xyrule t n 5 p v) := by
  have htg' := htg
  unfold xYdC at htg'
  obtain ⟨ha, hb, hc, ra, rc⟩ := htg.sh hX
  have hC0 := hC
  have hT0 := hT
  obtain ⟨hp, h2, h3, h4⟩ := hC
  have b4 := xtk_b t n p
  have hab := xta_b t hp
  obtain ⟨hr, hn, hle, hbb⟩ := hT
  by_cases h1 : xtk t n p = 2
  · have hx := xtk2 h1
    have h42 : S.2.1 3 4 = nI 2 := h4.trans (by rw [h1])
    have gd := c_digit (d + 1) hX hT0 h42 (by decide) h2 (fun _ => ⟨by omega, hx.2.2.2.1⟩)
    rw [if_pos rfl] at gd
    have e5 : ∀ v' : Except (Nat × Nat) (Nat × xYd), (if 5 = 5 then (if xtk t n p = 2 then (if t (xts t n p) - 48 < 1 then .error (3, xts t n p) else .ok (xta t n p, (xyup v.1 5 (t (xts t n p) - 48), v.2))) else .error (xfh t n p)) else v') = (if t (xts t n p) - 48 < 1 then .error (3, xts t n p) else .ok (xta t n p, (xyup v.1 5 (t (xts t n p) - 48), v.2))) := fun v' => by rw [if_pos rfl, if_pos h1]
    unfold xyrule
    rw [e5]
    rcases Nat.lt_or_ge (t (xts t n p) - 48) 1 with hd | hd
    · rw [if_pos hd]
      refine ⟨false, xSI S 3 5 (nI 3), ?_, (xFl.rf S).SI (Or.inr ⟨rfl, by decide⟩), fun e he => (by cases he; exact ⟨rfl, xI_same _ _ _ _, xi h2 (Or.inr (by decide))⟩), fun p' v' he => (by cases he)⟩
      refine xcall_intro (ls := [.ref a, .ref 3]) q_X10_readLeft (by decide) rfl (Nat.le_of_ble_eq_true rfl) rfl ?_
      refine wp_aload_n dX10_readLeft_0 rfl rfl (gv9_67 dX10_readLeft_1 (xsh hX sh_3) h42 (wp_iconst (v := nI 2) dX10_readLeft_4 rfl ?_))
      refine wn_icmp_eq dX10_readLeft_5 rfl (by omega) (by omega) (fun c5 => ?_) (fun c5 => absurd c5 (by omega))
      refine wp_aload_n dX10_readLeft_13 rfl rfl (wp_iv1 dX10_readLeft_14 k9_70 q_X7_digit (by decide) (xsh hX sh_3) (by decide) (Nat.le_of_ble_eq_true rfl) gd (wp_iconst (v := nI 1) dX10_readLeft_17 rfl ?_))
      refine wn_icmp_ge dX10_readLeft_18 rfl (by omega) (by omega) (fun c18 => absurd c18 (by omega)) (fun c18 => ?_)
      exact wp_aload_n dX10_readLeft_21 rfl rfl (wp_iconst (v := nI 3) dX10_readLeft_22 rfl (wp_iv2 dX10_readLeft_23 k9_74 q_X7_refuse (by decide) (xsh hX sh_3) (by decide) (Nat.le_of_ble_eq_true rfl) (c_refuse 3 (d + 1) hX) (wb_ret dX10_readLeft_26 rfl rfl ⟨rfl, rfl⟩)))
    · rw [if_neg (by omega)]
      have F1 : xFl (fun i k => i = b) S (xSI S b 5 (nI (t (xts t n p) - 48))) := (xFl.rf S).SI rfl
      obtain ⟨S2, g2, f2, t2⟩ := c_step (d + 0) (F1.XC hX) (hT0.fr F1 (by omega) (fun k => by omega)) (xi h3 (Or.inl (by omega))) hab.2.1
      have F3 : xFl (fun i k => (i = a ∨ i = b ∨ i = c) ∨ (i = 3 ∧ 2 ≤ k)) S S2 := (F1.tr f2).mono (fun i k h => by omega)
      refine ⟨true, S2, ?_, F3, fun e he => (by cases he), fun p' v' he => ?_⟩
      · refine xcall_intro (ls := [.ref a, .ref 3]) q_X10_readLeft (by decide) rfl (Nat.le_of_ble_eq_true rfl) rfl ?_
        refine wp_aload_n dX10_readLeft_0 rfl rfl (gv9_67 dX10_readLeft_1 (xsh hX sh_3) h42 (wp_iconst (v := nI 2) dX10_readLeft_4 rfl ?_))
        refine wn_icmp_eq dX10_readLeft_5 rfl (by omega) (by omega) (fun c5 => ?_) (fun c5 => absurd c5 (by omega))
        refine wp_aload_n dX10_readLeft_13 rfl rfl (wp_iv1 dX10_readLeft_14 k9_70 q_X7_digit (by decide) (xsh hX sh_3) (by decide) (Nat.le_of_ble_eq_true rfl) gd (wp_iconst (v := nI 1) dX10_readLeft_17 rfl ?_))
        refine wn_icmp_ge dX10_readLeft_18 rfl (by omega) (by omega) (fun c18 => ?_) (fun c18 => absurd c18 (by omega))
        exact wp_aload_n dX10_readLeft_27 rfl rfl (g9_11 dX10_readLeft_28 ha ra (wp_iconst (v := nI 5) dX10_readLeft_31 rfl (wp_aload_n dX10_readLeft_32 rfl rfl (wp_iv1 dX10_readLeft_33 k9_70 q_X7_digit (by decide) (xsh hX sh_3) (by decide) (Nat.le_of_ble_eq_true rfl) gd (wn_iastore dX10_readLeft_36 hb rfl (by omega) (by decide) (wp_aload_n dX10_readLeft_37 rfl rfl (wp_iv1 dX10_readLeft_38 k9_52 q_X7_step (by decide) (xsh hX sh_3) (by decide) (Nat.le_of_ble_eq_true rfl) g2 (wp_iconst (v := nI 1) dX10_readLeft_41 rfl (wb_ret dX10_readLeft_42 rfl rfl ⟨rfl, rfl⟩)))))))))
      · cases he
        obtain ⟨v1, v2, v3, v4⟩ := hV
        refine ⟨rfl, f2.i (F1.i hF (by omega)) (by omega), t2, fun i hi => ?_, f2.i (F1.i v2 (by omega)) (by omega), fun i hi => f2.i (F1.i (v3 i hi) (by omega)) (by omega), xyok_up v4 (by show _ ≤ 9; omega) (by omega)⟩
        show _ = nI (xyup v.1 5 (t (xts t n p) - 48) i)
        unfold xyup
        split
        · rename_i q; subst q
          exact f2.i (xI_same _ _ _ _) (by omega)
        · exact f2.i (xi (v1 i hi) (Or.inr (by omega))) (by omega)
  · refine ⟨false, xSI S 3 5 (nI (if xtk t n p = 4 then 1 else 2)), ?_, (xFl.rf S).SI (Or.inr ⟨rfl, by decide⟩), ?_⟩
    · refine xcall_intro (ls := [.ref a, .ref 3]) q_X10_readLeft (by decide) rfl (Nat.le_of_ble_eq_true rfl) rfl ?_
      refine wp_aload_n dX10_readLeft_0 rfl rfl (gv9_67 dX10_readLeft_1 (xsh hX sh_3) h4 (wp_iconst (v := nI 2) dX10_readLeft_4 rfl ?_))
      refine wn_icmp_eq dX10_readLeft_5 rfl (by omega) (by omega) (fun c5 => absurd c5 (by omega)) (fun c5 => ?_)
      exact wp_aload_n dX10_readLeft_8 rfl rfl (wp_iv1 dX10_readLeft_9 k9_48 q_X7_refuseHere (by decide) (xsh hX sh_3) (by decide) (Nat.le_of_ble_eq_true rfl) (c_refuseHere d hX h4 b4) (wb_ret dX10_readLeft_12 rfl rfl ⟨rfl, rfl⟩))
    · unfold xyrule
      rw [if_pos rfl, if_neg h1]
      exact ⟨fun e he => (by cases he; exact ⟨rfl, xI_same _ _ _ _, xi h2 (Or.inr (by decide))⟩), fun p' v' he => (by cases he)⟩
def xDO (a c n : Nat) (t : Nat → Nat) (S S' : xS) (b' : Bool) (X : Except (Nat × Nat) (Nat × List Nat)) : Prop := (∀ e, X = .error e → b' = false ∧ S'.2.1 3 5 = nI e.1 ∧ S'.2.1 3 2 = nI e.2) ∧ (∀ p' l', X = .ok (p', l') → b' = true ∧ xTC S' n t p' ∧ S'.2.1 a 2 = nI l'.length ∧ (∀ i, i < l'.length → S'.2.1 c i = nI (l'.getD i 0)) ∧ S'.2.1 3 5 = S.2.1 3 5)
theorem rhs_loop {a b c n d : Nat} {t : Nat → Nat} (htg : xYdC a b c) : ∀ (j p : Nat) (l : List Nat) (S : xS), l.length + j = 4 → XC S → xTx S n t → xTC S n t p → (∀ i, i < l.length → S.2.1 c i = nI (l.getD i 0)) → Wp false (d + 2) 9 cX10_readRhymes (some .boolean) false 2 [.ref a, .ref 3, .int (nI l.length)] [] S (fun r S' => ∃ b', r = some (.int (xB b')) ∧ xFl (fun i k => (i = a ∧ k = 2) ∨ i = c ∨ (i = 3 ∧ 2 ≤ k)) S S' ∧ xDO a c n t S S' b' (xdigs t n (j + 1) p l)) := by
  intro j
  induction j with
  | zero =>
    intro p l S hj hX hT hC hl
    have htg' := htg
    unfold xYdC at htg'
    obtain ⟨ha, hb, hc, ra, rc⟩ := htg.sh hX
    have hC0 := hC
    have hT0 := hT
    obtain ⟨hp, h2, h3, h4⟩ := hC
    have b4 := xtk_b t n p
    have hab := xta_b t hp
    obtain ⟨hr, hn, hle, hbb⟩ := hT
    by_cases h1 : xtk t n p = 2
    · have hx := xtk2 h1
      have h42 : S.2.1 3 4 = nI 2 := h4.trans (by rw [h1])
      have EX : xdigs t n (0 + 1) p l = .error (3, xts t n p) := by
          unfold xdigs
          rw [if_pos h1, if_pos (by omega)]
      rw [EX]
      have F1 : xFl (fun i k => (i = a ∧ k = 2) ∨ i = c ∨ (i = 3 ∧ 2 ≤ k)) S (xSI S 3 5 (nI 3)) := (xFl.rf S).SI (Or.inr (Or.inr ⟨rfl, by decide⟩))
      have q1 : xDO a c n t S (xSI S 3 5 (nI 3)) false (.error (3, xts t n p)) := ⟨fun e he => (by cases he; exact ⟨rfl, xI_same _ _ _ _, xi h2 (Or.inr (by decide))⟩), fun p' l' he => (by cases he)⟩
      refine wp_iload_n dX10_readRhymes_2 rfl (wp_aload_n dX10_readRhymes_3 rfl rfl (g9_15 dX10_readRhymes_4 ha rc (wp_alen dX10_readRhymes_7 hc ⟨by decide, by decide⟩ rfl ?_)))
      refine wn_icmp_gt dX10_readRhymes_8 rfl (by omega) (by omega) (fun c8 => absurd c8 (by omega)) (fun c8 => ?_)
      refine wp_aload_n dX10_readRhymes_11 rfl rfl (gv9_67 dX10_readRhymes_12 (xsh hX sh_3) h42 (wp_iconst (v := nI 2) dX10_readRhymes_15 rfl ?_))
      refine wn_icmp_eq dX10_readRhymes_16 rfl (by omega) (by omega) (fun c16 => ?_) (fun c16 => absurd c16 (by omega))
      refine wp_iload_n dX10_readRhymes_41 rfl (wp_aload_n dX10_readRhymes_42 rfl rfl (g9_15 dX10_readRhymes_43 ha rc (wp_alen dX10_readRhymes_46 hc ⟨by decide, by decide⟩ rfl ?_)))
      refine wn_icmp_eq dX10_readRhymes_47 rfl (by omega) (by omega) (fun c47 => ?_) (fun c47 => absurd c47 (by omega))
      exact wp_aload_n dX10_readRhymes_60 rfl rfl (wp_iconst (v := nI 3) dX10_readRhymes_61 rfl (wp_iv2 dX10_readRhymes_62 k9_74 q_X7_refuse (by decide) (xsh hX sh_3) (by decide) (Nat.le_of_ble_eq_true rfl) (c_refuse 3 (d + 1) hX) (wb_ret dX10_readRhymes_65 rfl rfl ⟨false, rfl, F1, q1⟩)))
    · have h4' := h4
      rcases Nat.lt_or_ge 0 l.length with hl0 | hl0
      · have EX : xdigs t n (0 + 1) p l = .ok (p, l) := by
          unfold xdigs
          rw [if_neg h1, if_neg (fun e => by rw [e] at hl0; exact absurd hl0 (by decide))]
        rw [EX]
        have F1 : xFl (fun i k => (i = a ∧ k = 2) ∨ i = c ∨ (i = 3 ∧ 2 ≤ k)) S (xSI S a 2 (nI l.length)) := (xFl.rf S).SI (Or.inl ⟨rfl, rfl⟩)
        have q1 : xDO a c n t S (xSI S a 2 (nI l.length)) true (.ok (p, l)) := ⟨fun e he => (by cases he), fun p' l' he => (by cases he; exact ⟨rfl, hC0.fr ((xFl.rf S).SI (P := fun i k => i = a) (k := 2) rfl) (by omega) (by omega) (by omega), xI_same _ _ _ _, fun i hi => xi (hl i hi) (Or.inl (by omega)), xi rfl (Or.inl (by omega))⟩)⟩
        refine wp_iload_n dX10_readRhymes_2 rfl (wp_aload_n dX10_readRhymes_3 rfl rfl (g9_15 dX10_readRhymes_4 ha rc (wp_alen dX10_readRhymes_7 hc ⟨by decide, by decide⟩ rfl ?_)))
        refine wn_icmp_gt dX10_readRhymes_8 rfl (by omega) (by omega) (fun c8 => absurd c8 (by omega)) (fun c8 => ?_)
        refine wp_aload_n dX10_readRhymes_11 rfl rfl (gv9_67 dX10_readRhymes_12 (xsh hX sh_3) h4 (wp_iconst (v := nI 2) dX10_readRhymes_15 rfl ?_))
        refine wn_icmp_eq dX10_readRhymes_16 rfl (by omega) (by omega) (fun c16 => absurd c16 (by omega)) (fun c16 => ?_)
        refine wp_aload_n dX10_readRhymes_19 rfl rfl (wp_iload_n dX10_readRhymes_20 rfl (p9_27 dX10_readRhymes_21 ha (wp_iload_n dX10_readRhymes_24 rfl ?_)))
        refine wn_if_gt dX10_readRhymes_25 rfl (by omega) (fun c25 => ?_) (fun c25 => absurd c25 (by omega))
        exact wp_iconst (v := nI 1) dX10_readRhymes_35 rfl (wp_goto dX10_readRhymes_36 rfl (wb_ret dX10_readRhymes_40 rfl rfl ⟨true, rfl, F1, q1⟩))
      · have hl1 : l = [] := List.eq_nil_of_length_eq_zero (by omega)
        subst hl1
        have EX : xdigs t n (0 + 1) p [] = .error (xfh t n p) := by
          unfold xdigs
          rw [if_neg h1, if_pos rfl]
        rw [EX]
        have gr := c_refuseHere (S := xSI S a 2 (nI 0)) (d + 0) hX (xi h4 (Or.inl (by omega))) b4
        have F1 : xFl (fun i k => (i = a ∧ k = 2) ∨ i = c ∨ (i = 3 ∧ 2 ≤ k)) S (xSI (xSI S a 2 (nI 0)) 3 5 (nI (if xtk t n p = 4 then 1 else 2))) := ((xFl.rf S).SI (Or.inl ⟨rfl, rfl⟩)).SI (Or.inr (Or.inr ⟨rfl, by decide⟩))
        have q1 : xDO a c n t S (xSI (xSI S a 2 (nI 0)) 3 5 (nI (if xtk t n p = 4 then 1 else 2))) false (.error (xfh t n p)) := ⟨fun e he => (by cases he; exact ⟨rfl, xI_same _ _ _ _, xi (xi h2 (Or.inl (by omega))) (Or.inr (by decide))⟩), fun p' l' he => (by cases he)⟩
        refine wp_locals (ls' := [.ref a, .ref 3, .int (nI 0)]) rfl ?_
        refine wp_iload_n dX10_readRhymes_2 rfl (wp_aload_n dX10_readRhymes_3 rfl rfl (g9_15 dX10_readRhymes_4 ha rc (wp_alen dX10_readRhymes_7 hc ⟨by decide, by decide⟩ rfl ?_)))
        refine wn_icmp_gt dX10_readRhymes_8 rfl (by omega) (by omega) (fun c8 => absurd c8 (by omega)) (fun c8 => ?_)
        refine wp_aload_n dX10_readRhymes_11 rfl rfl (gv9_67 dX10_readRhymes_12 (xsh hX sh_3) h4 (wp_iconst (v := nI 2) dX10_readRhymes_15 rfl ?_))
        refine wn_icmp_eq dX10_readRhymes_16 rfl (by omega) (by omega) (fun c16 => absurd c16 (by omega)) (fun c16 => ?_)
        refine wp_aload_n dX10_readRhymes_19 rfl rfl (wp_iload_n dX10_readRhymes_20 rfl (p9_27 dX10_readRhymes_21 ha (wp_iload_n dX10_readRhymes_24 rfl ?_)))
        refine wn_if_gt dX10_readRhymes_25 rfl (by omega) (fun c25 => absurd c25 (by omega)) (fun c25 => ?_)
        refine wp_aload_n dX10_readRhymes_28 rfl rfl (wp_iv1 dX10_readRhymes_29 k9_48 q_X7_refuseHere (by decide) (xsh hX sh_3) (by decide) (Nat.le_of_ble_eq_true rfl) gr ?_)
        refine wb_if_eq dX10_readRhymes_32 rfl (fun c32 => ?_) (fun c32 => absurd c32 (by decide))
        exact wp_iconst (v := nI 0) dX10_readRhymes_39 rfl (wb_ret dX10_readRhymes_40 rfl rfl ⟨false, rfl, F1, q1⟩)
  | succ j ih =>
    intro p l S hj hX hT hC hl
    have htg' := htg
    unfold xYdC at htg'
    obtain ⟨ha, hb, hc, ra, rc⟩ := htg.sh hX
    have hC0 := hC
    have hT0 := hT
    obtain ⟨hp, h2, h3, h4⟩ := hC
    have b4 := xtk_b t n p
    have hab := xta_b t hp
    obtain ⟨hr, hn, hle, hbb⟩ := hT
    by_cases h1 : xtk t n p = 2
    · have hx := xtk2 h1
      have h42 : S.2.1 3 4 = nI 2 := h4.trans (by rw [h1])
      have gd := c_digit (d + 1) hX hT0 h42 (by decide) h2 (fun _ => ⟨by omega, hx.2.2.2.1⟩)
      rw [if_pos rfl] at gd
      have gi := c_isSlot (nI (t (xts t n p) - 48)) (d + 1) S
      rw [xsl_n (by omega)] at gi
      rcases Nat.lt_or_ge 5 (t (xts t n p) - 48) with hd | hd
      · have EX : xdigs t n ((j + 1) + 1) p l = .error (3, xts t n p) := by
          unfold xdigs
          rw [if_pos h1, if_pos (by omega)]
        rw [EX]
        have F1 : xFl (fun i k => (i = a ∧ k = 2) ∨ i = c ∨ (i = 3 ∧ 2 ≤ k)) S (xSI S 3 5 (nI 3)) := (xFl.rf S).SI (Or.inr (Or.inr ⟨rfl, by decide⟩))
        have q1 : xDO a c n t S (xSI S 3 5 (nI 3)) false (.error (3, xts t n p)) := ⟨fun e he => (by cases he; exact ⟨rfl, xI_same _ _ _ _, xi h2 (Or.inr (by decide))⟩), fun p' l' he => (by cases he)⟩
        refine wp_iload_n dX10_readRhymes_2 rfl (wp_aload_n dX10_readRhymes_3 rfl rfl (g9_15 dX10_readRhymes_4 ha rc (wp_alen dX10_readRhymes_7 hc ⟨by decide, by decide⟩ rfl ?_)))
        refine wn_icmp_gt dX10_readRhymes_8 rfl (by omega) (by omega) (fun c8 => absurd c8 (by omega)) (fun c8 => ?_)
        refine wp_aload_n dX10_readRhymes_11 rfl rfl (gv9_67 dX10_readRhymes_12 (xsh hX sh_3) h42 (wp_iconst (v := nI 2) dX10_readRhymes_15 rfl ?_))
        refine wn_icmp_eq dX10_readRhymes_16 rfl (by omega) (by omega) (fun c16 => ?_) (fun c16 => absurd c16 (by omega))
        refine wp_iload_n dX10_readRhymes_41 rfl (wp_aload_n dX10_readRhymes_42 rfl rfl (g9_15 dX10_readRhymes_43 ha rc (wp_alen dX10_readRhymes_46 hc ⟨by decide, by decide⟩ rfl ?_)))
        refine wn_icmp_eq dX10_readRhymes_47 rfl (by omega) (by omega) (fun c47 => absurd c47 (by omega)) (fun c47 => ?_)
        refine wp_aload_n dX10_readRhymes_50 rfl rfl (wp_iv1 dX10_readRhymes_51 k9_70 q_X7_digit (by decide) (xsh hX sh_3) (by decide) (Nat.le_of_ble_eq_true rfl) gd (wp_is1 dX10_readRhymes_54 k9_78 q_X11_isSlot (by decide) (Nat.le_of_ble_eq_true rfl) gi ?_))
        refine wb_if_ne dX10_readRhymes_57 rfl (fun c57 => absurd c57 (by rw [decide_eq_false (by omega)]; decide)) (fun c57 => ?_)
        exact wp_aload_n dX10_readRhymes_60 rfl rfl (wp_iconst (v := nI 3) dX10_readRhymes_61 rfl (wp_iv2 dX10_readRhymes_62 k9_74 q_X7_refuse (by decide) (xsh hX sh_3) (by decide) (Nat.le_of_ble_eq_true rfl) (c_refuse 3 (d + 1) hX) (wb_ret dX10_readRhymes_65 rfl rfl ⟨false, rfl, F1, q1⟩)))
      · have EX : xdigs t n (j + 1 + 1) p l = xdigs t n (j + 1) (xta t n p) (l ++ [t (xts t n p) - 48]) := by
          rw [xdigs, if_pos h1, if_neg (by omega)]
        rw [EX]
        have F1 : xFl (fun i k => (i = a ∧ k = 2) ∨ i = c ∨ (i = 3 ∧ 2 ≤ k)) S (xSI S c l.length (nI (t (xts t n p) - 48))) := (xFl.rf S).SI (Or.inr (Or.inl rfl))
        obtain ⟨S2, g2, f2, t2⟩ := c_step (d + 0) (F1.XC hX) (hT0.fr F1 (by omega) (fun k => by omega)) (xi h3 (Or.inl (by omega))) hab.2.1
        have F3 : xFl (fun i k => (i = a ∧ k = 2) ∨ i = c ∨ (i = 3 ∧ 2 ≤ k)) S S2 := F1.tt (f2.mono (fun i k h => by omega))
        have X2 := F3.XC hX
        have hll : (l ++ [t (xts t n p) - 48]).length = l.length + 1 := by rw [List.length_append]; rfl
        have e5 : S2.2.1 3 5 = S.2.1 3 5 := f2.i (xi rfl (Or.inl (by omega))) (by omega)
        have hl2 : ∀ i, i < (l ++ [t (xts t n p) - 48]).length → S2.2.1 c i = nI ((l ++ [t (xts t n p) - 48]).getD i 0) := by
          intro i hi
          rw [xgetD_app i hi]
          split
          · rename_i q; exact f2.i (xi (hl i q) (Or.inr (by omega))) (by omega)
          · rw [show i = l.length by omega]; exact f2.i (xI_same _ _ _ _) (by omega)
        refine wp_iload_n dX10_readRhymes_2 rfl (wp_aload_n dX10_readRhymes_3 rfl rfl (g9_15 dX10_readRhymes_4 ha rc (wp_alen dX10_readRhymes_7 hc ⟨by decide, by decide⟩ rfl ?_)))
        refine wn_icmp_gt dX10_readRhymes_8 rfl (by omega) (by omega) (fun c8 => absurd c8 (by omega)) (fun c8 => ?_)
        refine wp_aload_n dX10_readRhymes_11 rfl rfl (gv9_67 dX10_readRhymes_12 (xsh hX sh_3) h42 (wp_iconst (v := nI 2) dX10_readRhymes_15 rfl ?_))
        refine wn_icmp_eq dX10_readRhymes_16 rfl (by omega) (by omega) (fun c16 => ?_) (fun c16 => absurd c16 (by omega))
        refine wp_iload_n dX10_readRhymes_41 rfl (wp_aload_n dX10_readRhymes_42 rfl rfl (g9_15 dX10_readRhymes_43 ha rc (wp_alen dX10_readRhymes_46 hc ⟨by decide, by decide⟩ rfl ?_)))
        refine wn_icmp_eq dX10_readRhymes_47 rfl (by omega) (by omega) (fun c47 => absurd c47 (by omega)) (fun c47 => ?_)
        refine wp_aload_n dX10_readRhymes_50 rfl rfl (wp_iv1 dX10_readRhymes_51 k9_70 q_X7_digit (by decide) (xsh hX sh_3) (by decide) (Nat.le_of_ble_eq_true rfl) gd (wp_is1 dX10_readRhymes_54 k9_78 q_X11_isSlot (by decide) (Nat.le_of_ble_eq_true rfl) gi ?_))
        refine wb_if_ne dX10_readRhymes_57 rfl (fun c57 => ?_) (fun c57 => absurd c57 (by rw [decide_eq_true (by omega)]; decide))
        refine wp_aload_n dX10_readRhymes_66 rfl rfl (g9_15 dX10_readRhymes_67 ha rc (wp_iload_n dX10_readRhymes_70 rfl (wp_aload_n dX10_readRhymes_71 rfl rfl (wp_iv1 dX10_readRhymes_72 k9_70 q_X7_digit (by decide) (xsh hX sh_3) (by decide) (Nat.le_of_ble_eq_true rfl) gd (wn_iastore dX10_readRhymes_75 hc rfl (by omega) (by decide) (wp_aload_n dX10_readRhymes_76 rfl rfl (wp_iv1 dX10_readRhymes_77 k9_52 q_X7_step (by decide) (xsh hX sh_3) (by decide) (Nat.le_of_ble_eq_true rfl) g2 (wp_iinc dX10_readRhymes_80 rfl (nI_1 _) ⟨Nat.le_of_ble_eq_true rfl, Or.inr rfl⟩ rfl (wp_goto dX10_readRhymes_83 rfl ?_)))))))))
        have ih2 := ih (xta t n p) (l ++ [t (xts t n p) - 48]) S2 (by omega) X2 (hT0.fr F3 (by omega) (fun k => by omega)) t2 hl2
        rw [hll] at ih2
        refine ih2.mono ?_
        rintro r S' ⟨b', p1, p2, p3⟩
        exact ⟨b', p1, F3.tt p2, p3.1, fun p' l' he => (by obtain ⟨z1, z2, z3, z4, z5⟩ := p3.2 p' l' he; exact ⟨z1, z2, z3, z4, z5.trans e5⟩)⟩
    · have h4' := h4
      rcases Nat.lt_or_ge 0 l.length with hl0 | hl0
      · have EX : xdigs t n ((j + 1) + 1) p l = .ok (p, l) := by
          unfold xdigs
          rw [if_neg h1, if_neg (fun e => by rw [e] at hl0; exact absurd hl0 (by decide))]
        rw [EX]
        have F1 : xFl (fun i k => (i = a ∧ k = 2) ∨ i = c ∨ (i = 3 ∧ 2 ≤ k)) S (xSI S a 2 (nI l.length)) := (xFl.rf S).SI (Or.inl ⟨rfl, rfl⟩)
        have q1 : xDO a c n t S (xSI S a 2 (nI l.length)) true (.ok (p, l)) := ⟨fun e he => (by cases he), fun p' l' he => (by cases he; exact ⟨rfl, hC0.fr ((xFl.rf S).SI (P := fun i k => i = a) (k := 2) rfl) (by omega) (by omega) (by omega), xI_same _ _ _ _, fun i hi => xi (hl i hi) (Or.inl (by omega)), xi rfl (Or.inl (by omega))⟩)⟩
        refine wp_iload_n dX10_readRhymes_2 rfl (wp_aload_n dX10_readRhymes_3 rfl rfl (g9_15 dX10_readRhymes_4 ha rc (wp_alen dX10_readRhymes_7 hc ⟨by decide, by decide⟩ rfl ?_)))
        refine wn_icmp_gt dX10_readRhymes_8 rfl (by omega) (by omega) (fun c8 => absurd c8 (by omega)) (fun c8 => ?_)
        refine wp_aload_n dX10_readRhymes_11 rfl rfl (gv9_67 dX10_readRhymes_12 (xsh hX sh_3) h4 (wp_iconst (v := nI 2) dX10_readRhymes_15 rfl ?_))
        refine wn_icmp_eq dX10_readRhymes_16 rfl (by omega) (by omega) (fun c16 => absurd c16 (by omega)) (fun c16 => ?_)
        refine wp_aload_n dX10_readRhymes_19 rfl rfl (wp_iload_n dX10_readRhymes_20 rfl (p9_27 dX10_readRhymes_21 ha (wp_iload_n dX10_readRhymes_24 rfl ?_)))
        refine wn_if_gt dX10_readRhymes_25 rfl (by omega) (fun c25 => ?_) (fun c25 => absurd c25 (by omega))
        exact wp_iconst (v := nI 1) dX10_readRhymes_35 rfl (wp_goto dX10_readRhymes_36 rfl (wb_ret dX10_readRhymes_40 rfl rfl ⟨true, rfl, F1, q1⟩))
      · have hl1 : l = [] := List.eq_nil_of_length_eq_zero (by omega)
        subst hl1
        have EX : xdigs t n ((j + 1) + 1) p [] = .error (xfh t n p) := by
          unfold xdigs
          rw [if_neg h1, if_pos rfl]
        rw [EX]
        have gr := c_refuseHere (S := xSI S a 2 (nI 0)) (d + 0) hX (xi h4 (Or.inl (by omega))) b4
        have F1 : xFl (fun i k => (i = a ∧ k = 2) ∨ i = c ∨ (i = 3 ∧ 2 ≤ k)) S (xSI (xSI S a 2 (nI 0)) 3 5 (nI (if xtk t n p = 4 then 1 else 2))) := ((xFl.rf S).SI (Or.inl ⟨rfl, rfl⟩)).SI (Or.inr (Or.inr ⟨rfl, by decide⟩))
        have q1 : xDO a c n t S (xSI (xSI S a 2 (nI 0)) 3 5 (nI (if xtk t n p = 4 then 1 else 2))) false (.error (xfh t n p)) := ⟨fun e he => (by cases he; exact ⟨rfl, xI_same _ _ _ _, xi (xi h2 (Or.inl (by omega))) (Or.inr (by decide))⟩), fun p' l' he => (by cases he)⟩
        refine wp_locals (ls' := [.ref a, .ref 3, .int (nI 0)]) rfl ?_
        refine wp_iload_n dX10_readRhymes_2 rfl (wp_aload_n dX10_readRhymes_3 rfl rfl (g9_15 dX10_readRhymes_4 ha rc (wp_alen dX10_readRhymes_7 hc ⟨by decide, by decide⟩ rfl ?_)))
        refine wn_icmp_gt dX10_readRhymes_8 rfl (by omega) (by omega) (fun c8 => absurd c8 (by omega)) (fun c8 => ?_)
        refine wp_aload_n dX10_readRhymes_11 rfl rfl (gv9_67 dX10_readRhymes_12 (xsh hX sh_3) h4 (wp_iconst (v := nI 2) dX10_readRhymes_15 rfl ?_))
        refine wn_icmp_eq dX10_readRhymes_16 rfl (by omega) (by omega) (fun c16 => absurd c16 (by omega)) (fun c16 => ?_)
        refine wp_aload_n dX10_readRhymes_19 rfl rfl (wp_iload_n dX10_readRhymes_20 rfl (p9_27 dX10_readRhymes_21 ha (wp_iload_n dX10_readRhymes_24 rfl ?_)))
        refine wn_if_gt dX10_readRhymes_25 rfl (by omega) (fun c25 => absurd c25 (by omega)) (fun c25 => ?_)
        refine wp_aload_n dX10_readRhymes_28 rfl rfl (wp_iv1 dX10_readRhymes_29 k9_48 q_X7_refuseHere (by decide) (xsh hX sh_3) (by decide) (Nat.le_of_ble_eq_true rfl) gr ?_)
        refine wb_if_eq dX10_readRhymes_32 rfl (fun c32 => ?_) (fun c32 => absurd c32 (by decide))
        exact wp_iconst (v := nI 0) dX10_readRhymes_39 rfl (wb_ret dX10_readRhymes_40 rfl rfl ⟨false, rfl, F1, q1⟩)
theorem c_readRhymes {a b c n p : Nat} {t : Nat → Nat} {v : xYd} (d : Nat) (htg : xYdC a b c) {S : xS} (hX : XC S) (hT : xTx S n t) (hC : xTC S n t p) (hV : xYdV a b c S v) (hF : S.2.1 3 5 = nI 0) : ∃ b' S', xcall false (d + 2) j_X10_readRhymes [.ref a, .ref 3] S (some (.int (xB b'))) S' ∧ xFl (fun i k => (i = a ∨ i = b ∨ i = c) ∨ (i = 3 ∧ 2 ≤ k)) S S' ∧ xRO (xYdV a b c) n t S' b' (xyrule t n 6 p v) := by
  have htg' := htg
  unfold xYdC at htg'
  obtain ⟨ha, hb, hc, ra, rc⟩ := htg.sh hX
  have key : ∃ r S', xcall false (d + 2) j_X10_readRhymes [.ref a, .ref 3] S r S' ∧ (∃ b', r = some (.int (xB b')) ∧ xFl (fun i k => (i = a ∧ k = 2) ∨ i = c ∨ (i = 3 ∧ 2 ≤ k)) S S' ∧ xDO a c n t S S' b' (xdigs t n (4 + 1) p [])) := by
    refine xcall_some (ls := [.ref a, .ref 3, .float 0]) q_X10_readRhymes (by decide) rfl (Nat.le_of_ble_eq_true rfl) rfl ?_
    exact wp_iconst (v := nI 0) dX10_readRhymes_0 rfl (wp_istore_n dX10_readRhymes_1 ⟨Nat.le_of_ble_eq_true rfl, Or.inr rfl⟩ rfl (rhs_loop htg 4 p [] S rfl hX hT hC (fun i hi => absurd hi (Nat.not_lt_zero i))))
  obtain ⟨r, S', h1, b', rfl, p1, p2⟩ := key
  refine ⟨b', S', h1, p1.mono (fun i k h => by omega), ?_⟩
  have ER : xyrule t n 6 p v = match xdigs t n 5 p [] with
    | .error e => .error e
    | .ok q => .ok (q.1, (v.1, q.2)) := by
    unfold xyrule
    rw [if_neg (by decide), if_pos rfl]
  rw [ER]
  cases hd : xdigs t n 5 p [] with
  | error e =>
    obtain ⟨z1, z2, z3⟩ := p2.1 e hd
    exact ⟨fun e' he => (by cases he; exact ⟨z1, z2, z3⟩), fun p' v' he => (by cases he)⟩
  | ok q =>
    obtain ⟨p', l'⟩ := q
    obtain ⟨z1, z2, z3, z4, z5⟩ := p2.2 p' l' hd
    have hin := xdigs_in _ _ _ _ _ hd (fun x hx => (by cases hx)) (by decide)
    obtain ⟨v1, v2, v3, v4⟩ := hV
    exact ⟨fun e he => (by cases he), fun p2 v2 he => (by cases he; exact ⟨z1, z5.trans hF, z2, fun i hi => p1.i (v1 i hi) (by omega), z3, z4, v4.1, v4.2.1, hin.2.1, hin.2.2, hin.1⟩)⟩
theorem xpick2' (n : Nat) (t : Nat → Nat) (p : Nat) : xpick 2 n t p = xopt (xwh t n p [xw_words, xw_beats] 0) := by
  rw [xpick_2]
  simp only [xwh]
  repeat' split
  all_goals rfl
theorem xpick3' (n : Nat) (t : Nat → Nat) (p : Nat) : xpick 3 n t p = xopt (xwh t n p [xw_heads, xw_fists] 0) := by
  rw [xpick_3]
  simp only [xwh]
  repeat' split
  all_goals rfl
theorem xpick4' (n : Nat) (t : Nat → Nat) (p : Nat) : xpick 4 n t p = xopt (xwh t n p [xw_out, xw_stays] 0) := by
  rw [xpick_4]
  simp only [xwh]
  repeat' split
  all_goals rfl
theorem xpick5' (n : Nat) (t : Nat → Nat) (p : Nat) : xpick 5 n t p = xopt (xwh t n p [xw_next, xw_same, xw_caller] 0) := by
  rw [xpick_5]
  simp only [xwh]
  repeat' split
  all_goals rfl
theorem xpick6' (n : Nat) (t : Nat → Nat) (p : Nat) : xpick 6 n t p = xopt (xwh t n p [xw_never, xw_always] 0) := by
  rw [xpick_6]
  simp only [xwh]
  repeat' split
  all_goals rfl
theorem xpick7' (n : Nat) (t : Nat → Nat) (p : Nat) : xpick 7 n t p = xopt (xwh t n p [xw_left, xw_free] 0) := by
  rw [xpick_7]
  simp only [xwh]
  repeat' split
  all_goals rfl
def xytws : List (List Nat) := [xw_count, xw_by, xw_hit, xw_then, xw_turn, xw_left, xw_rhymes, xw_aim]
theorem xpick8' (n : Nat) (t : Nat → Nat) (p : Nat) : xpick 8 n t p = xopt (xwh t n p xytws 0) := by
  rw [xpick_8]
  simp only [xwh, xytws]
  repeat' split
  all_goals rfl
theorem xychs_pick {r : Nat} (hr : r < 8) (h5 : r ≠ 5) (h6 : r ≠ 6) (n : Nat) (t : Nat → Nat) (p : Nat) : xpick (if r < 5 then 2 + r else 7) n t p = xopt (xwh t n p (xychs r) 0) := by
  rcases (show r = 0 ∨ r = 1 ∨ r = 2 ∨ r = 3 ∨ r = 4 ∨ r = 7 by omega) with rfl | rfl | rfl | rfl | rfl | rfl
  · exact xpick2' n t p
  · exact xpick3' n t p
  · exact xpick4' n t p
  · exact xpick5' n t p
  · exact xpick6' n t p
  · exact xpick7' n t p
theorem xychs_top {r k n p : Nat} {t : Nat → Nat} (hr : r < 8) (h5 : r ≠ 5) (h6 : r ≠ 6) (h : xwh t n p (xychs r) 0 = some k) : k ≤ xytop r := by
  have := (xwh_lt _ _ h).2
  have e : (xychs r).length = xytop r + 1 := by
    rcases (show r = 0 ∨ r = 1 ∨ r = 2 ∨ r = 3 ∨ r = 4 ∨ r = 7 by omega) with rfl | rfl | rfl | rfl | rfl | rfl <;> rfl
  omega
theorem c_yrule {a b c n p : Nat} {t : Nat → Nat} {v : xYd} (d : Nat) (htg : xYdC a b c) {S : xS} (hX : XC S) (hT : xTx S n t) (hC : xTC S n t p) (hV : xYdV a b c S v) (hF : S.2.1 3 5 = nI 0) {r : Nat} (hr8 : r < 8) (h5 : r ≠ 5) (h6 : r ≠ 6) : ∃ b' S', xcall false (d + 3) j_X10_readRule [.ref a, .int (nI r), .ref 3] S (some (.int (xB b'))) S' ∧ xFl (fun i k => (i = a ∨ i = b ∨ i = c) ∨ (i = 3 ∧ 2 ≤ k)) S S' ∧ xRO (xYdV a b c) n t S' b' (xyrule t n r p v) := by
  have htg' := htg
  unfold xYdC at htg'
  obtain ⟨ha, hb, hc, ra, rc⟩ := htg.sh hX
  have hC0 := hC
  have hT0 := hT
  obtain ⟨hp, h2, h3, h4⟩ := hC
  have b4 := xtk_b t n p
  have hab := xta_b t hp
  obtain ⟨hr, hn, hle, hbb⟩ := hT
  have gc := c_choicesOf (S := S) r (d + 2) hr8
  have gk := c_pick hX hT0 hC0 (q := if r < 5 then 2 + r else 7) (by split <;> omega) (xStr_all _ (by split <;> omega)).1 d
  rw [xychs_pick hr8 h5 h6] at gk
  have ER : xyrule t n r p v = match xwh t n p (xychs r) 0 with
    | none => .error (xfh t n p)
    | some k => .ok (xta t n p, (xyup v.1 r k, v.2)) := by
    unfold xyrule
    rw [if_neg h5, if_neg h6]
  rw [ER]
  cases hw : xwh t n p (xychs r) 0 with
  | none =>
    rw [hw] at gk
    refine ⟨false, xSI S 3 5 (nI (if xtk t n p = 4 then 1 else 2)), ?_, (xFl.rf S).SI (Or.inr ⟨rfl, by decide⟩), ?_⟩
    · refine xcall_intro (ls := [.ref a, .int (nI r), .ref 3, .float 0]) q_X10_readRule (by decide) rfl (Nat.le_of_ble_eq_true rfl) rfl ?_
      refine wp_iload_n dX10_readRule_0 rfl (wp_iconst (v := nI 5) dX10_readRule_1 rfl ?_)
      refine wn_icmp_ne dX10_readRule_2 rfl (by omega) (by omega) (fun c2 => ?_) (fun c2 => absurd c2 (by omega))
      refine wp_iload_n dX10_readRule_11 rfl (wp_bipush (v := nI 6) dX10_readRule_12 rfl ?_)
      refine wn_icmp_ne dX10_readRule_14 rfl (by omega) (by omega) (fun c14 => ?_) (fun c14 => absurd c14 (by omega))
      refine wp_aload_n dX10_readRule_23 rfl rfl (wp_iload_n dX10_readRule_24 rfl (wp_is1 dX10_readRule_25 k9_38 q_X10_choicesOf (by decide) (Nat.le_of_ble_eq_true rfl) gc (wp_iv2 dX10_readRule_28 k9_42 q_X7_pick (by decide) (xsh hX sh_3) (by decide) (Nat.le_of_ble_eq_true rfl) gk (wp_istore_n dX10_readRule_31 ⟨Nat.le_of_ble_eq_true rfl, Or.inr rfl⟩ rfl (wp_iload_n dX10_readRule_32 rfl (wp_iconst (v := -1) dX10_readRule_33 rfl ?_))))))
      refine wp_icmp_eq dX10_readRule_34 rfl (fun c34 => ?_) (fun c34 => absurd c34 (not_not_intro rfl))
      exact wp_aload_n dX10_readRule_50 rfl rfl (wp_iv1 dX10_readRule_51 k9_48 q_X7_refuseHere (by decide) (xsh hX sh_3) (by decide) (Nat.le_of_ble_eq_true rfl) (c_refuseHere (d + 1) hX h4 b4) (wb_ret dX10_readRule_54 rfl rfl ⟨rfl, rfl⟩))
    · exact ⟨fun e he => (by cases he; exact ⟨rfl, xI_same _ _ _ _, xi h2 (Or.inr (by decide))⟩), fun p' v' he => (by cases he)⟩
  | some k =>
    rw [hw] at gk
    have hk3 := (xwh_lt _ _ hw).2
    have hk4 := xychs_top hr8 h5 h6 hw
    have hk9 : k < 2 ^ 31 := by unfold xytop at hk4; split at hk4 <;> (try split at hk4) <;> omega
    have F1 : xFl (fun i k => i = b) S (xSI S b r (nI k)) := (xFl.rf S).SI rfl
    obtain ⟨S2, g2, f2, t2⟩ := c_step (d + 1) (F1.XC hX) (hT0.fr F1 (by omega) (fun k => by omega)) (xi h3 (Or.inl (by omega))) hab.2.1
    have F3 : xFl (fun i k => (i = a ∨ i = b ∨ i = c) ∨ (i = 3 ∧ 2 ≤ k)) S S2 := (F1.tr f2).mono (fun i k h => by omega)
    refine ⟨true, S2, ?_, F3, ?_⟩
    · refine xcall_intro (ls := [.ref a, .int (nI r), .ref 3, .float 0]) q_X10_readRule (by decide) rfl (Nat.le_of_ble_eq_true rfl) rfl ?_
      refine wp_iload_n dX10_readRule_0 rfl (wp_iconst (v := nI 5) dX10_readRule_1 rfl ?_)
      refine wn_icmp_ne dX10_readRule_2 rfl (by omega) (by omega) (fun c2 => ?_) (fun c2 => absurd c2 (by omega))
      refine wp_iload_n dX10_readRule_11 rfl (wp_bipush (v := nI 6) dX10_readRule_12 rfl ?_)
      refine wn_icmp_ne dX10_readRule_14 rfl (by omega) (by omega) (fun c14 => ?_) (fun c14 => absurd c14 (by omega))
      refine wp_aload_n dX10_readRule_23 rfl rfl (wp_iload_n dX10_readRule_24 rfl (wp_is1 dX10_readRule_25 k9_38 q_X10_choicesOf (by decide) (Nat.le_of_ble_eq_true rfl) gc (wp_iv2 dX10_readRule_28 k9_42 q_X7_pick (by decide) (xsh hX sh_3) (by decide) (Nat.le_of_ble_eq_true rfl) gk (wp_istore_n dX10_readRule_31 ⟨Nat.le_of_ble_eq_true rfl, Or.inr rfl⟩ rfl (wp_iload_n dX10_readRule_32 rfl (wp_iconst (v := -1) dX10_readRule_33 rfl ?_))))))
      refine wp_icmp_eq dX10_readRule_34 rfl (fun c34 => absurd c34 (nI_m1 hk9)) (fun c34 => ?_)
      refine wp_iload_n dX10_readRule_37 rfl ?_
      refine wn_if_lt dX10_readRule_38 rfl (by omega) ?_
      refine wp_iload_n dX10_readRule_41 rfl (wp_aload_n dX10_readRule_42 rfl rfl (g9_11 dX10_readRule_43 ha ra (wp_alen dX10_readRule_46 hb ⟨by decide, by decide⟩ rfl ?_)))
      refine wn_icmp_lt dX10_readRule_47 rfl (by omega) (by omega) (fun c47 => ?_) (fun c47 => absurd c47 (by omega))
      exact wp_aload_n dX10_readRule_55 rfl rfl (g9_11 dX10_readRule_56 ha ra (wp_iload_n dX10_readRule_59 rfl (wp_iload_n dX10_readRule_60 rfl (wn_iastore dX10_readRule_61 hb rfl (by omega) (by decide) (wp_aload_n dX10_readRule_62 rfl rfl (wp_iv1 dX10_readRule_63 k9_52 q_X7_step (by decide) (xsh hX sh_3) (by decide) (Nat.le_of_ble_eq_true rfl) g2 (wp_iconst (v := nI 1) dX10_readRule_66 rfl (wb_ret dX10_readRule_67 rfl rfl ⟨rfl, rfl⟩))))))))
    · refine ⟨fun e he => (by cases he), fun p' v' he => ?_⟩
      cases he
      obtain ⟨v1, v2, v3, v4⟩ := hV
      refine ⟨rfl, f2.i (F1.i hF (by omega)) (by omega), t2, fun i hi => ?_, f2.i (F1.i v2 (by omega)) (by omega), fun i hi => f2.i (F1.i (v3 i hi) (by omega)) (by omega), xyok_up' v4 hk4 h5⟩
      show _ = nI (xyup v.1 r k i)
      unfold xyup
      split
      · rename_i q; subst q
        exact f2.i (xI_same _ _ _ _) (by omega)
      · exact f2.i (xi (v1 i hi) (Or.inr (by omega))) (by omega)
theorem c_yrule5 {a b c n p : Nat} {t : Nat → Nat} {v : xYd} (d : Nat) (htg : xYdC a b c) {S : xS} (hX : XC S) (hT : xTx S n t) (hC : xTC S n t p) (hV : xYdV a b c S v) (hF : S.2.1 3 5 = nI 0) : ∃ b' S', xcall false (d + 3) j_X10_readRule [.ref a, .int (nI 5), .ref 3] S (some (.int (xB b'))) S' ∧ xFl (fun i k => (i = a ∨ i = b ∨ i = c) ∨ (i = 3 ∧ 2 ≤ k)) S S' ∧ xRO (xYdV a b c) n t S' b' (xyrule t n 5 p v) := by
  have htg' := htg
  unfold xYdC at htg'
  obtain ⟨ha, hb, hc, ra, rc⟩ := htg.sh hX
  obtain ⟨b', S', g, h1, h2⟩ := c_readLeft d htg hX hT hC hV hF
  refine ⟨b', S', ?_, h1, h2⟩
  refine xcall_intro (ls := [.ref a, .int (nI 5), .ref 3, .float 0]) q_X10_readRule (by decide) rfl (Nat.le_of_ble_eq_true rfl) rfl ?_
  refine wp_iload_n dX10_readRule_0 rfl (wp_iconst (v := nI 5) dX10_readRule_1 rfl ?_)
  refine wn_icmp_ne dX10_readRule_2 rfl (by omega) (by omega) (fun c2 => absurd c2 (by omega)) (fun c2 => ?_)
  exact wp_aload_n dX10_readRule_5 rfl rfl (wp_aload_n dX10_readRule_6 rfl rfl (wp_iv2 dX10_readRule_7 k9_31 q_X10_readLeft (by decide) ha (by decide) (Nat.le_of_ble_eq_true rfl) g (wb_ret dX10_readRule_10 rfl rfl ⟨rfl, rfl⟩)))
theorem c_yrule6 {a b c n p : Nat} {t : Nat → Nat} {v : xYd} (d : Nat) (htg : xYdC a b c) {S : xS} (hX : XC S) (hT : xTx S n t) (hC : xTC S n t p) (hV : xYdV a b c S v) (hF : S.2.1 3 5 = nI 0) : ∃ b' S', xcall false (d + 3) j_X10_readRule [.ref a, .int (nI 6), .ref 3] S (some (.int (xB b'))) S' ∧ xFl (fun i k => (i = a ∨ i = b ∨ i = c) ∨ (i = 3 ∧ 2 ≤ k)) S S' ∧ xRO (xYdV a b c) n t S' b' (xyrule t n 6 p v) := by
  have htg' := htg
  unfold xYdC at htg'
  obtain ⟨ha, hb, hc, ra, rc⟩ := htg.sh hX
  obtain ⟨b', S', g, h1, h2⟩ := c_readRhymes d htg hX hT hC hV hF
  refine ⟨b', S', ?_, h1, h2⟩
  refine xcall_intro (ls := [.ref a, .int (nI 6), .ref 3, .float 0]) q_X10_readRule (by decide) rfl (Nat.le_of_ble_eq_true rfl) rfl ?_
  refine wp_iload_n dX10_readRule_0 rfl (wp_iconst (v := nI 5) dX10_readRule_1 rfl ?_)
  refine wn_icmp_ne dX10_readRule_2 rfl (by omega) (by omega) (fun c2 => ?_) (fun c2 => absurd c2 (by omega))
  refine wp_iload_n dX10_readRule_11 rfl (wp_bipush (v := nI 6) dX10_readRule_12 rfl ?_)
  refine wn_icmp_ne dX10_readRule_14 rfl (by omega) (by omega) (fun c14 => absurd c14 (by omega)) (fun c14 => ?_)
  exact wp_aload_n dX10_readRule_17 rfl rfl (wp_aload_n dX10_readRule_18 rfl rfl (wp_iv2 dX10_readRule_19 k9_35 q_X10_readRhymes (by decide) ha (by decide) (Nat.le_of_ble_eq_true rfl) g (wb_ret dX10_readRule_22 rfl rfl ⟨rfl, rfl⟩)))
/-- THE YARD's text, read into the spare one -/
theorem c_readYard {a b c n : Nat} {t : Nat → Nat} (d : Nat) (htg : xYdC a b c) {S : xS} (hX : XC S) (hT : xTx S n t) (hC : xTC S n t 0) (hF : S.2.1 3 5 = nI 0) : ∃ k S', xcall false (d + 5) j_X5_read [.ref a, .ref 3, .retAddr 8, .int (nI 8)] S (some (.int k)) S' ∧ xFl (fun i k => (i = a ∨ i = b ∨ i = c) ∨ (i = 3 ∧ 2 ≤ k)) S S' ∧ xRT2 (xYdV a b c) S' k (xtxt t n xytws (xyrule t n) 9 0 0 0 (xyf0, [0])) := by
  have htg' := htg
  unfold xYdC at htg'
  obtain ⟨S0, g0, f0, v0⟩ := c_ydReset htg (d + 2) hX
  refine c_read (PV := fun i k => i = a ∨ i = b ∨ i = c) (VP := xYdV a b c) (oo := 9) (nn := 3) (jr := j_X10_readRule) (js := j_X10_reset) (most := 8) (d + 1) (fun k => ⟨by omega, by omega⟩) (fun S S' P v h hf hn => xYdV.fr S S' P v h hf hn) (Or.inr rfl) rfl (by decide) rfl (by decide) (fun p => xpick8' n t p) rfl rfl ?_ hX (htg.sh hX).1 hT hC hF g0 f0 v0
  intro r p v S hr hX hsa hT hC hV hF
  rcases Decidable.em (r = 5) with rfl | h5
  · exact c_yrule5 (d + 1) htg hX hT hC hV hF
  · rcases Decidable.em (r = 6) with rfl | h6
    · exact c_yrule6 (d + 1) htg hX hT hC hV hF
    · exact c_yrule (d + 1) htg hX hT hC hV hF hr h5 h6
