/-! what the start holds -/
theorem xchkI_g {S : xS} (h : xchkI S = true) {a k v : Nat} (hm : (a, k, v) ∈ xints) : S.2.1 a k = nI v := of_decide_eq_true (List.all_eq_true.mp h _ hm)
theorem xchkR_g {S : xS} (h : xchkR S = true) {a k v : Nat} (hm : (a, k, v) ∈ xrefs) : S.2.2.1 a k = some v := of_decide_eq_true (List.all_eq_true.mp (Bool.and_eq_true_iff.mp h).1 _ hm)
theorem xchkR_t {S : xS} (h : xchkR S = true) {a k b : Nat} (hb : xRT a k = some b) : S.2.2.1 a k = some b := by
  have h2 := (Bool.and_eq_true_iff.mp h).2
  unfold xRT at hb
  cases e1 : xRTl.find? (fun e => e.1 == a) with
  | none => rw [e1] at hb; cases hb
  | some x =>
    rw [e1] at hb
    have hb : (x.2.find? (fun q => q.1 == k)).map (fun q => q.2) = some b := hb
    cases e2 : x.2.find? (fun q => q.1 == k) with
    | none => rw [e2] at hb; cases hb
    | some q =>
      rw [e2] at hb
      have hb : q.2 = b := Option.some.inj hb
      have h3 := of_decide_eq_true (List.all_eq_true.mp (List.all_eq_true.mp h2 _ (List.mem_of_find?_eq_some e1)) _ (List.mem_of_find?_eq_some e2))
      have f1 := List.find?_some e1
      have f2 := List.find?_some e2
      have g1 : x.1 = a := eq_of_beq f1
      have g2 : q.1 = k := eq_of_beq f2
      rw [g1, g2, hb] at h3
      exact h3
def xc0 : xPx := ((xyf0, [0]), (17842449, [], [], 0), [[97]], [[97]], fun _ => none)
theorem xc0_ok : xzo xc0 := by
  refine ⟨⟨by decide +kernel, by decide +kernel, by decide, by decide, by decide⟩, ⟨by decide, by decide, ?_⟩, ⟨by decide, by decide, ?_⟩, fun s n t L hs e => by cases e⟩ <;>
  · intro x hx
    rw [List.mem_singleton.mp hx]
    exact ⟨by decide, by decide, by decide +kernel⟩
theorem xlt1 {q : Nat} (h : q < 1) : q = 0 := by omega
theorem xlt6 {P : Nat → Prop} (h0 : P 0) (h1 : P 1) (h2 : P 2) (h3 : P 3) (h4 : P 4) (h5 : P 5) (k : Nat) (hk : k < 6) : P k := by
  rcases (show k = 0 ∨ k = 1 ∨ k = 2 ∨ k = 3 ∨ k = 4 ∨ k = 5 by omega) with rfl | rfl | rfl | rfl | rfl | rfl <;> assumption
theorem xstartR {S : xS} (h : xchkA S = true) : xR S 0 := by
  unfold xchkA at h
  obtain ⟨h, hN⟩ := Bool.and_eq_true_iff.mp h
  obtain ⟨h, hR⟩ := Bool.and_eq_true_iff.mp h
  obtain ⟨h, hI⟩ := Bool.and_eq_true_iff.mp h
  have hX : XC S := ⟨of_decide_eq_true h, fun a k b e => xchkR_t hR e⟩
  have gI : ∀ a k v, (a, k, v) ∈ xints → S.2.1 a k = nI v := fun a k v hm => xchkI_g hI hm
  have gR : ∀ a k v, (a, k, v) ∈ xrefs → S.2.2.1 a k = some v := fun a k v hm => xchkR_g hR hm
  have hwv : ∀ a, S.2.1 a 3 = nI 1 → S.2.1 (a + 2) 0 = nI 0 → S.2.1 (a + 2) 1 = nI 1 → S.2.1 (a + 1) 0 = nI 97 → xWV a (a + 1) (a + 2) S [[97]] := fun a e1 e2 e3 e4 => by
    refine ⟨e1, ⟨fun q hq => ?_, fun q k hq hk => ?_⟩, xc0_ok.2.1.2.2, by decide, by decide⟩
    · rcases (show q = 0 ∨ q = 1 by have : q ≤ 1 := hq; omega) with rfl | rfl
      · exact e2
      · exact e3
    · have hq0 := xlt1 hq
      subst hq0
      have hk0 := xlt1 hk
      subst hk0
      exact e4
  refine ⟨xc0, fun _ => 0, 0, fun _ => 0, [], [], 0, xc0_ok, Nat.zero_le _, Nat.zero_le _, ?_, ?_, ?_, ⟨?_, ?_⟩, ?_⟩
  · refine ⟨11, 14, 5, 8, 60, 64, 68, fun k => 18 + 6 * k, Or.inl ⟨rfl, rfl⟩, Or.inl ⟨rfl, rfl⟩, ⟨Or.inl rfl, Or.inr (Or.inl rfl), Or.inr (Or.inr rfl), by decide, by decide, by decide⟩, ⟨fun k hk => by show xRo (18 + 6 * k); unfold xRo; omega, fun i j hi hj hij => by show 18 + 6 * i ≠ 18 + 6 * j; omega⟩, hX, ⟨gR _ _ _ (by decide), gR _ _ _ (by decide), gR _ _ _ (by decide), gR _ _ _ (by decide), gR _ _ _ (by decide), gR _ _ _ (by decide), gR _ _ _ (by decide), gR _ _ _ (by decide)⟩, gI _ _ _ (by decide), ?_, ?_, ?_, ?_, ?_, ?_, ?_, ?_⟩
    · intro k hk
      refine ⟨xlt6 (P := fun k => S.2.2.1 17 k = some (18 + 6 * k)) (gR _ _ _ (by decide)) (gR _ _ _ (by decide)) (gR _ _ _ (by decide)) (gR _ _ _ (by decide)) (gR _ _ _ (by decide)) (gR _ _ _ (by decide)) k hk, fun _ => xlt6 (P := fun k => S.2.1 (18 + 6 * k) 9 = nI 0) (gI _ _ _ (by decide)) (gI _ _ _ (by decide)) (gI _ _ _ (by decide)) (gI _ _ _ (by decide)) (gI _ _ _ (by decide)) (gI _ _ _ (by decide)) k hk, fun n t L e => by cases e⟩
    · exact fun k hk n t L e => by cases e
    · exact fun k hk e => absurd rfl e
    · refine ⟨fun i hi => ?_, gI _ _ _ (by decide), fun i hi => ?_, xc0_ok.1⟩
      · rcases (show i = 0 ∨ i = 1 ∨ i = 2 ∨ i = 3 ∨ i = 4 ∨ i = 5 ∨ i = 6 ∨ i = 7 by omega) with rfl | rfl | rfl | rfl | rfl | rfl | rfl | rfl <;> exact gI _ _ _ (by decide)
      · have hi0 := xlt1 hi
        subst hi0
        exact gI _ _ _ (by decide)
    · exact ⟨⟨gI _ _ _ (by decide), by decide⟩, ⟨gI _ _ _ (by decide), by decide, fun i hi => absurd hi (Nat.not_lt_zero i), fun x hx => absurd hx List.not_mem_nil⟩, ⟨gI _ _ _ (by decide), by decide, fun i hi => absurd hi (Nat.not_lt_zero i), fun x hx => absurd hx List.not_mem_nil⟩, gI _ _ _ (by decide), by decide⟩
    · exact hwv 60 (gI _ _ _ (by decide)) (gI _ _ _ (by decide)) (gI _ _ _ (by decide)) (gI _ _ _ (by decide))
    · intro i hi
      have hi0 := xlt1 hi
      subst hi0
      exact (gI 63 0 1 (by decide)).trans (congrArg nI (show 1 = xwB xc0.2.1 (xc0.2.2.1.getD 0 []) by decide +kernel))
    · exact hwv 64 (gI _ _ _ (by decide)) (gI _ _ _ (by decide)) (gI _ _ _ (by decide)) (gI _ _ _ (by decide))
  · exact ⟨gI _ _ _ (by decide), xTb0 _ _, gI _ _ _ (by decide), gI _ _ _ (by decide), fun k hk => absurd hk (Nat.not_lt_zero k), gI _ _ _ (by decide), fun k hk => absurd hk (Nat.not_lt_zero k)⟩
  · exact ⟨gI _ _ _ (by decide), fun x hx => ⟨0, Nat.le_refl 0, of_decide_eq_true (List.all_eq_true.mp hN x (List.mem_range.mpr hx))⟩⟩
  · refine ⟨hX, fun k hk => ⟨fun _ => xlt6 (P := fun k => S.2.1 203 k = nI 0) (gI _ _ _ (by decide)) (gI _ _ _ (by decide)) (gI _ _ _ (by decide)) (gI _ _ _ (by decide)) (gI _ _ _ (by decide)) (gI _ _ _ (by decide)) k hk, fun n t L e => by cases e⟩, ?_, ?_, ?_, ?_, gI _ _ _ (by decide)⟩
    · exact ⟨⟨gI _ _ _ (by decide), by decide⟩, ⟨gI _ _ _ (by decide), by decide, fun i hi => absurd hi (Nat.not_lt_zero i), fun x hx => absurd hx List.not_mem_nil⟩, ⟨gI _ _ _ (by decide), by decide, fun i hi => absurd hi (Nat.not_lt_zero i), fun x hx => absurd hx List.not_mem_nil⟩, gI _ _ _ (by decide), by decide⟩
    · refine ⟨fun i hi => xlt6 (P := fun i => S.2.1 208 i = nI (xyf0 i)) (gI _ _ _ (by decide)) (gI _ _ _ (by decide)) (gI _ _ _ (by decide)) (gI _ _ _ (by decide)) (gI _ _ _ (by decide)) (gI _ _ _ (by decide)) i hi, gI _ _ _ (by decide), gI _ _ _ (by decide), fun i hi => ?_, xc0_ok.1⟩
      have hi0 := xlt1 hi
      subst hi0
      exact gI _ _ _ (by decide)
    · refine ⟨fun q hq => ?_, gI _ _ _ (by decide), xc0_ok.2.1⟩
      have hq0 := xlt1 hq
      subst hq0
      refine ⟨gI _ _ _ (by decide), fun k hk => ?_⟩
      have hk0 := xlt1 hk
      subst hk0
      exact gI _ _ _ (by decide)
    · intro q hq
      have hq0 := xlt1 hq
      subst hq0
      refine ⟨gI _ _ _ (by decide), fun k hk => ?_⟩
      have hk0 := xlt1 hk
      subst hk0
      exact gI _ _ _ (by decide)
  · exact fun k hk e => absurd rfl e
  · exact ⟨gI _ _ _ (by decide), xTr0 _ _, gI _ _ _ (by decide), gI _ _ _ (by decide), fun k hk => absurd hk (Nat.not_lt_zero k), gI _ _ _ (by decide), fun k hk => absurd hk (Nat.not_lt_zero k)⟩
theorem xck2_g {o : xO} (h : xck2 o = true) : ∃ S2, o = some (none, S2) ∧ xchkA (xNew S2 24 1) = true ∧ S2.1.length = 230 := by
  unfold xck2 at h
  split at h
  · rename_i S2
    obtain ⟨h1, h2⟩ := Bool.and_eq_true_iff.mp h
    exact ⟨S2, rfl, h1, of_decide_eq_true h2⟩
  · cases h
theorem xck1_g {o : xO} (h : xck1 o = true) : ∃ S, o = some (none, S) ∧ xck2 (xrn2 S) = true ∧ S.1.length = 187 := by
  unfold xck1 at h
  split at h
  · rename_i S2
    obtain ⟨h1, h2⟩ := Bool.and_eq_true_iff.mp h
    exact ⟨S2, rfl, h1, of_decide_eq_true h2⟩
  · cases h
theorem xchkA_s {S : xS} (h : xchkA S = true) : S.1 = xSH := by
  unfold xchkA at h
  obtain ⟨h, -⟩ := Bool.and_eq_true_iff.mp h
  obtain ⟨h, -⟩ := Bool.and_eq_true_iff.mp h
  obtain ⟨h, -⟩ := Bool.and_eq_true_iff.mp h
  exact of_decide_eq_true h
theorem xstart : ∃ S1 S2, xrn1 = some (none, S1) ∧ xrn2 S1 = some (none, S2) ∧ S1.1.length = 187 ∧ S2.1.length = 230 ∧ (xNew S2 24 1).1 = xSH ∧ xR (xNew S2 24 1) 0 := by
  obtain ⟨S1, e1, h1, l1⟩ := xck1_g xrun_ok
  obtain ⟨S2, e2, h2, l2⟩ := xck2_g h1
  exact ⟨S1, S2, e1, e2, l1, l2, xchkA_s h2, xstartR h2⟩
