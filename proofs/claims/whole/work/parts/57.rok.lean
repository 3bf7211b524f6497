/-! A RHYME read: what its lines and items are -/
/-- how many bytes an item has -/
def xisz (o : xIt) : Nat := if o.1 = 1 then o.2.2 + 1 else o.2.2
def xcs (ln : xLn) : List (Nat × Nat × Nat) := (if 1 < ln.1 then [(ln.2.1, 5, 2)] else []) ++ ln.2.2.map (fun o => (o.2.1, o.1, xisz o))
def xchn : Nat → List (Nat × Nat × Nat) → Nat → Prop
  | b, [], e => b = e
  | b, q :: Q, e => q.1 = b ∧ xchn (b + q.2.2 + 1) Q e
theorem xchn_app {q : Nat × Nat × Nat} {e : Nat} : ∀ (Q : List (Nat × Nat × Nat)) (b : Nat), xchn b (Q ++ [q]) e ↔ xchn b Q q.1 ∧ q.1 + q.2.2 + 1 = e
  | [], b => ⟨fun h => by obtain ⟨h1, h2⟩ := h; have h2' : b + q.2.2 + 1 = e := h2; exact ⟨h1.symm, by omega⟩, fun h => by obtain ⟨h1, h2⟩ := h; have h1' : b = q.1 := h1; exact ⟨h1'.symm, by show b + q.2.2 + 1 = e; omega⟩⟩
  | a :: Q, b => by
    show (a.1 = b ∧ xchn (b + a.2.2 + 1) (Q ++ [q]) e) ↔ (a.1 = b ∧ xchn (b + a.2.2 + 1) Q q.1) ∧ _
    rw [xchn_app Q (b + a.2.2 + 1), and_assoc]
theorem xchn_le : ∀ (Q : List (Nat × Nat × Nat)) (b e : Nat), xchn b Q e → b + Q.length ≤ e
  | [], b, e, h => by have h' : b = e := h; simp; omega
  | a :: Q, b, e, h => by
    have := xchn_le Q _ _ h.2
    simp only [List.length_cons]
    omega
theorem xchn_get : ∀ (Q : List (Nat × Nat × Nat)) (b e i : Nat), xchn b Q e → i < Q.length → (Q.getD i (0, 0, 0)).1 + (Q.getD i (0, 0, 0)).2.2 + 1 = (if i + 1 < Q.length then (Q.getD (i + 1) (0, 0, 0)).1 else e) ∧ (Q.getD i (0, 0, 0)).1 + (Q.getD i (0, 0, 0)).2.2 + 1 ≤ e
  | [], _, _, _, _, h => absurd h (Nat.not_lt_zero _)
  | [a], b, e, 0, h, _ => by
    have h2 : b + a.2.2 + 1 = e := h.2
    have h1 : a.1 = b := h.1
    refine ⟨?_, ?_⟩
    · show a.1 + a.2.2 + 1 = e
      omega
    · show a.1 + a.2.2 + 1 ≤ e
      omega
  | [a], b, e, i + 1, _, hi => absurd hi (by simp)
  | a :: c :: Q, b, e, 0, h, _ => by
    have h1 : a.1 = b := h.1
    have h2 : c.1 = b + a.2.2 + 1 := h.2.1
    have := xchn_le (c :: Q) _ _ h.2
    refine ⟨?_, ?_⟩
    · rw [if_pos (by simp)]
      show a.1 + a.2.2 + 1 = c.1
      omega
    · show a.1 + a.2.2 + 1 ≤ e
      simp only [List.length_cons] at this
      omega
  | a :: c :: Q, b, e, i + 1, h, hi => by
    have ih := xchn_get (c :: Q) _ e i h.2 (by simpa using hi)
    simp only [List.getD_cons_succ, List.length_cons] at ih ⊢
    refine ⟨?_, ih.2⟩
    rw [ih.1]
    have e1 : (i + 1 + 1 < Q.length + 1 + 1) ↔ (i + 1 < Q.length + 1) := by omega
    simp only [e1]
/-- what an item spells -/
def xiok (t : Nat → Nat) (o : xIt) : Prop := (o.1 = 0 ∨ o.1 = 1 → 1 ≤ o.2.2 ∧ o.2.2 ≤ 12 ∧ ∀ k, k < o.2.2 → xsm (t (o.2.1 + k)) = true) ∧ (o.1 = 1 → t (o.2.1 + o.2.2) = 33) ∧ (o.1 = 2 → t o.2.1 = 45 ∧ o.2.2 = 1) ∧ (o.1 = 3 → t o.2.1 = 64 ∧ o.2.2 = 1) ∧ (o.1 = 4 → t o.2.1 = 63 ∧ o.2.2 = 1) ∧ o.1 ≤ 4
def xtok (t : Nat → Nat) (tm st : Nat) : Prop := 1 < tm → t st = 48 + tm ∧ t (st + 1) = 120
def xlok (t : Nat → Nat) (ln : xLn) : Prop := 1 ≤ ln.1 ∧ ln.1 ≤ 9 ∧ xtok t ln.1 ln.2.1 ∧ ln.2.2 ≠ [] ∧ ∀ x ∈ ln.2.2, xiok t x
def xnoask (L : List xLn) : Prop := ∀ ln ∈ L, ∀ x ∈ ln.2.2, x.1 ≠ 4
def xZok (t : Nat → Nat) (p s : Nat) (D : List xLn) (tm st : Nat) (I : List xIt) (o : xIt) : Prop :=
  (∀ ln ∈ D, xlok t ln) ∧ xnoask D ∧ (∀ x ∈ I, xiok t x ∧ x.1 ≠ 4) ∧ (1 ≤ tm ∧ tm ≤ 9 ∧ s ≤ 6) ∧
  (s = 0 → I = [] ∧ tm = 1 ∧ xchn 0 (D.flatMap xcs) p) ∧
  (s = 1 → I = [] ∧ 1 < tm ∧ t st = 48 + tm ∧ p = st + 1 ∧ xchn 0 (D.flatMap xcs) st) ∧
  (s = 2 → I = [] ∧ 1 < tm ∧ t st = 48 + tm ∧ t (st + 1) = 120 ∧ p = st + 2 ∧ xchn 0 (D.flatMap xcs) st) ∧
  (3 ≤ s → xtok t tm st) ∧
  (s = 3 → xchn 0 (D.flatMap xcs ++ xcs (tm, st, I)) p) ∧
  (4 ≤ s → xchn 0 (D.flatMap xcs ++ xcs (tm, st, I)) o.2.1 ∧ o.2.1 + xisz o = p) ∧
  (s = 4 → o.1 = 0 ∧ 1 ≤ o.2.2 ∧ o.2.2 ≤ 12 ∧ ∀ k, k < o.2.2 → xsm (t (o.2.1 + k)) = true) ∧ (s = 5 → xiok t o ∧ o.1 ≠ 4) ∧ (s = 6 → xiok t o ∧ o.1 = 4 ∧ tm = 1)
theorem xcs_it (tm st : Nat) (I : List xIt) (o : xIt) : xcs (tm, st, I ++ [o]) = xcs (tm, st, I) ++ [(o.2.1, o.1, xisz o)] := by
  unfold xcs
  simp only [List.map_append, List.map_cons, List.map_nil, List.append_assoc]
theorem xZ_ti {t : Nat → Nat} {p tm st : Nat} {D : List xLn} {I : List xIt} {z : xRz} (h : xsti (t p) p tm st D I = .ok z) (h1 : ∀ ln ∈ D, xlok t ln) (h2 : xnoask D) (h3 : ∀ x ∈ I, xiok t x ∧ x.1 ≠ 4) (h4 : 1 ≤ tm ∧ tm ≤ 9) (h5 : xtok t tm st) (h6 : xchn 0 (D.flatMap xcs ++ xcs (tm, st, I)) p) : xZok t (p + 1) z.1 z.2.1 z.2.2.1 z.2.2.2.1 z.2.2.2.2.1 z.2.2.2.2.2 := by
  unfold xsti at h
  cases hk : xkd (t p) with
  | none => rw [hk] at h; cases h
  | some k =>
    rw [hk] at h
    dsimp only at h
    split at h
    · cases h
    · rename_i hno
      cases h
      have hk4 := xkd_in hk
      have ek : (k = 0 ∧ xsm (t p) = true) ∨ (k = 2 ∧ t p = 45) ∨ (k = 3 ∧ t p = 64) ∨ (k = 4 ∧ t p = 63) := by
        unfold xkd at hk
        split at hk
        · rename_i e; cases hk; exact Or.inr (Or.inl ⟨rfl, e⟩)
        · split at hk
          · rename_i e; cases hk; exact Or.inr (Or.inr (Or.inl ⟨rfl, e⟩))
          · split at hk
            · rename_i e; cases hk; exact Or.inr (Or.inr (Or.inr ⟨rfl, e⟩))
            · split at hk
              · rename_i e; cases hk; exact Or.inl ⟨rfl, e⟩
              · cases hk
      rcases ek with ⟨rfl, e⟩ | ⟨rfl, e⟩ | ⟨rfl, e⟩ | ⟨rfl, e⟩
      · exact ⟨h1, h2, h3, ⟨h4.1, h4.2, Nat.le_of_ble_eq_true rfl⟩, fun w => (by cases w), fun w => (by cases w), fun w => (by cases w), fun _ => h5, fun w => (by cases w), fun _ => ⟨h6, rfl⟩, fun _ => ⟨rfl, Nat.le_of_ble_eq_true rfl, Nat.le_of_ble_eq_true rfl, fun q hq => by have hq' : q < 1 := hq; rw [show q = 0 by omega]; exact e⟩, fun w => (by cases w), fun w => (by cases w)⟩
      · exact ⟨h1, h2, h3, ⟨h4.1, h4.2, Nat.le_of_ble_eq_true rfl⟩, fun w => (by cases w), fun w => (by cases w), fun w => (by cases w), fun _ => h5, fun w => (by cases w), fun _ => ⟨h6, rfl⟩, fun w => (by cases w), fun _ => ⟨⟨fun w => (by rcases w with w | w <;> cases w), fun w => (by cases w), fun _ => ⟨e, rfl⟩, fun w => (by cases w), fun w => (by cases w), by show (2 : Nat) ≤ 4; decide⟩, by show ¬ (2 : Nat) = 4; decide⟩, fun w => (by cases w)⟩
      · exact ⟨h1, h2, h3, ⟨h4.1, h4.2, Nat.le_of_ble_eq_true rfl⟩, fun w => (by cases w), fun w => (by cases w), fun w => (by cases w), fun _ => h5, fun w => (by cases w), fun _ => ⟨h6, rfl⟩, fun w => (by cases w), fun _ => ⟨⟨fun w => (by rcases w with w | w <;> cases w), fun w => (by cases w), fun w => (by cases w), fun _ => ⟨e, rfl⟩, fun w => (by cases w), by show (3 : Nat) ≤ 4; decide⟩, by show ¬ (3 : Nat) = 4; decide⟩, fun w => (by cases w)⟩
      · have ht : tm = 1 := by
          rcases Nat.lt_or_ge 1 tm with w | w
          · exact absurd ⟨rfl, w⟩ hno
          · omega
        exact ⟨h1, h2, h3, ⟨h4.1, h4.2, Nat.le_of_ble_eq_true rfl⟩, fun w => (by cases w), fun w => (by cases w), fun w => (by cases w), fun _ => h5, fun w => (by cases w), fun _ => ⟨h6, rfl⟩, fun w => (by cases w), fun w => (by cases w), fun _ => ⟨⟨fun w => (by rcases w with w | w <;> cases w), fun w => (by cases w), fun w => (by cases w), fun w => (by cases w), fun _ => ⟨e, rfl⟩, by show (4 : Nat) ≤ 4; decide⟩, rfl, ht⟩⟩
theorem xZ_tb {t : Nat → Nat} {p tm st : Nat} {D : List xLn} {I : List xIt} {o : xIt} {z : xRz} (h : xstb (t p) D tm st I o = .ok z) (h1 : ∀ ln ∈ D, xlok t ln) (h2 : xnoask D) (h3 : ∀ x ∈ I, xiok t x ∧ x.1 ≠ 4) (h4 : 1 ≤ tm ∧ tm ≤ 9) (h5 : xtok t tm st) (h6 : xchn 0 (D.flatMap xcs ++ xcs (tm, st, I)) o.2.1 ∧ o.2.1 + xisz o = p) (ho : xiok t o ∧ o.1 ≠ 4) : xZok t (p + 1) z.1 z.2.1 z.2.2.1 z.2.2.2.1 z.2.2.2.2.1 z.2.2.2.2.2 := by
  have hI : ∀ x ∈ I ++ [o], xiok t x ∧ x.1 ≠ 4 := fun x hx => (List.mem_append.mp hx).elim (h3 x) (fun w => by rw [List.mem_singleton.mp w]; exact ho)
  have hc : xchn 0 (D.flatMap xcs ++ xcs (tm, st, I ++ [o])) (p + 1) := by
    rw [xcs_it, ← List.append_assoc, xchn_app]
    exact ⟨h6.1, by show o.2.1 + xisz o + 1 = p + 1; omega⟩
  unfold xstb at h
  split at h
  · cases h
    exact ⟨h1, h2, hI, ⟨h4.1, h4.2, Nat.le_of_ble_eq_true rfl⟩, fun w => (by cases w), fun w => (by cases w), fun w => (by cases w), fun _ => h5, fun _ => hc, fun w => absurd w (by show ¬ 4 ≤ 3; decide), fun w => (by cases w), fun w => (by cases w), fun w => (by cases w)⟩
  · split at h
    · split at h
      · cases h
      · cases h
        refine ⟨fun ln hln => ?_, fun ln hln => ?_, fun x hx => (by cases hx), ⟨Nat.le_of_ble_eq_true rfl, Nat.le_of_ble_eq_true rfl, Nat.le_of_ble_eq_true rfl⟩, fun _ => ⟨rfl, rfl, ?_⟩, fun w => (by cases w), fun w => (by cases w), fun w => absurd w (by show ¬ 3 ≤ 0; decide), fun w => (by cases w), fun w => absurd w (by show ¬ 4 ≤ 0; decide), fun w => (by cases w), fun w => (by cases w), fun w => (by cases w)⟩
        · rcases List.mem_append.mp hln with w | w
          · exact h1 ln w
          · rw [List.mem_singleton.mp w]
            exact ⟨h4.1, h4.2, h5, by show I ++ [o] ≠ []; simp, fun x hx => (hI x hx).1⟩
        · rcases List.mem_append.mp hln with w | w
          · exact h2 ln w
          · rw [List.mem_singleton.mp w]
            exact fun x hx => (hI x hx).2
        · show xchn 0 ((D ++ [(tm, st, I ++ [o])]).flatMap xcs) (p + 1)
          rw [xflat_snoc]
          exact hc
    · cases h
theorem xZ_st {t : Nat → Nat} {p s tm st : Nat} {D : List xLn} {I : List xIt} {o : xIt} {z : xRz} (h : xst (t p) p s D tm st I o = .ok z) (H : xZok t p s D tm st I o) : xZok t (p + 1) z.1 z.2.1 z.2.2.1 z.2.2.2.1 z.2.2.2.2.1 z.2.2.2.2.2 := by
  obtain ⟨a1, a2, a3, a4, b0, b1, b2, c1, b3, c2, b4, b5, b6⟩ := H
  unfold xst at h
  rcases (show s = 0 ∨ s = 1 ∨ s = 2 ∨ s = 3 ∨ s = 4 ∨ s = 5 ∨ s = 6 by omega) with rfl | rfl | rfl | rfl | rfl | rfl | rfl
  · obtain ⟨rfl, rfl, hc⟩ := b0 rfl
    rw [if_pos rfl] at h
    split at h
    · rename_i hcc
      cases h
      refine ⟨a1, a2, fun x hx => (by cases hx), ⟨by show 1 ≤ t p - 48; omega, by show t p - 48 ≤ 9; omega, Nat.le_of_ble_eq_true rfl⟩, fun w => (by cases w), fun _ => ⟨rfl, by show 1 < t p - 48; omega, by show t p = 48 + (t p - 48); omega, rfl, hc⟩, fun w => (by cases w), fun w => absurd w (by show ¬ 3 ≤ 1; decide), fun w => (by cases w), fun w => absurd w (by show ¬ 4 ≤ 1; decide), fun w => (by cases w), fun w => (by cases w), fun w => (by cases w)⟩
    · refine xZ_ti h a1 a2 (fun x hx => by cases hx) ⟨by decide, by decide⟩ (fun w => absurd w (by decide)) ?_
      show xchn 0 (D.flatMap xcs ++ []) p
      rw [List.append_nil]
      exact hc
  · obtain ⟨rfl, h1, h2, h3, hc⟩ := b1 rfl
    rw [if_neg (by decide), if_pos rfl] at h
    split at h
    · rename_i e
      cases h
      exact ⟨a1, a2, a3, ⟨a4.1, a4.2.1, Nat.le_of_ble_eq_true rfl⟩, fun w => (by cases w), fun w => (by cases w), fun _ => ⟨rfl, h1, h2, by rw [← h3]; exact e, by show p + 1 = st + 2; omega, hc⟩, fun w => absurd w (by show ¬ 3 ≤ 2; decide), fun w => (by cases w), fun w => absurd w (by show ¬ 4 ≤ 2; decide), fun w => (by cases w), fun w => (by cases w), fun w => (by cases w)⟩
    · cases h
  · obtain ⟨rfl, h1, h2, h3, h4, hc⟩ := b2 rfl
    rw [if_neg (by decide), if_neg (by decide), if_pos rfl] at h
    split at h
    · cases h
      refine ⟨a1, a2, a3, ⟨a4.1, a4.2.1, Nat.le_of_ble_eq_true rfl⟩, fun w => (by cases w), fun w => (by cases w), fun w => (by cases w), fun _ _ => ⟨h2, h3⟩, fun _ => ?_, fun w => absurd w (by show ¬ 4 ≤ 3; decide), fun w => (by cases w), fun w => (by cases w), fun w => (by cases w)⟩
      show xchn 0 (D.flatMap xcs ++ xcs (tm, st, [])) (p + 1)
      have e : xcs (tm, st, []) = [(st, 5, 2)] := by unfold xcs; rw [if_pos h1]; rfl
      rw [e, xchn_app]
      exact ⟨hc, by show st + 2 + 1 = p + 1; omega⟩
    · cases h
  · rw [if_neg (by decide), if_neg (by decide), if_neg (by decide), if_pos rfl] at h
    exact xZ_ti h a1 a2 a3 ⟨a4.1, a4.2.1⟩ (c1 (by decide)) (b3 rfl)
  · obtain ⟨o1, o2, o3, o4⟩ := b4 rfl
    obtain ⟨d1, d2⟩ := c2 (by decide)
    have ez : xisz o = o.2.2 := by unfold xisz; rw [if_neg (by omega)]
    rw [if_neg (by decide), if_neg (by decide), if_neg (by decide), if_neg (by decide), if_pos rfl] at h
    split at h
    · rename_i hs
      split at h
      · cases h
      · rename_i hw
        cases h
        refine ⟨a1, a2, a3, ⟨a4.1, a4.2.1, Nat.le_of_ble_eq_true rfl⟩, fun w => (by cases w), fun w => (by cases w), fun w => (by cases w), fun _ => c1 (by decide), fun w => (by cases w), fun _ => ⟨d1, ?_⟩, fun _ => ⟨o1, by show 1 ≤ o.2.2 + 1; omega, by show o.2.2 + 1 ≤ 12; omega, fun q hq => ?_⟩, fun w => (by cases w), fun w => (by cases w)⟩
        · show o.2.1 + xisz (o.1, o.2.1, o.2.2 + 1) = p + 1
          unfold xisz
          rw [if_neg (by show ¬ o.1 = 1; omega)]
          show o.2.1 + (o.2.2 + 1) = p + 1
          omega
        · have hq' : q < o.2.2 + 1 := hq
          show xsm (t (o.2.1 + q)) = true
          rcases Nat.lt_or_ge q o.2.2 with w | w
          · exact o4 q w
          · rw [show o.2.1 + q = p by omega]; exact hs
    · split at h
      · rename_i e33
        cases h
        refine ⟨a1, a2, a3, ⟨a4.1, a4.2.1, Nat.le_of_ble_eq_true rfl⟩, fun w => (by cases w), fun w => (by cases w), fun w => (by cases w), fun _ => c1 (by decide), fun w => (by cases w), fun _ => ⟨d1, ?_⟩, fun w => (by cases w), fun _ => ⟨⟨fun _ => ⟨o2, o3, o4⟩, fun _ => ?_, fun w => (by cases w), fun w => (by cases w), fun w => (by cases w), by show (1 : Nat) ≤ 4; decide⟩, by show ¬ (1 : Nat) = 4; decide⟩, fun w => (by cases w)⟩
        · show o.2.1 + xisz (1, o.2.1, o.2.2) = p + 1
          have e : xisz (1, o.2.1, o.2.2) = o.2.2 + 1 := rfl
          omega
        · show t (o.2.1 + o.2.2) = 33
          rw [show o.2.1 + o.2.2 = p by omega]; exact e33
      · exact xZ_tb h a1 a2 a3 ⟨a4.1, a4.2.1⟩ (c1 (by decide)) ⟨d1, d2⟩ ⟨⟨fun _ => ⟨o2, o3, o4⟩, fun w => (by omega), fun w => (by omega), fun w => (by omega), fun w => (by omega), by omega⟩, by omega⟩
  · rw [if_neg (by decide), if_neg (by decide), if_neg (by decide), if_neg (by decide), if_neg (by decide), if_pos rfl] at h
    exact xZ_tb h a1 a2 a3 ⟨a4.1, a4.2.1⟩ (c1 (by decide)) (c2 (by decide)) (b5 rfl)
  · rw [if_neg (by decide), if_neg (by decide), if_neg (by decide), if_neg (by decide), if_neg (by decide), if_neg (by decide)] at h
    cases h
/-- a RHYME that was read -/
def xRok (t : Nat → Nat) (m : Nat) (L : List xLn) : Prop := (∀ ln ∈ L, xlok t ln) ∧ xchn 0 (L.flatMap xcs) (m + 1) ∧ ∃ D tm st I o, L = D ++ [(tm, st, I ++ [o])] ∧ xnoask D ∧ (∀ x ∈ I, x.1 ≠ 4) ∧ (o.1 = 4 → tm = 1)
theorem xra_ok {t : Nat → Nat} {m : Nat} {big : Bool} : ∀ (j s : Nat) (D : List xLn) (tm st : Nat) (I : List xIt) (o : xIt) (L : List xLn), j ≤ m → xra t m big j (s, D, tm, st, I, o) = .ok L → xZok t (m - j) s D tm st I o → xRok t m L ∧ xsnd L = true ∧ big = false
  | 0, s, D, tm, st, I, o, L, hj, h, H => by
    obtain ⟨a1, a2, a3, a4, b0, b1, b2, c1, b3, c2, b4, b5, b6⟩ := H
    unfold xra at h
    split at h
    · cases h
    · rename_i hs
      have hs4 : 4 ≤ s := by omega
      have hbig : big = false := by
        cases big with
        | false => rfl
        | true => exact absurd (Or.inl rfl) hs
      split at h
      · cases h
      · rename_i hsn
        cases h
        obtain ⟨d1, d2⟩ := c2 hs4
        have ho : xiok t o ∧ (o.1 = 4 → tm = 1) := by
          rcases (show s = 4 ∨ s = 5 ∨ s = 6 by omega) with rfl | rfl | rfl
          · obtain ⟨o1, o2, o3, o4⟩ := b4 rfl
            exact ⟨⟨fun _ => ⟨o2, o3, o4⟩, fun w => (by omega), fun w => (by omega), fun w => (by omega), fun w => (by omega), by omega⟩, fun w => (by omega)⟩
          · exact ⟨(b5 rfl).1, fun w => absurd w (b5 rfl).2⟩
          · exact ⟨(b6 rfl).1, fun _ => (b6 rfl).2.2⟩
        refine ⟨⟨fun ln hln => ?_, ?_, D, tm, st, I, o, rfl, a2, fun x hx => (a3 x hx).2, ho.2⟩, ?_, hbig⟩
        · rcases List.mem_append.mp hln with w | w
          · exact a1 ln w
          · rw [List.mem_singleton.mp w]
            exact ⟨a4.1, a4.2.1, c1 (by omega), by show I ++ [o] ≠ []; simp, fun x hx => (List.mem_append.mp hx).elim (fun w => (a3 x w).1) (fun w => by rw [List.mem_singleton.mp w]; exact ho.1)⟩
        · rw [xflat_snoc, xcs_it, ← List.append_assoc, xchn_app]
          exact ⟨d1, by show o.2.1 + xisz o + 1 = m + 1; omega⟩
        · cases hx : xsnd (D ++ [(tm, st, I ++ [o])]) with
          | true => rfl
          | false => exact absurd hx hsn
  | j + 1, s, D, tm, st, I, o, L, hj, h, H => by
    unfold xra at h
    cases hst : xst (t (m - (j + 1))) (m - (j + 1)) s D tm st I o with
    | error e => rw [hst] at h; cases h
    | ok z =>
      rw [hst] at h
      have H2 := xZ_st hst H
      rw [show m - (j + 1) + 1 = m - j by omega] at H2
      obtain ⟨s2, D2, tm2, st2, I2, o2⟩ := z
      exact xra_ok j s2 D2 tm2 st2 I2 o2 L (by omega) h H2
theorem xrhy_ok {t : Nat → Nat} {n : Nat} {L : List xLn} (h : xrhy t n = .ok L) : xRok t n L ∧ xsnd L = true ∧ n ≤ 240 := by
  have H : xZok t (min n 240 - min n 240) 0 [] 1 0 [] (0, 0, 0) := by
    rw [Nat.sub_self]
    exact ⟨fun x hx => (by cases hx), fun x hx => (by cases hx), fun x hx => (by cases hx), ⟨Nat.le_of_ble_eq_true rfl, Nat.le_of_ble_eq_true rfl, Nat.le_of_ble_eq_true rfl⟩, fun _ => ⟨rfl, rfl, rfl⟩, fun w => (by cases w), fun w => (by cases w), fun w => absurd w (by decide), fun w => (by cases w), fun w => absurd w (by decide), fun w => (by cases w), fun w => (by cases w), fun w => (by cases w)⟩
  obtain ⟨h1, h2, h3⟩ := xra_ok _ _ _ _ _ _ _ L (Nat.le_refl _) h H
  have hb := of_decide_eq_false h3
  have e : min n 240 = n := by omega
  rw [e] at h1
  exact ⟨h1, h2, by omega⟩
