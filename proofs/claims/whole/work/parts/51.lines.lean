/-! A RHYME's text: lines and items -/
/-- kind, begin, letters -/
abbrev xIt : Type := Nat × Nat × Nat
/-- times, begin, items -/
abbrev xLn : Type := Nat × Nat × List xIt
/-- state, lines done, times, begin, items done, item open -/
abbrev xRz : Type := Nat × List xLn × Nat × Nat × List xIt × xIt
def xmit (ln : xLn) : List xIt := ln.2.2
def xcit (ln : xLn) : List (Nat × Nat) := (if 1 < ln.1 then [(ln.2.1, 5)] else []) ++ ln.2.2.map (fun o => (o.2.1, o.1))
def xof {α : Type} (f : xLn → List α) (L : List xLn) (l : Nat) : Nat := ((L.take l).flatMap f).length
theorem xof_0 {α : Type} (f : xLn → List α) (L : List xLn) : xof f L 0 = 0 := rfl
theorem xof_succ {α : Type} (f : xLn → List α) : ∀ (L : List xLn) (l : Nat), l < L.length → xof f L (l + 1) = xof f L l + (f (L.getD l (0, 0, []))).length
  | [], _, h => absurd h (Nat.not_lt_zero _)
  | a :: L, 0, _ => by
    show ((List.take 1 (a :: L)).flatMap f).length = _
    simp [xof]
  | a :: L, l + 1, h => by
    have h' : l < L.length := by simpa using h
    have ih := xof_succ f L l h'
    unfold xof at ih ⊢
    simp only [List.take_succ_cons, List.flatMap_cons, List.length_append, List.getD_cons_succ]
    omega
theorem xof_all {α : Type} (f : xLn → List α) (L : List xLn) : xof f L L.length = (L.flatMap f).length := by unfold xof; rw [List.take_length]
theorem xof_app {α : Type} (f : xLn → List α) (L : List xLn) (x : xLn) (l : Nat) (h : l ≤ L.length) : xof f (L ++ [x]) l = xof f L l := by unfold xof; rw [List.take_append_of_le_length h]
theorem xof_get {α : Type} (f : xLn → List α) (d : α) : ∀ (L : List xLn) (l i : Nat), l < L.length → i < (f (L.getD l (0, 0, []))).length → (L.flatMap f).getD (xof f L l + i) d = (f (L.getD l (0, 0, []))).getD i d
  | [], _, _, h, _ => absurd h (Nat.not_lt_zero _)
  | a :: L, 0, i, _, hi => by
    have hi' : i < (f a).length := hi
    show ((a :: L).flatMap f).getD (0 + i) d = (f a).getD i d
    rw [Nat.zero_add, List.flatMap_cons]
    simp only [List.getD_eq_getElem?_getD]
    rw [List.getElem?_append_left hi']
  | a :: L, l + 1, i, h, hi => by
    have h' : l < L.length := by simpa using h
    have ih := xof_get f d L l i h' hi
    have e : xof f (a :: L) (l + 1) = (f a).length + xof f L l := by unfold xof; simp only [List.take_succ_cons, List.flatMap_cons, List.length_append]
    rw [e, List.flatMap_cons]
    simp only [List.getD_eq_getElem?_getD] at ih ⊢
    rw [List.getElem?_append_right (by omega), show (f a).length + xof f L l + i - (f a).length = xof f L l + i by omega]
    exact ih
theorem xflat_snoc {α : Type} (f : xLn → List α) (L : List xLn) (x : xLn) : (L ++ [x]).flatMap f = L.flatMap f ++ f x := by rw [List.flatMap_append]; simp
/-- begins of lines -/
def xbeg {α : Type} (f : xLn → List α) (L : List xLn) : List Nat := (List.range (L.length + 1)).map (xof f L)
theorem xbeg_len {α : Type} (f : xLn → List α) (L : List xLn) : (xbeg f L).length = L.length + 1 := by unfold xbeg; simp
theorem xbeg_get {α : Type} (f : xLn → List α) (L : List xLn) (l : Nat) (h : l ≤ L.length) : (xbeg f L).getD l 0 = xof f L l := by
  unfold xbeg
  rw [List.getD_eq_getElem?_getD, List.getElem?_map, List.getElem?_range (by omega)]
  rfl
theorem xbeg_app {α : Type} (f : xLn → List α) (L : List xLn) (x : xLn) : xbeg f (L ++ [x]) = xbeg f L ++ [((L ++ [x]).flatMap f).length] := by
  unfold xbeg
  rw [xlen1, List.range_succ, List.map_append]
  congr 1
  · refine List.map_congr_left (fun l hl => xof_app f L x l ?_)
    have := List.mem_range.mp hl
    omega
  · rw [← xof_all, xlen1]
    rfl
def xkz (o : xIt) : Bool := decide (o.1 = 0 ∨ o.1 = 1 ∨ o.1 = 3)
/-- whether something sounds -/
def xsnd (L : List xLn) : Bool := L.any (fun ln => ln.2.2.any xkz)
def xsti (c p tm st : Nat) (D : List xLn) (I : List xIt) : Except Nat xRz := match xkd c with
  | none => .error 1
  | some k => if k = 4 ∧ 1 < tm then .error 1 else .ok (if k = 0 then 4 else if k = 4 then 6 else 5, D, tm, st, I, (k, p, 1))
def xstb (c : Nat) (D : List xLn) (tm st : Nat) (I : List xIt) (o : xIt) : Except Nat xRz := if c = 32 then .ok (3, D, tm, st, I ++ [o], (0, 0, 0)) else if c = 47 then (if 16 ≤ D.length + 1 then .error 2 else .ok (0, D ++ [(tm, st, I ++ [o])], 1, 0, [], (0, 0, 0))) else .error 1
def xst (c p s : Nat) (D : List xLn) (tm st : Nat) (I : List xIt) (o : xIt) : Except Nat xRz :=
  if s = 0 then (if 50 ≤ c ∧ c ≤ 57 then .ok (1, D, c - 48, p, [], (0, 0, 0)) else xsti c p 1 p D [])
  else if s = 1 then (if c = 120 then .ok (2, D, tm, st, [], (0, 0, 0)) else .error 1)
  else if s = 2 then (if c = 32 then .ok (3, D, tm, st, [], (0, 0, 0)) else .error 1)
  else if s = 3 then xsti c p tm st D I
  else if s = 4 then (if xsm c = true then (if 12 ≤ o.2.2 then .error 2 else .ok (4, D, tm, st, I, (o.1, o.2.1, o.2.2 + 1))) else if c = 33 then .ok (5, D, tm, st, I, (1, o.2.1, o.2.2)) else xstb c D tm st I o)
  else if s = 5 then xstb c D tm st I o
  else .error 1
def xra (t : Nat → Nat) (m : Nat) (big : Bool) : Nat → xRz → Except (Nat × Nat) (List xLn)
  | 0, (s, D, tm, st, I, o) => if big = true ∨ s < 4 then .error (1, m) else if xsnd (D ++ [(tm, st, I ++ [o])]) = false then .error (3, 0) else .ok (D ++ [(tm, st, I ++ [o])])
  | j + 1, (s, D, tm, st, I, o) => match xst (t (m - (j + 1))) (m - (j + 1)) s D tm st I o with
    | .error e => .error (e, m - (j + 1))
    | .ok z => xra t m big j z
/-- the class's state of a state -/
def xopn (s : Nat) (o : xIt) : List xIt := if 4 ≤ s then [o] else []
def xSim (r : xRw) (z : xRz) : Prop :=
  r.1 = z.1 ∧ r.2.1 = z.2.1.flatMap xcit ++ xcit (z.2.2.1, z.2.2.2.1, z.2.2.2.2.1 ++ xopn z.1 z.2.2.2.2.2) ∧ r.2.2.1 = xbeg xcit z.2.1 ∧ (z.1 = 4 → r.2.2.2.1 = z.2.2.2.2.2.2.2) ∧ (z.1 ≠ 0 → r.2.2.2.2.1 = decide (1 < z.2.2.1)) ∧ r.2.2.2.2.2 = xsnd (z.2.1 ++ [(z.2.2.1, z.2.2.2.1, z.2.2.2.2.1 ++ xopn z.1 z.2.2.2.2.2)]) ∧ (z.1 = 0 → z.2.2.1 = 1 ∧ z.2.2.2.2.1 = []) ∧ (z.1 = 1 ∨ z.1 = 2 → z.2.2.2.2.1 = []) ∧ (z.1 = 4 → z.2.2.2.2.2.1 = 0)
theorem xcit_it (tm st : Nat) (I : List xIt) (o : xIt) : xcit (tm, st, I ++ [o]) = xcit (tm, st, I) ++ [(o.2.1, o.1)] := by
  unfold xcit
  simp only [List.map_append, List.map_cons, List.map_nil, List.append_assoc]
theorem xsnd_it (D : List xLn) (tm st : Nat) (I : List xIt) (o : xIt) : xsnd (D ++ [(tm, st, I ++ [o])]) = (xsnd (D ++ [(tm, st, I)]) || xkz o) := by
  unfold xsnd
  simp only [List.any_append, List.any_cons, List.any_nil, Bool.or_false, Bool.or_assoc]
theorem xsnd_ln (D : List xLn) (tm st tm' st' : Nat) (I : List xIt) : xsnd (D ++ [(tm, st, I)] ++ [(tm', st', [])]) = xsnd (D ++ [(tm, st, I)]) := by
  unfold xsnd
  simp only [List.any_append, List.any_cons, List.any_nil, Bool.or_false]
theorem xsnd_0 (D : List xLn) (tm st tm' st' : Nat) : xsnd (D ++ [(tm, st, [])]) = xsnd (D ++ [(tm', st', [])]) := by
  unfold xsnd
  simp only [List.any_append, List.any_cons, List.any_nil, Bool.or_false]
theorem xsnd_c (D : List xLn) (tm st tm' st' : Nat) (I : List xIt) : xsnd (D ++ [(tm, st, I)]) = xsnd (D ++ [(tm', st', I)]) := by
  unfold xsnd
  simp only [List.any_append, List.any_cons, List.any_nil, Bool.or_false]
/-- both go on alike -/
def xSM (A : Except Nat xRw) (B : Except Nat xRz) : Prop := match A, B with
  | .error e, .error e' => e = e'
  | .ok r, .ok z => xSim r z
  | _, _ => False
theorem xkd_in {c k : Nat} (h : xkd c = some k) : k = 0 ∨ k = 2 ∨ k = 3 ∨ k = 4 := by
  unfold xkd at h
  repeat' split at h
  all_goals (cases h <;> decide)
theorem xSM_ti {c p tm st : Nat} {D : List xLn} {I : List xIt} {Q : List (Nat × Nat)} {F : List Nat} {sb : Bool} (hQ : Q = D.flatMap xcit ++ xcit (tm, st, I)) (hF : F = xbeg xcit D) (hs : sb = xsnd (D ++ [(tm, st, I)])) : xSM (xcti c p Q F (decide (1 < tm)) sb) (xsti c p tm st D I) := by
  unfold xcti xsti
  cases hk : xkd c with
  | none => exact rfl
  | some k =>
    have hk4 := xkd_in hk
    simp only [decide_eq_true_eq]
    split
    · exact rfl
    · have e4 : 4 ≤ (if k = 0 then 4 else if k = 4 then 6 else 5) := by rcases hk4 with h | h | h | h <;> rw [h] <;> decide
      have eo : xopn (if k = 0 then 4 else if k = 4 then 6 else 5) (k, p, 1) = [(k, p, 1)] := by unfold xopn; rw [if_pos e4]
      refine ⟨rfl, ?_, hF, fun _ => rfl, fun _ => rfl, ?_, fun e => absurd e ?_, fun e => absurd e ?_, fun e => ?_⟩
      · show Q ++ [(p, k)] = _ ++ xcit (tm, st, I ++ xopn _ _)
        rw [eo, xcit_it, ← List.append_assoc, hQ]
      · show (sb || decide (k = 0) || decide (k = 3)) = xsnd (D ++ [(tm, st, I ++ xopn _ _)])
        rw [eo, xsnd_it, ← hs, Bool.or_assoc]
        congr 1
        rcases hk4 with rfl | rfl | rfl | rfl <;> rfl
      · show ¬ (if k = 0 then 4 else if k = 4 then 6 else 5) = 0; omega
      · show ¬ ((if k = 0 then 4 else if k = 4 then 6 else 5) = 1 ∨ (if k = 0 then 4 else if k = 4 then 6 else 5) = 2); omega
      · have e' : (if k = 0 then 4 else if k = 4 then 6 else 5) = 4 := e
        show k = 0
        rcases hk4 with rfl | rfl | rfl | rfl
        · rfl
        all_goals (exact absurd e' (by decide))
theorem xSM_tb {c tm st w : Nat} {D : List xLn} {I : List xIt} {o : xIt} {Q : List (Nat × Nat)} {F : List Nat} {tb sb : Bool} (hQ : Q = D.flatMap xcit ++ xcit (tm, st, I ++ [o])) (hF : F = xbeg xcit D) (ht : tb = decide (1 < tm)) (hs : sb = xsnd (D ++ [(tm, st, I ++ [o])])) : xSM (xctb c Q F w tb sb) (xstb c D tm st I o) := by
  unfold xctb xstb
  split
  · refine ⟨rfl, ?_, hF, fun e => absurd e (by show ¬ (3 : Nat) = 4; decide), fun _ => ht, ?_, fun e => absurd e (by show ¬ (3 : Nat) = 0; decide), fun e => absurd e (by show ¬ ((3 : Nat) = 1 ∨ (3 : Nat) = 2); decide), fun e => absurd e (by show ¬ (3 : Nat) = 4; decide)⟩
    · show Q = _ ++ xcit (tm, st, (I ++ [o]) ++ [])
      rw [List.append_nil]; exact hQ
    · show sb = xsnd (D ++ [(tm, st, (I ++ [o]) ++ [])])
      rw [List.append_nil]; exact hs
  · split
    · have hl : F.length = D.length + 1 := by rw [hF, xbeg_len]
      rw [hl]
      split
      · exact rfl
      · refine ⟨rfl, ?_, ?_, fun e => absurd e (by show ¬ (0 : Nat) = 4; decide), fun e => absurd rfl e, ?_, fun _ => ⟨rfl, rfl⟩, fun e => absurd e (by show ¬ ((0 : Nat) = 1 ∨ (0 : Nat) = 2); decide), fun e => absurd e (by show ¬ (0 : Nat) = 4; decide)⟩
        · show Q = (D ++ [(tm, st, I ++ [o])]).flatMap xcit ++ []
          rw [List.append_nil, xflat_snoc]; exact hQ
        · show F ++ [Q.length] = xbeg xcit (D ++ [(tm, st, I ++ [o])])
          rw [xbeg_app, xflat_snoc, ← hQ, hF]
        · show sb = xsnd (D ++ [(tm, st, I ++ [o])] ++ [(1, 0, [])])
          rw [xsnd_ln]; exact hs
    · exact rfl
theorem xqset_app (Q : List (Nat × Nat)) (x : Nat × Nat) : xqset (Q ++ [x]) = Q ++ [(x.1, 1)] := by
  unfold xqset
  rw [xlen1, show Q.length + 1 - 1 = Q.length by omega, xqA _ _ _ (by rw [xlen1]; omega), if_neg (by omega)]
  rw [List.set_append_right _ _ (Nat.le_refl _), Nat.sub_self]
  rfl
theorem xSM_st {c p : Nat} {r : xRw} {s : Nat} {D : List xLn} {tm st : Nat} {I : List xIt} {o : xIt} (h : xSim r (s, D, tm, st, I, o)) : xSM (xcst c p r.1 r.2.1 r.2.2.1 r.2.2.2.1 r.2.2.2.2.1 r.2.2.2.2.2) (xst c p s D tm st I o) := by
  obtain ⟨s', Q, F, w, tb, sb⟩ := r
  obtain ⟨h1, h2, h3, h4, h5, h6, h7, h8, h9⟩ := h
  replace h1 : s' = s := h1
  subst h1
  replace h2 : Q = D.flatMap xcit ++ xcit (tm, st, I ++ xopn s' o) := h2
  replace h3 : F = xbeg xcit D := h3
  replace h4 : s' = 4 → w = o.2.2 := h4
  replace h5 : s' ≠ 0 → tb = decide (1 < tm) := h5
  replace h6 : sb = xsnd (D ++ [(tm, st, I ++ xopn s' o)]) := h6
  replace h7 : s' = 0 → tm = 1 ∧ I = [] := h7
  replace h8 : s' = 1 ∨ s' = 2 → I = [] := h8
  replace h9 : s' = 4 → o.1 = 0 := h9
  show xSM (xcst c p s' Q F w tb sb) _
  unfold xcst xst
  rcases Decidable.em (s' = 0) with e0 | e0
  · rw [if_pos e0, if_pos e0]
    obtain ⟨rfl, rfl⟩ := h7 e0
    subst e0
    have e1 : xopn 0 o = [] := rfl
    rw [e1, List.append_nil] at h2 h6
    have e2 : xcit (1, st, []) = [] := rfl
    rw [e2, List.append_nil] at h2
    split
    · rename_i hc
      have ht : decide (1 < c - 48) = true := decide_eq_true (by omega)
      refine ⟨rfl, ?_, h3, fun e => absurd e (by show ¬ (1 : Nat) = 4; decide), fun _ => ht.symm, ?_, fun e => absurd e (by show ¬ (1 : Nat) = 0; decide), fun _ => rfl, fun e => absurd e (by show ¬ (1 : Nat) = 4; decide)⟩
      · show Q ++ [(p, 5)] = D.flatMap xcit ++ xcit (c - 48, p, [])
        unfold xcit
        rw [if_pos (by omega : 1 < c - 48), h2]
        rfl
      · show sb = xsnd (D ++ [(c - 48, p, [])])
        rw [h6]; exact xsnd_0 _ _ _ _ _
    · have := xSM_ti (c := c) (p := p) (tm := 1) (st := p) (D := D) (I := []) (Q := Q) (F := F) (sb := sb) (by rw [h2]; exact (List.append_nil _).symm) h3 (h6.trans (xsnd_0 _ _ _ _ _))
      exact this
  · have ht := h5 e0
    subst ht
    rw [if_neg e0, if_neg e0]
    rcases Decidable.em (s' = 1) with e1 | e1
    · rw [if_pos e1, if_pos e1]
      have hI := h8 (Or.inl e1)
      subst hI
      subst e1
      split
      · exact ⟨rfl, h2, h3, fun e => absurd e (by show ¬ (2 : Nat) = 4; decide), fun _ => rfl, h6, fun e => absurd e (by show ¬ (2 : Nat) = 0; decide), fun _ => rfl, fun e => absurd e (by show ¬ (2 : Nat) = 4; decide)⟩
      · exact rfl
    · rw [if_neg e1, if_neg e1]
      rcases Decidable.em (s' = 2) with e2 | e2
      · rw [if_pos e2, if_pos e2]
        have hI := h8 (Or.inr e2)
        subst hI
        subst e2
        split
        · exact ⟨rfl, h2, h3, fun e => absurd e (by show ¬ (3 : Nat) = 4; decide), fun _ => rfl, h6, fun e => absurd e (by show ¬ (3 : Nat) = 0; decide), fun e => absurd e (by show ¬ ((3 : Nat) = 1 ∨ (3 : Nat) = 2); decide), fun e => absurd e (by show ¬ (3 : Nat) = 4; decide)⟩
        · exact rfl
      · rw [if_neg e2, if_neg e2]
        rcases Decidable.em (s' = 3) with e3 | e3
        · rw [if_pos e3, if_pos e3]
          subst e3
          have e1 : xopn 3 o = [] := rfl
          rw [e1, List.append_nil] at h2 h6
          exact xSM_ti h2 h3 h6
        · rw [if_neg e3, if_neg e3]
          rcases Decidable.em (s' = 4) with e4 | e4
          · rw [if_pos e4, if_pos e4]
            have hw := h4 e4
            have ho := h9 e4
            subst e4
            subst hw
            have e1 : xopn 4 o = [o] := rfl
            rw [e1] at h2 h6
            split
            · split
              · exact rfl
              · refine ⟨rfl, ?_, h3, fun _ => rfl, fun _ => rfl, ?_, fun e => absurd e (by show ¬ (4 : Nat) = 0; decide), fun e => absurd e (by show ¬ ((4 : Nat) = 1 ∨ (4 : Nat) = 2); decide), fun _ => ho⟩
                · show Q = D.flatMap xcit ++ xcit (tm, st, I ++ [(o.1, o.2.1, o.2.2 + 1)])
                  rw [xcit_it]
                  rw [xcit_it] at h2
                  exact h2
                · show sb = xsnd (D ++ [(tm, st, I ++ [(o.1, o.2.1, o.2.2 + 1)])])
                  rw [xsnd_it]
                  rw [xsnd_it] at h6
                  exact h6
            · split
              · refine ⟨rfl, ?_, h3, fun e => absurd e (by show ¬ (5 : Nat) = 4; decide), fun _ => rfl, ?_, fun e => absurd e (by show ¬ (5 : Nat) = 0; decide), fun e => absurd e (by show ¬ ((5 : Nat) = 1 ∨ (5 : Nat) = 2); decide), fun e => absurd e (by show ¬ (5 : Nat) = 4; decide)⟩
                · show xqset Q = D.flatMap xcit ++ xcit (tm, st, I ++ [(1, o.2.1, o.2.2)])
                  rw [xcit_it] at h2 ⊢
                  rw [h2, ← List.append_assoc, xqset_app, List.append_assoc]
                · show sb = xsnd (D ++ [(tm, st, I ++ [(1, o.2.1, o.2.2)])])
                  rw [xsnd_it] at h6 ⊢
                  have ek : xkz o = true := by unfold xkz; rw [ho]; decide
                  rw [ek] at h6
                  exact h6
              · exact xSM_tb h2 h3 rfl h6
          · rw [if_neg e4, if_neg e4]
            rcases Decidable.em (s' = 5) with e5 | e5
            · rw [if_pos e5, if_pos e5]
              subst e5
              exact xSM_tb h2 h3 rfl h6
            · rw [if_neg e5, if_neg e5]
              exact rfl
/-- the class's rows of lines -/
def xclr (X : Except (Nat × Nat) (List xLn)) : Except (Nat × Nat) (List (Nat × Nat) × List Nat) := match X with
  | .error e => .error e
  | .ok L => .ok (L.flatMap xcit, xbeg xcit L)
theorem xcra_xra {t : Nat → Nat} {m : Nat} {big : Bool} : ∀ (j : Nat) (r : xRw) (z : xRz), xSim r z → xcra t m big j r = xclr (xra t m big j z)
  | 0, (s', Q, F, w, tb, sb), (s, D, tm, st, I, o), h => by
    obtain ⟨h1, h2, h3, h4, h5, h6, h7, h8, h9⟩ := h
    replace h1 : s' = s := h1
    subst h1
    replace h2 : Q = D.flatMap xcit ++ xcit (tm, st, I ++ xopn s' o) := h2
    replace h3 : F = xbeg xcit D := h3
    replace h6 : sb = xsnd (D ++ [(tm, st, I ++ xopn s' o)]) := h6
    unfold xcra xra
    split
    · rfl
    · rename_i hs
      have e1 : xopn s' o = [o] := by unfold xopn; rw [if_pos (by omega)]
      rw [e1] at h2 h6
      rw [← h6]
      split
      · rfl
      · show Except.ok (Q, F ++ [Q.length]) = Except.ok (_, _)
        rw [xbeg_app, xflat_snoc, ← h2, h3]
  | j + 1, r, (s, D, tm, st, I, o), h => by
    have hm := xSM_st (c := t (m - (j + 1))) (p := m - (j + 1)) h
    obtain ⟨s', Q, F, w, tb, sb⟩ := r
    replace hm : xSM (xcst (t (m - (j + 1))) (m - (j + 1)) s' Q F w tb sb) (xst (t (m - (j + 1))) (m - (j + 1)) s D tm st I o) := hm
    unfold xcra xra
    cases hA : xcst (t (m - (j + 1))) (m - (j + 1)) s' Q F w tb sb with
    | error e =>
      cases hB : xst (t (m - (j + 1))) (m - (j + 1)) s D tm st I o with
      | error e' =>
        rw [hA, hB] at hm
        have : e = e' := hm
        subst this
        rfl
      | ok z => rw [hA, hB] at hm; exact hm.elim
    | ok r =>
      cases hB : xst (t (m - (j + 1))) (m - (j + 1)) s D tm st I o with
      | error e' => rw [hA, hB] at hm; exact hm.elim
      | ok z =>
        rw [hA, hB] at hm
        exact xcra_xra j r z hm
/-- a RHYME's text, read -/
def xrhy (t : Nat → Nat) (n : Nat) : Except (Nat × Nat) (List xLn) := xra t (min n 240) (decide (min n 240 < n)) (min n 240) (0, [], 1, 0, [], (0, 0, 0))
theorem xcra_rhy (t : Nat → Nat) (n : Nat) : xcra t (min n 240) (decide (min n 240 < n)) (min n 240) (0, [], [0], 0, false, false) = xclr (xrhy t n) :=
  xcra_xra _ _ _ ⟨rfl, rfl, rfl, fun e => (by cases e), fun e => absurd rfl e, rfl, fun _ => ⟨rfl, rfl⟩, fun _ => rfl, fun e => (by cases e)⟩
