/-! THE PURE MEMORY IN THE HEAP: cell a of the memory is the heap's cell z + a -/
def xup (z : Nat) (sa : Nat → Nat) (v : Value) : Value := match v with
  | .ref a => .ref (z + a)
  | .retAddr k => .ref (sa k)
  | v => v
theorem xup_cat (z : Nat) (sa : Nat → Nat) (v : Value) : (xup z sa v).category = v.category := by cases v <;> rfl
theorem xup_rf (z : Nat) (sa : Nat → Nat) (r : Option Nat) : xup z sa (xrf r) = va_rf (r.map (fun a => z + a)) := by cases r <;> rfl
def xfv (z : Nat) (S : xS) (ci a k : Nat) : Value := if xtg ci k = 1 then .long (S.2.2.2 a k) else if xtg ci k = 2 then va_rf ((S.2.2.1 a k).map (fun b => z + b)) else .int (S.2.1 a k)
def xarr (z : Nat) (S : xS) (a : Nat) (t n : Nat) : vp_A := (n, if t < 24 then .inl (S.2.1 a) else if t = 24 then .inr (.inl (S.2.2.2 a)) else .inr (.inr (.inr (.inr (fun j => (S.2.2.1 a j).map (fun b => z + b))))))
def xce (z : Nat) (cy : Nat → ClassId) (S : xS) (a : Nat) (q : Nat × Nat) : va_E := if q.1 < 20 then .inr (q.1, (List.range q.2).map (xfv z S q.1 a)) else .inl (cy q.1, xarr z S a q.1 q.2)
def xW (z : Nat) (cy : Nat → ClassId) (S : xS) : va_W := (List.range S.1.length).map (fun a => (z + a, xce z cy S a (S.1.getD a (0, 0))))
theorem xW_get {z : Nat} {cy : Nat → ClassId} {S : xS} {a : Nat} {q : Nat × Nat} (h : S.1[a]? = some q) : (xW z cy S)[a]? = some (z + a, xce z cy S a q) := by
  have ha : a < S.1.length := (List.getElem?_eq_some_iff.mp h).1
  unfold xW
  rw [List.getElem?_map, List.getElem?_range ha]
  simp [List.getD, h]
theorem xW_inv {z : Nat} {cy : Nat → ClassId} {S : xS} {k : Nat} {x : Nat × va_E} (h : (xW z cy S)[k]? = some x) : k < S.1.length ∧ x = (z + k, xce z cy S k (S.1.getD k (0, 0))) := by
  unfold xW at h
  rw [List.getElem?_map] at h
  by_cases hk : k < S.1.length
  · rw [List.getElem?_range hk] at h
    exact ⟨hk, (Option.some.inj h).symm⟩
  · rw [List.getElem?_eq_none (by rw [List.length_range]; omega)] at h
    cases h
theorem xW_D (z : Nat) (cy : Nat → ClassId) (S : xS) : va_D (fun q => z ≤ q) (xW z cy S) := by
  refine ⟨fun i j p q hi hj h => ?_, fun k q hk => ?_⟩
  · obtain ⟨-, rfl⟩ := xW_inv hi
    obtain ⟨-, rfl⟩ := xW_inv hj
    have h : z + i = z + j := h
    omega
  · obtain ⟨-, rfl⟩ := xW_inv hk
    exact Nat.le_add_right z k
theorem xW_set {z : Nat} {cy : Nat → ClassId} {S S1 : xS} {a : Nat} {q : Nat × Nat} {e : va_E} (h : S.1[a]? = some q) (h1 : S1.1 = S.1) (he : xce z cy S1 a q = e) (ho : ∀ b, b ≠ a → ∀ p, xce z cy S1 b p = xce z cy S b p) : (xW z cy S).set a (z + a, e) = xW z cy S1 := by
  apply List.ext_getElem?
  intro k
  rw [List.getElem?_set]
  have hl : (xW z cy S).length = S.1.length := by unfold xW; simp
  have ha : a < S.1.length := (List.getElem?_eq_some_iff.mp h).1
  by_cases hk : a = k
  · subst hk
    rw [if_pos rfl, if_pos (by rw [hl]; exact ha)]
    rw [xW_get (S := S1) (q := q) (by rw [h1]; exact h), he]
  · rw [if_neg hk]
    by_cases hk2 : k < S.1.length
    · obtain ⟨p, hp⟩ : ∃ p, S.1[k]? = some p := ⟨_, List.getElem?_eq_getElem hk2⟩
      rw [xW_get hp, xW_get (S := S1) (by rw [h1]; exact hp), ho k (fun h => hk h.symm)]
    · have hl1 : (xW z cy S1).length = S.1.length := by unfold xW; simp [h1]
      rw [List.getElem?_eq_none (by omega), List.getElem?_eq_none (by omega)]
theorem xu2_same {α : Type} (f : Nat → Nat → α) (a k : Nat) (v : α) : xu2 f a k v a = va_up (f a) k v := by unfold xu2; rw [if_pos rfl]
theorem xu2_ne {α : Type} (f : Nat → Nat → α) {a b : Nat} (k : Nat) (v : α) (h : b ≠ a) : xu2 f a k v b = f b := by unfold xu2; rw [if_neg h]
theorem xce_SI_ne {z : Nat} {cy : Nat → ClassId} {S : xS} {a k : Nat} {v : Int32} : ∀ b, b ≠ a → ∀ p, xce z cy (xSI S a k v) b p = xce z cy S b p := by
  intro b hb p
  unfold xce xarr
  have e : (xSI S a k v).2.1 b = S.2.1 b := xu2_ne _ _ _ hb
  rw [e]
  have e2 : ∀ ci, xfv z (xSI S a k v) ci b = xfv z S ci b := fun ci => funext fun f => by unfold xfv; rw [e]; rfl
  rw [e2]
  rfl
theorem xce_SR_ne {z : Nat} {cy : Nat → ClassId} {S : xS} {a k : Nat} {v : Option Nat} : ∀ b, b ≠ a → ∀ p, xce z cy (xSR S a k v) b p = xce z cy S b p := by
  intro b hb p
  unfold xce xarr
  have e : (xSR S a k v).2.2.1 b = S.2.2.1 b := xu2_ne _ _ _ hb
  rw [e]
  have e2 : ∀ ci, xfv z (xSR S a k v) ci b = xfv z S ci b := fun ci => funext fun f => by unfold xfv; rw [e]; rfl
  rw [e2]
  rfl
theorem xce_SL_ne {z : Nat} {cy : Nat → ClassId} {S : xS} {a k : Nat} {v : Int64} : ∀ b, b ≠ a → ∀ p, xce z cy (xSL S a k v) b p = xce z cy S b p := by
  intro b hb p
  unfold xce xarr
  have e : (xSL S a k v).2.2.2 b = S.2.2.2 b := xu2_ne _ _ _ hb
  rw [e]
  have e2 : ∀ ci, xfv z (xSL S a k v) ci b = xfv z S ci b := fun ci => funext fun f => by unfold xfv; rw [e]; rfl
  rw [e2]
  rfl
theorem xmap_set {f g : Nat → Value} {n k : Nat} {v : Value} (hv : g k = v) (h : ∀ j, j ≠ k → g j = f j) : ((List.range n).map f).set k v = (List.range n).map g := by
  apply List.ext_getElem?
  intro j
  rw [List.getElem?_set]
  by_cases hj : k = j
  · subst hj
    rw [if_pos rfl]
    by_cases hk : k < n
    · rw [if_pos (by simpa using hk), List.getElem?_map, List.getElem?_range hk, Option.map_some, hv]
    · rw [if_neg (by simpa using hk), List.getElem?_eq_none (by simpa using hk)]
  · rw [if_neg hj, List.getElem?_map, List.getElem?_map]
    by_cases hk : j < n
    · rw [List.getElem?_range hk, Option.map_some, Option.map_some, h j (fun q => hj q.symm)]
    · rw [List.getElem?_eq_none (by simpa using hk)]
      rfl
theorem xce_obj {z : Nat} {cy : Nat → ClassId} {S : xS} {a ci n : Nat} (h : ci < 20) : xce z cy S a (ci, n) = .inr (ci, (List.range n).map (xfv z S ci a)) := by unfold xce; rw [if_pos h]
theorem xce_arr {z : Nat} {cy : Nat → ClassId} {S : xS} {a t n : Nat} (h : ¬ t < 20) : xce z cy S a (t, n) = .inl (cy t, xarr z S a t n) := by unfold xce; rw [if_neg h]
/-- an object's field is written -/
theorem xW_SI {z : Nat} {cy : Nat → ClassId} {S : xS} {a ci n k : Nat} {x : Int32} (h : S.1[a]? = some (ci, n)) (hc : ci < 20) (ht : ¬ xtg ci k = 1 ∧ ¬ xtg ci k = 2) : (xW z cy S).set a (z + a, .inr (ci, ((List.range n).map (xfv z S ci a)).set k (.int x))) = xW z cy (xSI S a k x) := by
  refine xW_set h rfl ?_ xce_SI_ne
  rw [xce_obj hc, xmap_set (g := xfv z (xSI S a k x) ci a)]
  · unfold xfv
    rw [if_neg ht.1, if_neg ht.2]
    show Value.int (xu2 S.2.1 a k x a k) = _
    rw [xu2_same]; unfold va_up; rw [if_pos rfl]
  · intro j hj
    unfold xfv
    show (if _ then _ else if _ then _ else Value.int (xu2 S.2.1 a k x a j)) = _
    rw [xu2_same]; unfold va_up; rw [if_neg hj]
    rfl
theorem xW_SR {z : Nat} {cy : Nat → ClassId} {S : xS} {a ci n k b : Nat} (h : S.1[a]? = some (ci, n)) (hc : ci < 20) (ht : xtg ci k = 2) : (xW z cy S).set a (z + a, .inr (ci, ((List.range n).map (xfv z S ci a)).set k (.ref (z + b)))) = xW z cy (xSR S a k (some b)) := by
  refine xW_set h rfl ?_ xce_SR_ne
  rw [xce_obj hc, xmap_set (g := xfv z (xSR S a k (some b)) ci a)]
  · unfold xfv
    rw [if_neg (by omega), if_pos ht]
    show va_rf ((xu2 S.2.2.1 a k (some b) a k).map _) = _
    rw [xu2_same]; unfold va_up; rw [if_pos rfl]; rfl
  · intro j hj
    unfold xfv
    show (if _ then _ else if _ then va_rf ((xu2 S.2.2.1 a k (some b) a j).map _) else _) = _
    rw [xu2_same]; unfold va_up; rw [if_neg hj]
    rfl
theorem xW_SL {z : Nat} {cy : Nat → ClassId} {S : xS} {a ci n k : Nat} {x : Int64} (h : S.1[a]? = some (ci, n)) (hc : ci < 20) (ht : xtg ci k = 1) : (xW z cy S).set a (z + a, .inr (ci, ((List.range n).map (xfv z S ci a)).set k (.long x))) = xW z cy (xSL S a k x) := by
  refine xW_set h rfl ?_ xce_SL_ne
  rw [xce_obj hc, xmap_set (g := xfv z (xSL S a k x) ci a)]
  · unfold xfv
    rw [if_pos ht]
    show Value.long (xu2 S.2.2.2 a k x a k) = _
    rw [xu2_same]; unfold va_up; rw [if_pos rfl]
  · intro j hj
    unfold xfv
    show (if _ then Value.long (xu2 S.2.2.2 a k x a j) else if _ then _ else _) = _
    rw [xu2_same]; unfold va_up; rw [if_neg hj]
    rfl
/-- a row's place is written -/
theorem xW_AI {z : Nat} {cy : Nat → ClassId} {S : xS} {a t n k : Nat} {x : Int32} (h : S.1[a]? = some (t, n)) (h1 : ¬ t < 20) (h2 : t < 24) : (xW z cy S).set a (z + a, .inl (cy t, n, .inl (upd (S.2.1 a) k x))) = xW z cy (xSI S a k x) := by
  refine xW_set h rfl ?_ xce_SI_ne
  rw [xce_arr h1]
  unfold xarr
  rw [if_pos h2]
  show (Sum.inl (cy t, n, .inl (xu2 S.2.1 a k x a)) : va_E) = _
  rw [xu2_same]
  rfl
theorem xW_AR {z : Nat} {cy : Nat → ClassId} {S : xS} {a t n k b : Nat} (h : S.1[a]? = some (t, n)) (h2 : 24 < t) : (xW z cy S).set a (z + a, .inl (cy t, n, .inr (.inr (.inr (.inr (va_up (fun j => (S.2.2.1 a j).map (fun b => z + b)) k (some (z + b)))))))) = xW z cy (xSR S a k (some b)) := by
  refine xW_set h rfl ?_ xce_SR_ne
  rw [xce_arr (by omega)]
  unfold xarr
  rw [if_neg (by omega), if_neg (by omega)]
  show (Sum.inl (cy t, n, .inr (.inr (.inr (.inr (fun j => (xu2 S.2.2.1 a k (some b) a j).map (fun b => z + b)))))) : va_E) = _
  rw [xu2_same]
  congr 7
  funext j
  unfold va_up
  by_cases hj : j = k
  · rw [if_pos hj, if_pos hj]; rfl
  · rw [if_neg hj, if_neg hj]
/-- locals -/
def xisf (v : Value) : Bool := match v with
  | .float _ => true
  | _ => false
def xlp (z : Nat) (sa : Nat → Nat) (ls : List Value) : List (Nat × Value) := (List.range ls.length).filterMap (fun i => match ls[i]? with
  | some v => if xisf v = true then none else some (i, xup z sa v)
  | none => none)
theorem xlp_mem {z : Nat} {sa : Nat → Nat} {ls : List Value} {q : Nat × Value} : q ∈ xlp z sa ls ↔ ∃ v, ls[q.1]? = some v ∧ ¬ xisf v = true ∧ q.2 = xup z sa v := by
  unfold xlp
  rw [List.mem_filterMap]
  constructor
  · rintro ⟨i, hi, h⟩
    have hi2 : i < ls.length := List.mem_range.mp hi
    rw [List.getElem?_eq_getElem hi2] at h
    by_cases hf : xisf ls[i] = true
    · simp [hf] at h
    · simp only [hf, if_false, Bool.false_eq_true, Option.some.injEq] at h
      subst h
      exact ⟨ls[i], List.getElem?_eq_getElem hi2, hf, rfl⟩
  · rintro ⟨v, h1, h2, h3⟩
    refine ⟨q.1, List.mem_range.mpr (List.getElem?_eq_some_iff.mp h1).1, ?_⟩
    rw [h1]
    simp only [h2, if_false, Bool.false_eq_true]
    rw [← h3]
theorem xlp_at {z : Nat} {sa : Nat → Nat} {ls : List Value} {lsM : Array Slot} {nL i : Nat} {v : Value} (h : lv_has lsM nL (xlp z sa ls)) (hv : ls[i]? = some v) (hf : ¬ xisf v = true) : lsM[i]? = some (.val (xup z sa v)) :=
  h.2.2 (i, xup z sa v) (xlp_mem.mpr ⟨v, hv, hf, rfl⟩)
theorem xlp_set1 {z : Nat} {sa : Nat → Nat} {ls : List Value} {lsM : Array Slot} {nL i : Nat} {v : Value} (hg : i = 0 ∨ xcat2 ls[i - 1]? = false) (h : lv_has lsM nL ((i, xup z sa v) :: (xlp z sa ls).filter (fun q => !(q.1 == i) && !(q.1 + 1 == i && q.2.category == 2)))) : lv_has lsM nL (xlp z sa (ls.set i v)) := by
  refine ⟨h.1, h.2.1, fun q hq => h.2.2 q ?_⟩
  obtain ⟨w, h1, h2, h3⟩ := xlp_mem.mp hq
  rw [List.getElem?_set] at h1
  by_cases hi : i = q.1
  · rw [if_pos hi] at h1
    have hw : v = w := by
      by_cases hl : i < ls.length
      · rw [if_pos hl] at h1; exact Option.some.inj h1
      · rw [if_neg hl] at h1; cases h1
    subst hw
    exact List.mem_cons.mpr (Or.inl (Prod.ext hi.symm h3))
  · rw [if_neg hi] at h1
    refine List.mem_cons_of_mem _ (List.mem_filter.mpr ⟨xlp_mem.mpr ⟨w, h1, h2, h3⟩, ?_⟩)
    have e1 : (q.1 == i) = false := by simpa using fun e : q.1 = i => hi e.symm
    rw [e1]
    by_cases h4 : q.1 + 1 = i
    · rcases hg with hg | hg
      · omega
      · rw [show i - 1 = q.1 by omega, h1] at hg
        have hc : w.category ≠ 2 := by cases w <;> simp [xcat2, Value.category] at hg ⊢
        have : (q.2.category == 2) = false := by rw [h3, xup_cat]; simpa using hc
        simp [this]
    · have e2 : (q.1 + 1 == i) = false := by simpa using h4
      simp [e2]
theorem xlp_set2 {z : Nat} {sa : Nat → Nat} {ls : List Value} {lsM : Array Slot} {nL i : Nat} {v : Value} (hg : i = 0 ∨ xcat2 ls[i - 1]? = false) (h : lv_has lsM nL ((i, xup z sa v) :: (xlp z sa ls).filter (fun q => !(q.1 == i) && (!(q.1 == i + 1) && !(q.1 + 1 == i && q.2.category == 2))))) : lv_has lsM nL (xlp z sa ((ls.set i v).set (i + 1) (.float 0))) := by
  refine ⟨h.1, h.2.1, fun q hq => h.2.2 q ?_⟩
  obtain ⟨w, h1, h2, h3⟩ := xlp_mem.mp hq
  rw [List.getElem?_set] at h1
  by_cases hi1 : i + 1 = q.1
  · rw [if_pos hi1] at h1
    by_cases hl : i + 1 < (ls.set i v).length
    · rw [if_pos hl] at h1
      rw [← Option.some.inj h1] at h2
      exact absurd rfl h2
    · rw [if_neg hl] at h1; cases h1
  rw [if_neg hi1, List.getElem?_set] at h1
  by_cases hi : i = q.1
  · rw [if_pos hi] at h1
    have hw : v = w := by
      by_cases hl : i < ls.length
      · rw [if_pos hl] at h1; exact Option.some.inj h1
      · rw [if_neg hl] at h1; cases h1
    subst hw
    exact List.mem_cons.mpr (Or.inl (Prod.ext hi.symm h3))
  · rw [if_neg hi] at h1
    refine List.mem_cons_of_mem _ (List.mem_filter.mpr ⟨xlp_mem.mpr ⟨w, h1, h2, h3⟩, ?_⟩)
    have e1 : (q.1 == i) = false := by simpa using fun e : q.1 = i => hi e.symm
    have e3 : (q.1 == i + 1) = false := by simpa using fun e : q.1 = i + 1 => hi1 e.symm
    rw [e1, e3]
    by_cases h4 : q.1 + 1 = i
    · rcases hg with hg | hg
      · omega
      · rw [show i - 1 = q.1 by omega, h1] at hg
        have hc : w.category ≠ 2 := by cases w <;> simp [xcat2, Value.category] at hg ⊢
        have : (q.2.category == 2) = false := by rw [h3, xup_cat]; simpa using hc
        simp [this]
    · have e2 : (q.1 + 1 == i) = false := by simpa using h4
      simp [e2]
/-- the locals with which a method begins -/
theorem xlp_args (z : Nat) (sa : Nat → Nat) : ∀ (as : List Value) (i k : Nat) (w : Value), (xargs as)[k]? = some w → ¬ xisf w = true → (i + k, xup z sa w) ∈ lv_args i (as.map (xup z sa))
  | [], i, k, w, h, _ => by simp [xargs] at h
  | v :: vs, i, k, w, h, hf => by
    unfold xargs at h
    rw [List.map_cons]
    unfold lv_args
    rw [xup_cat]
    by_cases hc : v.category = 2
    · rw [if_pos hc] at h
      rw [if_pos hc]
      match k, h with
      | 0, h => rw [show v = w from Option.some.inj h]; exact List.mem_cons_self
      | 1, h => exact absurd (by rw [← Option.some.inj h]; rfl) hf
      | k + 2, h => exact List.mem_cons_of_mem _ (by have := xlp_args z sa vs (i + 2) k w h hf; rwa [show i + 2 + k = i + (k + 2) by omega] at this)
    · rw [if_neg hc] at h
      rw [if_neg hc]
      match k, h with
      | 0, h => rw [show v = w from Option.some.inj h]; exact List.mem_cons_self
      | k + 1, h => exact List.mem_cons_of_mem _ (by have := xlp_args z sa vs (i + 1) k w h hf; rwa [show i + 1 + k = i + (k + 1) by omega] at this)
theorem xlp_ent {z : Nat} {sa : Nat → Nat} {as : List Value} {n : Nat} {lsM : Array Slot} (h : lv_has lsM n (lv_args 0 (as.map (xup z sa)))) : lv_has lsM n (xlp z sa (xent as n)) := by
  refine ⟨h.1, h.2.1, fun q hq => h.2.2 q ?_⟩
  obtain ⟨w, h1, h2, h3⟩ := xlp_mem.mp hq
  unfold xent at h1
  by_cases hl : q.1 < (xargs as).length
  · rw [List.getElem?_append_left hl] at h1
    have := xlp_args z sa as 0 q.1 w h1 h2
    rw [Nat.zero_add] at this
    rw [show q = (q.1, xup z sa w) from Prod.ext rfl h3]
    exact this
  · rw [List.getElem?_append_right (by omega)] at h1
    have hm := List.mem_of_getElem? h1
    rw [List.eq_of_mem_replicate hm] at h2
    exact absurd rfl h2
theorem xent_len {as : List Value} {n : Nat} (h : (xargs as).length ≤ n) : (xent as n).length = n := by
  unfold xent
  rw [List.length_append, List.length_replicate]
  omega
theorem xargs_sl (z : Nat) (sa : Nat → Nat) : ∀ as : List Value, (lg_sl (as.map (xup z sa))).length = (xargs as).length
  | [] => rfl
  | v :: vs => by
    have ih := xargs_sl z sa vs
    unfold lg_sl at ih ⊢
    unfold xargs
    rw [List.map_cons, List.flatMap_cons, List.length_append, ih, xup_cat]
    by_cases hc : v.category = 2
    · rw [if_pos hc, if_pos hc]; simp; omega
    · rw [if_neg hc, if_neg hc]; simp; omega
