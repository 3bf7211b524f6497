/-! FRAMES with longs free, compares of mixed kinds, least and greatest -/
def xFl (P : Nat → Nat → Prop) (S S' : xS) : Prop := S'.1 = S.1 ∧ S'.2.2.1 = S.2.2.1 ∧ ∀ a k, ¬ P a k → S'.2.1 a k = S.2.1 a k
theorem xFl.rf {P : Nat → Nat → Prop} (S : xS) : xFl P S S := ⟨rfl, rfl, fun _ _ _ => rfl⟩
theorem xFr.l {P : Nat → Nat → Prop} {S S' : xS} (h : xFr P S S') : xFl P S S' := ⟨h.1, congrArg Prod.fst h.2.1, h.2.2⟩
theorem xFl.tr {P Q : Nat → Nat → Prop} {S S1 S2 : xS} (h : xFl P S S1) (h1 : xFl Q S1 S2) : xFl (fun a k => P a k ∨ Q a k) S S2 :=
  ⟨h1.1.trans h.1, h1.2.1.trans h.2.1, fun a k hn => (h1.2.2 a k (fun q => hn (Or.inr q))).trans (h.2.2 a k (fun q => hn (Or.inl q)))⟩
theorem xFl.mono {P Q : Nat → Nat → Prop} {S S1 : xS} (h : xFl P S S1) (hq : ∀ a k, P a k → Q a k) : xFl Q S S1 := ⟨h.1, h.2.1, fun a k hn => h.2.2 a k (fun q => hn (hq a k q))⟩
theorem xFl.tt {P : Nat → Nat → Prop} {S S1 S2 : xS} (h : xFl P S S1) (h1 : xFl P S1 S2) : xFl P S S2 := (h.tr h1).mono (fun _ _ q => q.elim id id)
theorem xFl.XC {P : Nat → Nat → Prop} {S S' : xS} (h : xFl P S S') (hX : XC S) : XC S' := ⟨h.1.trans hX.1, fun a k b hb => by rw [h.2.1]; exact hX.2 a k b hb⟩
theorem xFl.SI {P : Nat → Nat → Prop} {S S1 : xS} (h : xFl P S S1) {a k : Nat} {v : Int32} (hp : P a k) : xFl P S (xSI S1 a k v) :=
  ⟨h.1, h.2.1, fun b j hn => by
    rw [xI_ne _ v (b := b) (j := j) (by
      rcases Decidable.em (b = a) with e | e
      · refine Or.inr (fun e2 => hn ?_); subst e; subst e2; exact hp
      · exact Or.inl e)]
    exact h.2.2 b j hn⟩
theorem xFl.SL {P : Nat → Nat → Prop} {S S1 : xS} (h : xFl P S S1) (a k : Nat) (v : Int64) : xFl P S (xSL S1 a k v) := h
theorem xFl.i {P : Nat → Nat → Prop} {S S' : xS} (h : xFl P S S') {a k : Nat} {v : Int32} (hv : S.2.1 a k = v) (hn : ¬ P a k) : S'.2.1 a k = v := (h.2.2 a k hn).trans hv
theorem xFl.sh {P : Nat → Nat → Prop} {S S' : xS} (h : xFl P S S') {a : Nat} {q : Nat × Nat} (hv : S.1[a]? = some q) : S'.1[a]? = some q := by rw [h.1]; exact hv
theorem xFl.r {P : Nat → Nat → Prop} {S S' : xS} (h : xFl P S S') {a k : Nat} {v : Option Nat} (hv : S.2.2.1 a k = v) : S'.2.2.1 a k = v := by rw [h.2.1]; exact hv
theorem xL_same (S : xS) (a k : Nat) (v : Int64) : (xSL S a k v).2.2.2 a k = v := by
  show xu2 S.2.2.2 a k v a k = v
  unfold xu2
  rw [if_pos rfl]
  unfold va_up
  rw [if_pos rfl]
theorem xi {S : xS} {a k b j : Nat} {v w : Int32} (h : S.2.1 b j = w) (hn : b ≠ a ∨ j ≠ k) : (xSI S a k v).2.1 b j = w := (xI_ne S v hn).trans h
theorem xret {a b : Nat} (h : a = b) : some (Value.int (nI a)) = some (Value.int (nI b)) := by rw [h]
theorem nI_min (a b : Nat) (ha : a < 2 ^ 31) (hb : b < 2 ^ 31) : (if nI b < nI a then nI b else nI a) = nI (min a b) := by
  rcases Nat.lt_or_ge b a with h | h
  · rw [if_pos ((nI_ltI hb ha).mpr h), Nat.min_eq_right (Nat.le_of_lt h)]
  · rw [if_neg (fun q => absurd ((nI_ltI hb ha).mp q) (Nat.not_lt.mpr h)), Nat.min_eq_left h]
theorem nI_max (a b : Nat) (ha : a < 2 ^ 31) (hb : b < 2 ^ 31) : (if nI a < nI b then nI b else nI a) = nI (max a b) := by
  rcases Nat.lt_or_ge a b with h | h
  · rw [if_pos ((nI_ltI ha hb).mpr h), Nat.max_eq_right (Nat.le_of_lt h)]
  · rw [if_neg (fun q => absurd ((nI_ltI ha hb).mp q) (Nat.not_lt.mpr h)), Nat.max_eq_left h]
section WPD
variable {al : Bool} {d o : Nat} {cc : ByteArray} {ret : Option FieldType} {ini : Bool} {pc : Nat} {ls st : List Value} {S : xS} {Q : Option Value → xS → Prop}
theorem wn_min {k0 : Nat} {a b c : Nat} (hd : decode cc pc = .ok (.invokestatic k0, 3)) (hk : xlk o k0 = some [13]) (hw : (st.map fun v => v.category).sum ≤ 8) (ha : a < 2 ^ 31) (hb : b < 2 ^ 31) (hc : min a b = c) (k : Wp al d o cc ret ini (pc + 3) ls (.int (nI c) :: st) S Q) : Wp al d o cc ret ini pc ls (.int (nI b) :: .int (nI a) :: st) S Q := wp_min hd hk hw (by rw [nI_min a b ha hb, hc]; exact k)
theorem wn_max {k0 : Nat} {a b c : Nat} (hd : decode cc pc = .ok (.invokestatic k0, 3)) (hk : xlk o k0 = some [12]) (hw : (st.map fun v => v.category).sum ≤ 8) (ha : a < 2 ^ 31) (hb : b < 2 ^ 31) (hc : max a b = c) (k : Wp al d o cc ret ini (pc + 3) ls (.int (nI c) :: st) S Q) : Wp al d o cc ret ini pc ls (.int (nI b) :: .int (nI a) :: st) S Q := wp_max hd hk hw (by rw [nI_max a b ha hb, hc]; exact k)
theorem wv_alen {a t n : Nat} {m : Nat} (hd : decode cc pc = .ok (.arraylength, 1)) (ha : S.1[a]? = some (t, n)) (ht : 20 ≤ t ∧ t < 28) (hv : n = m) (k : Wp al d o cc ret ini (pc + 1) ls (.int (nI m) :: st) S Q) : Wp al d o cc ret ini pc ls (.ref a :: st) S Q := by subst hv; exact wp_alen hd ha ht rfl k
/-- a number is not minus 1 -/
theorem nI_m1 {a : Nat} (ha : a < 2 ^ 31) : nI a ≠ -1 := fun e => nI_pos ha (by rw [e]; decide)
end WPD
/-! THE TOKENS, as numbers -/
def xwc (c : Nat) : Bool := xsm c || xdg c
def xskip (t : Nat → Nat) : Nat → Nat → Nat
  | 0, p => p
  | j + 1, p => if t p = 32 ∨ t p = 10 then xskip t j (p + 1) else p
def xrunE (t : Nat → Nat) : Nat → Nat → Nat
  | 0, p => p
  | j + 1, p => if xwc (t p) = true then xrunE t j (p + 1) else p
def xlets (t : Nat → Nat) : Nat → Nat → Nat
  | 0, _ => 0
  | j + 1, p => if xwc (t p) = true then (if xsm (t p) = true then 1 else 0) + xlets t j (p + 1) else 0
theorem xskip_b (t : Nat → Nat) : ∀ j p, p ≤ xskip t j p ∧ xskip t j p ≤ p + j
  | 0, p => ⟨Nat.le_refl _, Nat.le_refl _⟩
  | j + 1, p => by
    unfold xskip
    split
    · have := xskip_b t j (p + 1)
      omega
    · omega
theorem xrunE_b (t : Nat → Nat) : ∀ j p, p ≤ xrunE t j p ∧ xrunE t j p ≤ p + j
  | 0, p => ⟨Nat.le_refl _, Nat.le_refl _⟩
  | j + 1, p => by
    unfold xrunE
    split
    · have := xrunE_b t j (p + 1)
      omega
    · omega
theorem xlets_b (t : Nat → Nat) : ∀ j p, p + xlets t j p ≤ xrunE t j p
  | 0, p => Nat.le_refl _
  | j + 1, p => by
    unfold xrunE xlets
    split
    · have := xlets_b t j (p + 1)
      split <;> omega
    · omega
theorem xrunE_in (t : Nat → Nat) : ∀ j p k, p ≤ k → k < xrunE t j p → xwc (t k) = true
  | 0, p, k, h1, h2 => by unfold xrunE at h2; omega
  | j + 1, p, k, h1, h2 => by
    unfold xrunE at h2
    split at h2
    · rename_i h
      rcases Nat.eq_or_lt_of_le h1 with e | e
      · rw [← e]; exact h
      · exact xrunE_in t j (p + 1) k e h2
    · omega
/-- all letters of the run small, and none -/
theorem xlets_all (t : Nat → Nat) : ∀ j p, p + xlets t j p = xrunE t j p ↔ ∀ k, p ≤ k → k < xrunE t j p → xsm (t k) = true
  | 0, p => ⟨fun _ k h1 h2 => by unfold xrunE at h2; omega, fun _ => rfl⟩
  | j + 1, p => by
    have ih := xlets_all t j (p + 1)
    have b1 := xlets_b t j (p + 1)
    have b2 := xrunE_b t j (p + 1)
    unfold xrunE xlets
    split
    · rename_i h
      split
      · rename_i hs
        constructor
        · intro h3 k h1 h2
          rcases Nat.eq_or_lt_of_le h1 with e | e
          · rw [← e]; exact hs
          · exact ih.mp (by omega) k e h2
        · intro h3
          have := ih.mpr (fun k h1 h2 => h3 k (by omega) h2)
          omega
      · rename_i hs
        constructor
        · intro h3; omega
        · intro h3; exact absurd (h3 p (Nat.le_refl _) (by omega)) hs
    · exact ⟨fun _ k h1 h2 => by omega, fun _ => rfl⟩
theorem xlets_no (t : Nat → Nat) : ∀ j p, xlets t j p = 0 ↔ ∀ k, p ≤ k → k < xrunE t j p → xsm (t k) = false
  | 0, p => ⟨fun _ k h1 h2 => by unfold xrunE at h2; omega, fun _ => rfl⟩
  | j + 1, p => by
    have ih := xlets_no t j (p + 1)
    have b2 := xrunE_b t j (p + 1)
    unfold xrunE xlets
    split
    · rename_i h
      split
      · rename_i hs
        constructor
        · intro h3; omega
        · intro h3; have := h3 p (Nat.le_refl _) (by omega); rw [hs] at this; cases this
      · rename_i hs
        constructor
        · intro h3 k h1 h2
          rcases Nat.eq_or_lt_of_le h1 with e | e
          · rw [← e]; exact Bool.not_eq_true _ ▸ hs
          · exact ih.mp (by omega) k e h2
        · intro h3
          have := ih.mpr (fun k h1 h2 => h3 k (by omega) h2)
          omega
    · exact ⟨fun _ k h1 h2 => by omega, fun _ => rfl⟩
/-- where the TOKEN behind p begins and its run ends; its kind; what lies behind it -/
def xts (t : Nat → Nat) (n p : Nat) : Nat := xskip t (n - p) p
def xte (t : Nat → Nat) (n p : Nat) : Nat := xrunE t (n - xts t n p) (xts t n p)
def xtl (t : Nat → Nat) (n p : Nat) : Nat := xlets t (n - xts t n p) (xts t n p)
def xtk (t : Nat → Nat) (n p : Nat) : Nat :=
  if xts t n p < xte t n p then (if xtl t n p = xte t n p - xts t n p ∧ xte t n p - xts t n p ≤ 12 then 1 else if xtl t n p = 0 ∧ xte t n p - xts t n p = 1 then 2 else 4)
  else if n ≤ xts t n p then 0 else if t (xts t n p) = 59 then 3 else 4
def xta (t : Nat → Nat) (n p : Nat) : Nat := if xts t n p < xte t n p then xte t n p else if n ≤ xts t n p then xts t n p else xts t n p + 1
theorem xtk_b (t : Nat → Nat) (n p : Nat) : xtk t n p ≤ 4 := by
  unfold xtk
  repeat' split
  all_goals omega
theorem xts_b (t : Nat → Nat) {n p : Nat} (h : p ≤ n) : p ≤ xts t n p ∧ xts t n p ≤ xte t n p ∧ xte t n p ≤ n := by
  have h1 := xskip_b t (n - p) p
  have h2 := xrunE_b t (n - xts t n p) (xts t n p)
  unfold xte
  unfold xts at h2 ⊢
  omega
theorem xta_b (t : Nat → Nat) {n p : Nat} (h : p ≤ n) : xts t n p ≤ xta t n p ∧ xta t n p ≤ n ∧ (xtk t n p ≠ 0 → p < xta t n p) := by
  have h1 := xts_b t h
  unfold xta xtk
  repeat' split
  all_goals omega
