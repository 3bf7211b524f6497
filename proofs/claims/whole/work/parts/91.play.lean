/-! a PLAY as numbers: what is COUNTED, who is HIT -/
/-- THE YARD, THE TONGUE, PEOPLE, ANSWERS, the slots -/
abbrev xPx : Type := xYd × xTg × List (List Nat) × List (List Nat) × xSv
def xzg (c : xPx) : xRg := xgOf c.2.2.1.length c.1
def xzb (c : xPx) : Bool := xbts c.1
def xzs (c : xPx) (k : Nat) : Nat := c.1.2.getD (k % c.1.2.length) 0
def xzr (c : xPx) (s : Nat) : (Nat → Nat) × List xLn := match c.2.2.2.2 s with
  | some (_, t, L) => (t, L)
  | none => (fun _ => 0, [])
def xzx (c : xPx) (s : Nat) : xIt → Nat := xct c.2.1 (xzr c s).1 (xzb c)
def xzR (c : xPx) (m s k : Nat) : List Nat := xlu m (xgH (xzg c)) (xbk (xzg c) k) (xgH (xzg c)) s
def xznb (c : xPx) (p : Nat) : Nat := xwB c.2.1 (c.2.2.1.getD p [])
def xzN (c : xPx) (R : List Nat) : Nat → Nat := xnm (xzb c) (xznb c) (xgf (xzg c)) R
def xze (c : xPx) (ex k : Nat) : Nat := if xzs c k = c.1.2.getD 0 0 ∧ xzb c = true then ex else 0
def xzT (c : xPx) (ex m s k : Nat) : Nat := xsaL (xzN c (xzR c m s k)) (xzx c (xzs c k)) (xzr c (xzs c k)).2 0 + xze c ex k
def xzA (c : xPx) (k : Nat) : Bool := xask (xzr c (xzs c k)).2
def xza (c : xPx) (a : Nat) : Nat := (c.2.2.2.1.getD a []).length
def xzw (c : xPx) (k : Nat) : Nat := if xzA c k = true then c.2.2.2.1.length else 1
/-- the HAND HIT, by the ANSWER -/
def xzh (c : xPx) (ex m s k a : Nat) : Nat := xha (xzR c m s k) (xzT c ex m s k - 1 + if xzA c k = true then xza c a else 0)
/-- the one asked -/
def xzq (c : xPx) (ex m s k : Nat) : Nat := xow (xgf (xzg c)) (xha (xzR c m s k) (xzT c ex m s k - 1))
/-- whether all RHYMES of THE YARD are there -/
def xzal (c : xPx) : Bool := c.1.2.all (fun s => (c.2.2.2.2 s).isSome)
def xzo (c : xPx) : Prop := xYok c.1 ∧ (1 ≤ c.2.2.1.length ∧ c.2.2.1.length ≤ 12 ∧ xWl c.2.2.1) ∧ (1 ≤ c.2.2.2.1.length ∧ c.2.2.2.1.length ≤ 5 ∧ xWl c.2.2.2.1) ∧ ∀ s n t L, s < 6 → c.2.2.2.2 s = some (n, t, L) → xRok t n L ∧ n ≤ 240 ∧ L.length ≤ 16 ∧ xsnd L = true
theorem xzo.g {c : xPx} (h : xzo c) : xgo (xzg c) := xgOf_ok h.1 h.2.1.1 h.2.1.2.1
theorem xzs_6 {c : xPx} (h : xzo c) (k : Nat) : xzs c k < 6 := by
  obtain ⟨_, _, h1, h4, h6⟩ := h.1
  exact h6 _ (xmem_getD (d := 0) (Nat.mod_lt k (by omega)))
theorem xzr_ok {c : xPx} (h : xzo c) (ha : xzal c = true) (k : Nat) : ∃ n t L, c.2.2.2.2 (xzs c k) = some (n, t, L) ∧ xzr c (xzs c k) = (t, L) ∧ xRok t n L ∧ n ≤ 240 ∧ L.length ≤ 16 ∧ xsnd L = true := by
  obtain ⟨_, _, h1, h4, h6⟩ := h.1
  have hm : xzs c k ∈ c.1.2 := xmem_getD (d := 0) (Nat.mod_lt k (by omega))
  have hs := List.all_eq_true.mp ha _ hm
  cases e : c.2.2.2.2 (xzs c k) with
  | none => rw [e] at hs; cases hs
  | some x =>
    obtain ⟨n, t, L⟩ := x
    refine ⟨n, t, L, rfl, by unfold xzr; rw [e], h.2.2.2 _ n t L (h6 _ hm) e⟩
/-- the row holds all that are in -/
theorem xlu_mf {m H x : Nat} (hx : x < H) (hb : m.testBit x = true) : ∀ (k h : Nat), h < H → (if h ≤ x then x - h else x + H - h) < k → x ∈ xlu m H false k h
  | 0, h, _, w => absurd w (Nat.not_lt_zero _)
  | k + 1, h, hh, w => by
    rw [xlu]
    rcases Decidable.em (x = h) with e | e
    · rw [← e, if_pos hb]
      exact List.mem_append_left _ (List.mem_singleton.mpr rfl)
    · refine List.mem_append_right _ (xlu_mf hx hb k _ (xsdd_lt false hh) ?_)
      rw [show xsdd H false h = if h + 1 < H then h + 1 else 0 from if_neg (by decide)]
      split at w <;> split <;> split <;> omega
theorem xlu_mb {m H x : Nat} (hx : x < H) (hb : m.testBit x = true) : ∀ (k h : Nat), h < H → (if x ≤ h then h - x else h + H - x) < k → x ∈ xlu m H true k h
  | 0, h, _, w => absurd w (Nat.not_lt_zero _)
  | k + 1, h, hh, w => by
    rw [xlu]
    rcases Decidable.em (x = h) with e | e
    · rw [← e, if_pos hb]
      exact List.mem_append_left _ (List.mem_singleton.mpr rfl)
    · refine List.mem_append_right _ (xlu_mb hx hb k _ (xsdd_lt true hh) ?_)
      rw [show xsdd H true h = if 0 < h then h - 1 else H - 1 from if_pos rfl]
      split at w <;> split <;> split <;> omega
theorem xlu_mem {m H x h : Nat} (b : Bool) (hx : x < H) (hb : m.testBit x = true) (hh : h < H) : x ∈ xlu m H b H h := by
  cases b with
  | false => exact xlu_mf hx hb H h hh (by split <;> omega)
  | true => exact xlu_mb hx hb H h hh (by split <;> omega)
theorem xzR_pos {c : xPx} {m s k x : Nat} (hx : x < xgH (xzg c)) (hb : m.testBit x = true) (hs : s < xgH (xzg c)) : 1 ≤ (xzR c m s k).length := List.length_pos_of_mem (xlu_mem (xbk (xzg c) k) hx hb hs)
theorem xtb_ex {m H : Nat} (hm : m < 2 ^ H) (h0 : 0 < m) : ∃ x, x < H ∧ m.testBit x = true := by
  obtain ⟨x, hx⟩ := Nat.exists_testBit_of_ne_zero (Nat.pos_iff_ne_zero.mp h0)
  refine ⟨x, ?_, hx⟩
  rcases Nat.lt_or_ge x H with w | w
  · exact w
  · rw [Nat.testBit_lt_two_pow (Nat.lt_of_lt_of_le hm (Nat.pow_le_pow_right (by decide) w))] at hx
    cases hx
theorem xsay_le {nm : Nat → Nat} {ct : xIt → Nat} (h1 : ∀ p, nm p ≤ 13) : ∀ (I : List xIt) (p : Nat), (∀ o ∈ I, ct o ≤ 13) → xsay nm ct I p ≤ p + 13 * I.length
  | [], p, _ => Nat.le_refl _
  | o :: r, p, h => by
    rw [xsay]
    have h2 := xsay_le (ct := ct) h1 r (p + if o.1 = 3 then nm p else ct o) (fun x hx => h x (List.mem_cons_of_mem _ hx))
    have h3 := h1 p
    have h4 := h o List.mem_cons_self
    have h5 : (if o.1 = 3 then nm p else ct o) ≤ 13 := by split <;> omega
    rw [List.length_cons]
    omega
theorem xrp_le {f : Nat → Nat} {b : Nat} (h : ∀ p, f p ≤ p + b) : ∀ (n p : Nat), xrp f n p ≤ p + n * b
  | 0, p => by rw [xrp]; omega
  | n + 1, p => by
    rw [xrp]
    have h1 := xrp_le h n (f p)
    have h2 := h p
    rw [Nat.succ_mul]
    omega
theorem xsaL_le {nm : Nat → Nat} {ct : xIt → Nat} (h1 : ∀ p, nm p ≤ 13) : ∀ (L : List xLn) (p : Nat), (∀ ln ∈ L, ln.1 ≤ 9 ∧ ∀ o ∈ ln.2.2, ct o ≤ 13) → xsaL nm ct L p ≤ p + 117 * (L.flatMap xmit).length
  | [], p, _ => by rw [xsaL]; omega
  | ln :: r, p, h => by
    rw [xsaL]
    have h2 := h ln List.mem_cons_self
    have h3 := xrp_le (f := xsay nm ct ln.2.2) (b := 13 * ln.2.2.length) (fun p => xsay_le h1 ln.2.2 p h2.2) ln.1 p
    have h4 := xsaL_le h1 r (xrp (xsay nm ct ln.2.2) ln.1 p) (fun x hx => h x (List.mem_cons_of_mem _ hx))
    have h5 : ln.1 * (13 * ln.2.2.length) ≤ 9 * (13 * ln.2.2.length) := Nat.mul_le_mul_right _ h2.1
    rw [List.flatMap_cons, List.length_append]
    have h6 : (xmit ln).length = ln.2.2.length := rfl
    omega
theorem xsay_gt {nm : Nat → Nat} {ct : xIt → Nat} (h1 : ∀ p, 1 ≤ nm p) : ∀ (I : List xIt) (p : Nat), (∀ o ∈ I, (o.1 = 0 ∨ o.1 = 1) → 1 ≤ ct o) → I.any xkz = true → p + 1 ≤ xsay nm ct I p
  | [], p, _, h => by cases h
  | o :: r, p, h, ha => by
    rw [xsay]
    rw [List.any_cons] at ha
    cases hk : xkz o with
    | true =>
      have hk' : o.1 = 0 ∨ o.1 = 1 ∨ o.1 = 3 := of_decide_eq_true hk
      refine Nat.le_trans ?_ (xsay_ge nm ct r _)
      split
      · have := h1 p; omega
      · have := h o List.mem_cons_self (by omega); omega
    | false =>
      rw [hk, Bool.false_or] at ha
      have := xsay_gt h1 r (p + if o.1 = 3 then nm p else ct o) (fun x hx => h x (List.mem_cons_of_mem _ hx)) ha
      omega
theorem xsaL_gt {nm : Nat → Nat} {ct : xIt → Nat} (h1 : ∀ p, 1 ≤ nm p) : ∀ (L : List xLn) (p : Nat), (∀ ln ∈ L, 1 ≤ ln.1 ∧ ∀ o ∈ ln.2.2, (o.1 = 0 ∨ o.1 = 1) → 1 ≤ ct o) → xsnd L = true → p + 1 ≤ xsaL nm ct L p
  | [], p, _, h => by cases h
  | ln :: r, p, h, ha => by
    rw [xsaL]
    have h2 := h ln List.mem_cons_self
    unfold xsnd at ha
    rw [List.any_cons] at ha
    cases hk : ln.2.2.any xkz with
    | true =>
      refine Nat.le_trans ?_ (xsaL_ge nm ct r _)
      obtain ⟨n, hn⟩ : ∃ n, ln.1 = n + 1 := ⟨ln.1 - 1, by omega⟩
      rw [hn, xrp]
      exact Nat.le_trans (xsay_gt h1 ln.2.2 p h2.2 hk) (xrp_ge (xsay_ge nm ct ln.2.2) n _)
    | false =>
      rw [hk, Bool.false_or] at ha
      have h3 := xsaL_gt h1 r (xrp (xsay nm ct ln.2.2) ln.1 p) (fun x hx => h x (List.mem_cons_of_mem _ hx)) ha
      have h4 := xrp_ge (xsay_ge nm ct ln.2.2) ln.1 p
      omega
theorem xct_b {v : xTg} {t : Nat → Nat} {b : Bool} {o : xIt} (h : xiok t o) : xct v t b o ≤ 13 ∧ ((o.1 = 0 ∨ o.1 = 1) → 1 ≤ xct v t b o) := by
  have hb := xbeats_b v (fun k => t (o.2.1 + k)) o.2.2
  unfold xct xbt
  refine ⟨?_, fun w => ?_⟩
  · split
    · split
      · rename_i e; have := h.1 (Or.inl e); omega
      · split
        · omega
        · split
          · rename_i e; have := h.1 (Or.inr e); omega
          · omega
    · split <;> omega
  · have := h.1 w
    split
    · split
      · omega
      · split
        · omega
        · rw [if_pos (by omega)]; omega
    · rename_i e
      rw [if_pos (by omega)]
      omega
theorem xzN_b {c : xPx} (h : xzo c) (R : List Nat) (p : Nat) : 1 ≤ xzN c R p ∧ xzN c R p ≤ 13 := by
  unfold xzN xnm
  split
  · have hb := xwB_b (v := c.2.1) (x := c.2.2.1.getD (xow (xgf (xzg c)) (xha R p)) [])
    have hl : (c.2.2.1.getD (xow (xgf (xzg c)) (xha R p)) []).length ≤ 12 := by
      rcases Nat.lt_or_ge (xow (xgf (xzg c)) (xha R p)) c.2.2.1.length with w | w
      · exact (h.2.1.2.2 _ (xmem_getD (d := []) w)).2.1
      · rw [List.getD_eq_getElem?_getD, List.getElem?_eq_none (by omega)]
        exact Nat.zero_le _
    unfold xznb
    omega
  · omega
theorem xze_le (c : xPx) (ex k : Nat) : xze c ex k ≤ ex := by
  unfold xze
  split <;> omega
theorem xzT_b {c : xPx} (h : xzo c) (ha : xzal c = true) (ex m s k : Nat) : 1 ≤ xsaL (xzN c (xzR c m s k)) (xzx c (xzs c k)) (xzr c (xzs c k)).2 0 ∧ xsaL (xzN c (xzR c m s k)) (xzx c (xzs c k)) (xzr c (xzs c k)).2 0 ≤ 14040 := by
  obtain ⟨n, t, L, e1, e2, ok, hn, h16, hs⟩ := xzr_ok h ha k
  unfold xzx
  rw [e2]
  have h120 := xRok_120 ok hn
  have hge := xcI_ge L
  refine ⟨?_, ?_⟩
  · have := xsaL_gt (nm := xzN c (xzR c m s k)) (ct := xct c.2.1 t (xzb c)) (fun p => (xzN_b h _ p).1) L 0 (fun ln hl => ⟨(ok.1 ln hl).1, fun o ho => (xct_b ((ok.1 ln hl).2.2.2.2 o ho)).2⟩) hs
    omega
  · have := xsaL_le (nm := xzN c (xzR c m s k)) (ct := xct c.2.1 t (xzb c)) (fun p => (xzN_b h _ p).2) L 0 (fun ln hl => ⟨(ok.1 ln hl).2.1, fun o ho => (xct_b ((ok.1 ln hl).2.2.2.2 o ho)).1⟩)
    show xsaL (xzN c (xzR c m s k)) (xct c.2.1 t (xzb c)) L 0 ≤ 14040
    omega
theorem xzh_lt {c : xPx} (ex m k a : Nat) {s : Nat} (hs : s < xgH (xzg c)) : xzh c ex m s k a < xgH (xzg c) := xha_lt hs
theorem xha_tb {m H p h : Nat} {b : Bool} {k : Nat} (hh : h < H) (hl : 1 ≤ (xlu m H b k h).length) : m.testBit (xha (xlu m H b k h) p) = true := by
  unfold xha
  exact (xlu_in b k h hh _ (xmem_getD (d := 0) (Nat.mod_lt p (by omega)))).2
