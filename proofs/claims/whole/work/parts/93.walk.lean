/-! a PLAY of the class: COUNTING in its context; the walk -/
theorem xRD_ch {S : xS} {c : xPx} {ex : Nat} (h : xRD S c ex) (ho : xzo c) (k : Nat) : xCh (106 + 4 * xzs c k) S (xzx c (xzs c k)) (xzb c) (xzr c (xzs c k)).2 (xze c ex k) := by
  obtain ⟨_, _, h1, h4, h6⟩ := ho.1
  exact h.2.2.2.2.2 (k % c.1.2.length) (Nat.mod_lt k (by omega))
theorem c_reckonZ {c : xPx} {ex m s k : Nat} (d : Nat) (ho : xzo c) (ha : xzal c = true) (hex : ex ≤ 1000) (hm : m < 2 ^ xgH (xzg c)) (h0 : 0 < m) (hs : s < xgH (xzg c)) (hk : k < 24) {S : xS} (hX : XC S) (hD : xRD S c ex) : ∃ S', xcall false (d + 3) j_X4_reckon [.ref 74, .int (nI m), .int (nI s), .int (nI k)] S (some (.int (nI (xzw c k)))) S' ∧ xFl (fun i q => (i = 74 ∧ q = 7) ∨ i = 79 ∨ (i = 80 ∧ q = k) ∨ i = 82 + k) S S' ∧ S'.2.1 80 k = (if xzA c k = true then nI (xzq c ex m s k) else -1) ∧ ∀ a, a < xzw c k → S'.2.1 (82 + k) a = nI (xzh c ex m s k a) := by
  obtain ⟨n, t, L, e1, e2, ok, hn, h16, hsn⟩ := xzr_ok ho ha k
  obtain ⟨_, _, hl1, hl4, hl6⟩ := ho.1
  obtain ⟨x, hx, hb⟩ := xtb_ex hm h0
  have hr1 := xzR_pos (k := k) hx hb hs
  have hT := xzT_b ho ha ex m s k
  have he := xze_le c ex k
  have g24 := ho.g.H
  have h24 := x24 g24.2.1 hm
  have hG := xRD_ch hD ho k
  obtain ⟨h1, h2, h3, h4, h5, h6⟩ := hD
  have h136 : ((xzr c (xzs c k)).2.flatMap (xgpl (xzx c (xzs c k)) (xzb c))).length ≤ 136 := by
    have q1 := xgp_all (xzx c (xzs c k)) (xzb c) L
    have q2 := xcI_ge L
    have q3 := xRok_120 ok hn
    rw [e2]
    show (L.flatMap (xgpl (xzx c (xzs c k)) (xzb c))).length ≤ 136
    omega
  exact c_reckon (g := xzg c) (bt := xzb c) (ct := xzx c (xzs c k)) (L := (xzr c (xzs c k)).2) (r := xze c ex k) (nb := xznb c) (al := xza c) (ac := c.2.2.2.1.length) (oc := c.1.2.length) (sl := xzs c k) d ho.g (by rw [e2]; exact h16) h136 (fun l hl => by rw [e2] at hl ⊢; exact (xRok_ln ok hl).2.1) (by omega) hs hk hl1 hl4 (xzs_6 ho k) hr1 (by omega) (Nat.le_trans hT.1 (Nat.le_add_right _ _)) (Nat.le_trans hT.2 (by decide)) hX h1 h2 h3 h4 (h5 _ (Nat.mod_lt k (by omega))) hG
/-- a PLAY walked on, HIT by HIT: who was HIT, and who is LEFT -/
def xwa (c : xPx) (tp : Nat → Nat) (n k j : Nat) : Nat := if xzA c k = true then (if j < n then tp j else 0) else 0
def xwk (c : xPx) (tp : Nat → Nat) (n : Nat) : Nat → Nat → Nat → Nat → Nat → List Nat × Nat
  | 0, m, _, _, _ => ([], xpm (xzg c) m)
  | f + 1, m, s, k, j => if xovr (xzg c) m = true then ([], xpm (xzg c) m) else
    if xgs (xzg c) = true then ([xow (xgf (xzg c)) (xzh c 0 m s k (xwa c tp n k j))], 2 ^ xow (xgf (xzg c)) (xzh c 0 m s k (xwa c tp n k j))) else
    (xow (xgf (xzg c)) (xzh c 0 m s k (xwa c tp n k j)) :: (xwk c tp n f (m ^^^ 2 ^ xzh c 0 m s k (xwa c tp n k j)) (xnb1 (xzg c) (m ^^^ 2 ^ xzh c 0 m s k (xwa c tp n k j)) s (xzh c 0 m s k (xwa c tp n k j)) (k + 1)) (k + 1) (if xzA c k = true then j + 1 else j)).1,
     (xwk c tp n f (m ^^^ 2 ^ xzh c 0 m s k (xwa c tp n k j)) (xnb1 (xzg c) (m ^^^ 2 ^ xzh c 0 m s k (xwa c tp n k j)) s (xzh c 0 m s k (xwa c tp n k j)) (k + 1)) (k + 1) (if xzA c k = true then j + 1 else j)).2)
theorem xni_lt {g : xRg} {m h k : Nat} (hh : h < xgH g) : xni g m h k < xgH g := xfi_lt _ hh _ _ hh
theorem xnb1_lt {g : xRg} {m s h k : Nat} (hg : xgo g) (hs : s < xgH g) (hh : h < xgH g) : xnb1 g m s h k < xgH g := by
  have hH := hg.H
  have e2 : xgf g = true → 2 ≤ xgH g := fun w => by unfold xgH; rw [if_pos w]; have := hg.1; omega
  unfold xnb1
  split
  · split
    · exact hs
    · exact xni_lt hs
  · split
    · split
      · omega
      · split
        · rename_i w; have := e2 w.1; omega
        · exact xni_lt hh
    · exact xni_lt hh
/-- nobody in, then over -/
theorem xovr_0 {g : xRg} (hs : xgs g = false) : xovr g 0 = true := by
  have h0 : xpm g 0 = 0 := by
    unfold xpm
    split
    · generalize xgP g = p
      induction p with
      | zero => rfl
      | succ p ih => rw [xpo, Nat.zero_div, if_pos rfl, ih]
    · rfl
  unfold xovr
  rw [h0, hs]
  have : xcb 0 12 = 0 := by decide
  rw [this]
  rw [decide_eq_true (Nat.zero_le (xgl g))]
  rfl
