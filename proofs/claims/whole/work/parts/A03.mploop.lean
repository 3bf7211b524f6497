/-! a PLAY of the reference: the walk from HIT to HIT -/
theorem xcb_cg {a b : Nat} : ∀ H, (∀ i, i < H → a.testBit i = b.testBit i) → xcb a H = xcb b H
  | 0, _ => rfl
  | H + 1, h => by rw [xcb, xcb, xcb_cg H (fun i hi => h i (by omega)), h H (by omega)]
theorem xtb_rm {m h i : Nat} : (m ^^^ 2 ^ h).testBit i = (m.testBit i ^^ decide (h = i)) := by rw [Nat.testBit_xor, Nat.testBit_two_pow]
theorem xcb_rm {m h : Nat} (hb : m.testBit h = true) : ∀ H, h < H → xcb (m ^^^ 2 ^ h) H + 1 = xcb m H
  | 0, w => absurd w (Nat.not_lt_zero _)
  | H + 1, w => by
    rw [xcb, xcb]
    rcases Decidable.em (h = H) with q | q
    · subst q
      rw [xcb_cg (a := m ^^^ 2 ^ h) (b := m) h (fun i hi => by rw [xtb_rm, decide_eq_false (by omega), Bool.xor_false]), xtb_rm, hb, decide_eq_true rfl]
      rfl
    · have ih := xcb_rm hb H (by omega)
      rw [xtb_rm, decide_eq_false q, Bool.xor_false]
      omega
theorem xcb_fl (H : Nat) : xcb (2 ^ H - 1) H = H := by
  have : ∀ n, n ≤ H → xcb (2 ^ H - 1) n = n := by
    intro n
    induction n with
    | zero => intro _; rfl
    | succ n ih =>
      intro hn
      rw [xcb, ih (by omega), Nat.testBit_two_pow_sub_one, decide_eq_true (by omega), if_pos rfl]
  exact this H (Nat.le_refl _)
theorem xcb_ge {m H : Nat} (hm : m < 2 ^ H) (h0 : 0 < m) : 1 ≤ xcb m H := by
  obtain ⟨x, hx, hb⟩ := xtb_ex hm h0
  have := xcb_rm hb H hx
  omega
theorem xpo_all {m : Nat} : ∀ p, (∀ i, i < p → m / 2 ^ (2 * i) % 4 ≠ 0) → xpo m p = 2 ^ p - 1
  | 0, _ => rfl
  | p + 1, h => by
    have ih := xpo_all p (fun i hi => h i (by omega))
    have hp := Nat.two_pow_pos p
    have e := Nat.two_pow_add_eq_or_of_lt (i := p) (b := 2 ^ p - 1) (by omega) 1
    rw [Nat.mul_one] at e
    rw [xpo, if_neg (h p (by omega)), ih, Nat.or_comm, ← e, Nat.pow_succ]
    omega
theorem xpm_fl (g : xRg) : xpm g (2 ^ xgH g - 1) = 2 ^ xgP g - 1 := by
  unfold xpm xgH
  cases e : xgf g with
  | false => rw [if_neg (by decide), if_neg (by decide)]
  | true =>
    rw [if_pos rfl, if_pos rfl]
    refine xpo_all _ (fun i hi => ?_)
    have q := xtbb (2 ^ (2 * xgP g) - 1) (2 * i)
    rw [Nat.testBit_two_pow_sub_one, decide_eq_true (by omega), if_pos rfl] at q
    omega
/-- what the reference's PLAY reads of the tape -/
def xTn (S : xS) (n : Nat) (t : Nat → Nat) (b : Nat) : Prop := n ≤ 260 ∧ S.2.1 187 3 = nI n ∧ ∀ q, q < n → t q < b ∧ S.2.1 188 q = nI (t q)
theorem xTn.fr {S S' : xS} {n b : Nat} {t : Nat → Nat} {P : Nat → Nat → Prop} (h : xTn S n t b) (hf : xFl P S S') (hn : ∀ i k, ((i = 187 ∧ k = 3) ∨ i = 188) → ¬ P i k) : xTn S' n t b := ⟨h.1, hf.i h.2.1 (hn _ _ (by omega)), fun q hq => ⟨(h.2.2 q hq).1, hf.i (h.2.2 q hq).2 (hn _ _ (by omega))⟩⟩
theorem mp_loop {c : xPx} {tp : Nat → Nat} {n d : Nat} {y1 : Int32} (ho : xzo c) (ha : xzal c = true) : ∀ (f k m s j : Nat) (S : xS) (y7 : Value), k + f = 24 → m < 2 ^ xgH (xzg c) → 0 < m → s < xgH (xzg c) → xcb m (xgH (xzg c)) + k = xgH (xzg c) → xovr (xzg c) m = false → j ≤ k → XC S → xMpd S c 0 → xTn S n tp c.2.2.2.1.length → S.2.1 187 72 = nI k → Wp false (d + 3) 11 cX12_play (some .int) false 101 [.ref 187, .int y1, .int (nI m), .int (nI s), .int (xwy (xbk (xzg c) k)), .int (nI (k % c.1.2.length)), .int (nI j), y7] [] S (fun r S' => r = some (.int (nI (xwk c tp n f m s k j).2)) ∧ xFl (fun i q => (i = 187 ∧ ((61 ≤ q ∧ q ≤ 70) ∨ q = 72)) ∨ i = 216 ∨ (i = 219 ∧ k ≤ q)) S S' ∧ S'.2.1 187 72 = nI (k + (xwk c tp n f m s k j).1.length) ∧ ∀ q, q < (xwk c tp n f m s k j).1.length → S'.2.1 219 (k + q) = nI ((xwk c tp n f m s k j).1.getD q 0)) := by
  have hg := ho.g
  have g24 := hg.H
  have hac := ho.2.2.1
  have hP := hg.2.1
  have hl1 := ho.1.2.2.1
  have hl4 := ho.1.2.2.2.1
  intro f
  induction f with
  | zero =>
    intro k m s j S y7 hk hm h0 hs hc hov hj hX hD hT kh
    have := xcb_ge hm h0
    omega
  | succ f ih =>
    intro k m s j S y7 hk hm h0 hs hc hov hj hX hD hT kh
    have h24 := x24 g24.2.1 hm
    rw [xwk, hov, if_neg (by decide)]
    obtain ⟨x, hx, hb⟩ := xtb_ex hm h0
    have hr1 := xzR_pos (k := k) hx hb hs
    have hmod : k % c.1.2.length < c.1.2.length := Nat.mod_lt k (by omega)
    have u0 : S.2.1 212 (k % c.1.2.length) = nI (xzs c k) := hD.2.2.2.1 _ hmod
    obtain ⟨S1, gw, f1, r1, k62, k70, k63⟩ := m_walk (ex := 0) (m := m) (s := s) (k := k) (d + 0) ho ha (by decide) hm h0 hs hX hD
    have X1 := f1.XC hX
    have D1 := hD.fr ho f1 (fun i q h => by omega)
    have T1 := hT.fr f1 (fun i q h => by omega)
    have hA : (xwa c tp n k j) < xzw c k := by
      unfold xwa xzw
      split
      · split
        · rename_i w; exact (hT.2.2 j w).1
        · exact hac.1
      · decide
    have hza : ∀ a, a < c.2.2.2.1.length → xza c a ≤ 12 := fun a h => (hac.2.2 _ (xmem_getD (d := []) h)).2.1
    have rest : ∀ (j9 : Nat) (more : Nat), j9 = (if xzA c k = true then j + 1 else j) → more = (if xzA c k = true then xza c (xwa c tp n k j) else 0) → Wp false (d + 3) 11 cX12_play (some .int) false 156 [.ref 187, .int y1, .int (nI m), .int (nI s), .int (xwy (xbk (xzg c) k)), .int (nI (k % c.1.2.length)), .int (nI j9), .int (nI more)] [] S1 (fun r S' => r = some (.int (nI (if xgs (xzg c) = true then ([xow (xgf (xzg c)) (xzh c 0 m s k (xwa c tp n k j))], 2 ^ xow (xgf (xzg c)) (xzh c 0 m s k (xwa c tp n k j))) else (xow (xgf (xzg c)) (xzh c 0 m s k (xwa c tp n k j)) :: (xwk c tp n f (m ^^^ 2 ^ (xzh c 0 m s k (xwa c tp n k j))) (xnb1 (xzg c) (m ^^^ 2 ^ (xzh c 0 m s k (xwa c tp n k j))) s (xzh c 0 m s k (xwa c tp n k j)) (k + 1)) (k + 1) (if xzA c k = true then j + 1 else j)).1, (xwk c tp n f (m ^^^ 2 ^ (xzh c 0 m s k (xwa c tp n k j))) (xnb1 (xzg c) (m ^^^ 2 ^ (xzh c 0 m s k (xwa c tp n k j))) s (xzh c 0 m s k (xwa c tp n k j)) (k + 1)) (k + 1) (if xzA c k = true then j + 1 else j)).2)).2)) ∧ xFl (fun i q => (i = 187 ∧ ((61 ≤ q ∧ q ≤ 70) ∨ q = 72)) ∨ i = 216 ∨ (i = 219 ∧ k ≤ q)) S S' ∧ S'.2.1 187 72 = nI (k + (if xgs (xzg c) = true then ([xow (xgf (xzg c)) (xzh c 0 m s k (xwa c tp n k j))], 2 ^ xow (xgf (xzg c)) (xzh c 0 m s k (xwa c tp n k j))) else (xow (xgf (xzg c)) (xzh c 0 m s k (xwa c tp n k j)) :: (xwk c tp n f (m ^^^ 2 ^ (xzh c 0 m s k (xwa c tp n k j))) (xnb1 (xzg c) (m ^^^ 2 ^ (xzh c 0 m s k (xwa c tp n k j))) s (xzh c 0 m s k (xwa c tp n k j)) (k + 1)) (k + 1) (if xzA c k = true then j + 1 else j)).1, (xwk c tp n f (m ^^^ 2 ^ (xzh c 0 m s k (xwa c tp n k j))) (xnb1 (xzg c) (m ^^^ 2 ^ (xzh c 0 m s k (xwa c tp n k j))) s (xzh c 0 m s k (xwa c tp n k j)) (k + 1)) (k + 1) (if xzA c k = true then j + 1 else j)).2)).1.length) ∧ ∀ q, q < (if xgs (xzg c) = true then ([xow (xgf (xzg c)) (xzh c 0 m s k (xwa c tp n k j))], 2 ^ xow (xgf (xzg c)) (xzh c 0 m s k (xwa c tp n k j))) else (xow (xgf (xzg c)) (xzh c 0 m s k (xwa c tp n k j)) :: (xwk c tp n f (m ^^^ 2 ^ (xzh c 0 m s k (xwa c tp n k j))) (xnb1 (xzg c) (m ^^^ 2 ^ (xzh c 0 m s k (xwa c tp n k j))) s (xzh c 0 m s k (xwa c tp n k j)) (k + 1)) (k + 1) (if xzA c k = true then j + 1 else j)).1, (xwk c tp n f (m ^^^ 2 ^ (xzh c 0 m s k (xwa c tp n k j))) (xnb1 (xzg c) (m ^^^ 2 ^ (xzh c 0 m s k (xwa c tp n k j))) s (xzh c 0 m s k (xwa c tp n k j)) (k + 1)) (k + 1) (if xzA c k = true then j + 1 else j)).2)).1.length → S'.2.1 219 (k + q) = nI ((if xgs (xzg c) = true then ([xow (xgf (xzg c)) (xzh c 0 m s k (xwa c tp n k j))], 2 ^ xow (xgf (xzg c)) (xzh c 0 m s k (xwa c tp n k j))) else (xow (xgf (xzg c)) (xzh c 0 m s k (xwa c tp n k j)) :: (xwk c tp n f (m ^^^ 2 ^ (xzh c 0 m s k (xwa c tp n k j))) (xnb1 (xzg c) (m ^^^ 2 ^ (xzh c 0 m s k (xwa c tp n k j))) s (xzh c 0 m s k (xwa c tp n k j)) (k + 1)) (k + 1) (if xzA c k = true then j + 1 else j)).1, (xwk c tp n f (m ^^^ 2 ^ (xzh c 0 m s k (xwa c tp n k j))) (xnb1 (xzg c) (m ^^^ 2 ^ (xzh c 0 m s k (xwa c tp n k j))) s (xzh c 0 m s k (xwa c tp n k j)) (k + 1)) (k + 1) (if xzA c k = true then j + 1 else j)).2)).1.getD q 0)) := by
      intro j9 more ej em
      subst ej
      have hmo : more ≤ 12 := by
        rw [em]
        unfold xzw at hA
        split
        · rename_i w; rw [if_pos w] at hA; exact hza _ hA
        · omega
      have eh : xmh c 0 m s k more = (xzh c 0 m s k (xwa c tp n k j)) := by rw [em]; rfl
      obtain ⟨S2, gf, f2, z⟩ := m_finish (ex := 0) (m := m) (s := s) (k := k) (more := more) (d + 0) ho ha hm h0 hs (by decide) (by omega) X1 D1 r1 k62
      rw [eh] at z
      have hh : (xzh c 0 m s k (xwa c tp n k j)) < xgH (xzg c) := xzh_lt 0 m k _ hs
      have hbit : m.testBit (xzh c 0 m s k (xwa c tp n k j)) = true := xha_tb hs hr1
      have hw := xow_lt hh
      have X2 := f2.XC X1
      have D2 := D1.fr ho f2 (fun i q h => by omega)
      have T2 := T1.fr f2 (fun i q h => by omega)
      have kh2 : S2.2.1 187 72 = nI k := f2.i (f1.i kh (by omega)) (by omega)
      obtain ⟨z64, zs, zn⟩ := z
      have gp := m_personOf (h := (xzh c 0 m s k (xwa c tp n k j))) (d + 2) ho (by omega) X2 (D2.2.2.2.2.2.2.2.1.1 1 (by decide))
      have hck := xcb_ge hm h0
      have F3 : xFl (fun i q => (i = 187 ∧ q = 72) ∨ (i = 219 ∧ q = k)) S2 (xSI (xSI S2 219 k (nI (xow (xgf (xzg c)) (xzh c 0 m s k (xwa c tp n k j))))) 187 72 (nI (k + 1))) := ((xFl.rf S2).SI (Or.inr ⟨rfl, rfl⟩)).SI (Or.inl ⟨rfl, rfl⟩)
      have X3 := F3.XC X2
      have D3 := D2.fr ho F3 (fun i q h => by omega)
      have T3 := T2.fr F3 (fun i q h => by omega)
      have FF : xFl (fun i q => (i = 187 ∧ ((61 ≤ q ∧ q ≤ 70) ∨ q = 72)) ∨ i = 216 ∨ (i = 219 ∧ k ≤ q)) S (xSI (xSI S2 219 k (nI (xow (xgf (xzg c)) (xzh c 0 m s k (xwa c tp n k j))))) 187 72 (nI (k + 1))) := ((f1.mono (fun i q h => by omega)).tt (f2.mono (fun i q h => by omega))).tt (F3.mono (fun i q h => by omega))
      have h219 : (xSI (xSI S2 219 k (nI (xow (xgf (xzg c)) (xzh c 0 m s k (xwa c tp n k j))))) 187 72 (nI (k + 1))).2.1 219 k = nI (xow (xgf (xzg c)) (xzh c 0 m s k (xwa c tp n k j))) := xi (xI_same _ _ _ _) (Or.inl (by decide))
      have h72 : (xSI (xSI S2 219 k (nI (xow (xgf (xzg c)) (xzh c 0 m s k (xwa c tp n k j))))) 187 72 (nI (k + 1))).2.1 187 72 = nI (k + 1) := xI_same _ _ _ _
      have hm2 := xrm_lt hm hh
      have hpm := xpm_lt hm2
      have hp12 : 2 ^ xgP (xzg c) ≤ 2 ^ 12 := Nat.pow_le_pow_right (by decide) hP
      have how12 : 2 ^ xow (xgf (xzg c)) (xzh c 0 m s k (xwa c tp n k j)) ≤ 2 ^ 12 := Nat.pow_le_pow_right (by decide) (by omega)
      cases hst : xgs (xzg c) with
      | true =>
        rw [if_pos rfl]
        have k65 := F3.i (zs hst) (by omega)
        have fin : xFl (fun i q => (i = 187 ∧ ((61 ≤ q ∧ q ≤ 70) ∨ q = 72)) ∨ i = 216 ∨ (i = 219 ∧ k ≤ q)) S (xSI (xSI S2 219 k (nI (xow (xgf (xzg c)) (xzh c 0 m s k (xwa c tp n k j))))) 187 72 (nI (k + 1))) ∧ (xSI (xSI S2 219 k (nI (xow (xgf (xzg c)) (xzh c 0 m s k (xwa c tp n k j))))) 187 72 (nI (k + 1))).2.1 187 72 = nI (k + 1) ∧ ∀ q, q < 1 → (xSI (xSI S2 219 k (nI (xow (xgf (xzg c)) (xzh c 0 m s k (xwa c tp n k j))))) 187 72 (nI (k + 1))).2.1 219 (k + q) = nI ([xow (xgf (xzg c)) (xzh c 0 m s k (xwa c tp n k j))].getD q 0) := ⟨FF, h72, fun q hq => by rw [show q = 0 by omega]; exact h219⟩
        refine wp_aload_n dX12_play_156 rfl rfl (wp_iload dX12_play_157 rfl (wp_iload_n dX12_play_159 rfl (wp_iload_n dX12_play_160 rfl (wp_iload dX12_play_161 rfl (wp_iload dX12_play_163 rfl (wp_iv6 dX12_play_165 k11_465 q_X12_finish (by decide) (xsh X1 sh_187) (by decide) (Nat.le_of_ble_eq_true rfl) gf (wp_aload_n dX12_play_168 rfl rfl (g11_352 dX12_play_169 (xsh X2 sh_187) (xrr X2 r187_71) (wp_aload_n dX12_play_172 rfl rfl (gv11_455 dX12_play_173 (xsh X2 sh_187) kh2 (wp_aload_n dX12_play_176 rfl rfl (wp_aload_n dX12_play_177 rfl rfl (gv11_424 dX12_play_178 (xsh X2 sh_187) z64 (wp_iv2 dX12_play_181 k11_418 q_X12_personOf (by decide) (xsh X2 sh_187) (by decide) (Nat.le_of_ble_eq_true rfl) gp (wn_iastore dX12_play_184 (xsh X2 sh_219) rfl (by omega) (by decide) (wp_aload_n dX12_play_185 rfl rfl (wp_dup dX12_play_186 rfl (gv11_455 dX12_play_187 (xsh X2 sh_187) (xi kh2 (Or.inl (by decide))) (wp_iconst (v := nI 1) dX12_play_190 rfl (wv_iadd dX12_play_191 (nI_add _ _) (p11_455 dX12_play_192 (xsh X2 sh_187) (wp_aload_n dX12_play_195 rfl rfl (gv11_427 dX12_play_196 (xsh X2 sh_187) (xi (xi (zs hst) (Or.inl (by decide))) (Or.inr (by decide))) ?_)))))))))))))))))))))))
        refine wn_if_lt dX12_play_199 rfl (by omega) ?_
        exact wp_aload_n dX12_play_202 rfl rfl (gv11_427 dX12_play_203 (xsh X2 sh_187) (xi (xi (zs hst) (Or.inl (by decide))) (Or.inr (by decide))) (wp_ireturn dX12_play_206 rfl rfl ⟨rfl, fin⟩))
      | false =>
        rw [if_neg Bool.false_ne_true]
        obtain ⟨z66, z68, z69, zo, zg⟩ := zn hst
        cases hov2 : xovr (xzg c) (m ^^^ 2 ^ (xzh c 0 m s k (xwa c tp n k j))) with
        | true =>
          have k65 := F3.i (zo hov2) (by omega)
          have ew : xwk c tp n f (m ^^^ 2 ^ (xzh c 0 m s k (xwa c tp n k j))) (xnb1 (xzg c) (m ^^^ 2 ^ (xzh c 0 m s k (xwa c tp n k j))) s (xzh c 0 m s k (xwa c tp n k j)) (k + 1)) (k + 1) (if xzA c k = true then j + 1 else j) = ([], xpm (xzg c) (m ^^^ 2 ^ (xzh c 0 m s k (xwa c tp n k j)))) := by
            cases f with
            | zero => rfl
            | succ f => rw [xwk, hov2, if_pos rfl]
          rw [ew]
          have fin : xFl (fun i q => (i = 187 ∧ ((61 ≤ q ∧ q ≤ 70) ∨ q = 72)) ∨ i = 216 ∨ (i = 219 ∧ k ≤ q)) S (xSI (xSI S2 219 k (nI (xow (xgf (xzg c)) (xzh c 0 m s k (xwa c tp n k j))))) 187 72 (nI (k + 1))) ∧ (xSI (xSI S2 219 k (nI (xow (xgf (xzg c)) (xzh c 0 m s k (xwa c tp n k j))))) 187 72 (nI (k + 1))).2.1 187 72 = nI (k + 1) ∧ ∀ q, q < 1 → (xSI (xSI S2 219 k (nI (xow (xgf (xzg c)) (xzh c 0 m s k (xwa c tp n k j))))) 187 72 (nI (k + 1))).2.1 219 (k + q) = nI ([xow (xgf (xzg c)) (xzh c 0 m s k (xwa c tp n k j))].getD q 0) := ⟨FF, h72, fun q hq => by rw [show q = 0 by omega]; exact h219⟩
          refine wp_aload_n dX12_play_156 rfl rfl (wp_iload dX12_play_157 rfl (wp_iload_n dX12_play_159 rfl (wp_iload_n dX12_play_160 rfl (wp_iload dX12_play_161 rfl (wp_iload dX12_play_163 rfl (wp_iv6 dX12_play_165 k11_465 q_X12_finish (by decide) (xsh X1 sh_187) (by decide) (Nat.le_of_ble_eq_true rfl) gf (wp_aload_n dX12_play_168 rfl rfl (g11_352 dX12_play_169 (xsh X2 sh_187) (xrr X2 r187_71) (wp_aload_n dX12_play_172 rfl rfl (gv11_455 dX12_play_173 (xsh X2 sh_187) kh2 (wp_aload_n dX12_play_176 rfl rfl (wp_aload_n dX12_play_177 rfl rfl (gv11_424 dX12_play_178 (xsh X2 sh_187) z64 (wp_iv2 dX12_play_181 k11_418 q_X12_personOf (by decide) (xsh X2 sh_187) (by decide) (Nat.le_of_ble_eq_true rfl) gp (wn_iastore dX12_play_184 (xsh X2 sh_219) rfl (by omega) (by decide) (wp_aload_n dX12_play_185 rfl rfl (wp_dup dX12_play_186 rfl (gv11_455 dX12_play_187 (xsh X2 sh_187) (xi kh2 (Or.inl (by decide))) (wp_iconst (v := nI 1) dX12_play_190 rfl (wv_iadd dX12_play_191 (nI_add _ _) (p11_455 dX12_play_192 (xsh X2 sh_187) (wp_aload_n dX12_play_195 rfl rfl (gv11_427 dX12_play_196 (xsh X2 sh_187) (xi (xi (zo hov2) (Or.inl (by decide))) (Or.inr (by decide))) ?_)))))))))))))))))))))))
          refine wn_if_lt dX12_play_199 rfl (by omega) ?_
          exact wp_aload_n dX12_play_202 rfl rfl (gv11_427 dX12_play_203 (xsh X2 sh_187) (xi (xi (zo hov2) (Or.inl (by decide))) (Or.inr (by decide))) (wp_ireturn dX12_play_206 rfl rfl ⟨rfl, fin⟩))
        | false =>
          obtain ⟨z65, z67⟩ := zg hov2
          have hpos : 0 < (m ^^^ 2 ^ (xzh c 0 m s k (xwa c tp n k j))) := by
            rcases Nat.eq_zero_or_pos (m ^^^ 2 ^ (xzh c 0 m s k (xwa c tp n k j))) with z | z
            · rw [z, xovr_0 hst] at hov2
              cases hov2
            · exact z
          have hcb := xcb_rm hbit (xgH (xzg c)) hh
          have k66 := F3.i z66 (by omega)
          have k67 := F3.i z67 (by omega)
          have k68 := F3.i z68 (by omega)
          have k69 := F3.i z69 (by omega)
          have nx := (ih (k + 1) (m ^^^ 2 ^ (xzh c 0 m s k (xwa c tp n k j))) (xnb1 (xzg c) (m ^^^ 2 ^ (xzh c 0 m s k (xwa c tp n k j))) s (xzh c 0 m s k (xwa c tp n k j)) (k + 1)) (if xzA c k = true then j + 1 else j) (xSI (xSI S2 219 k (nI (xow (xgf (xzg c)) (xzh c 0 m s k (xwa c tp n k j))))) 187 72 (nI (k + 1))) (.int (nI more)) (by omega) hm2 hpos (xnb1_lt hg hs hh) (by omega) hov2 (by split <;> omega) X3 D3 T3 h72).mono (Q' := (fun r S' => r = some (.int (nI (xwk c tp n f (m ^^^ 2 ^ (xzh c 0 m s k (xwa c tp n k j))) (xnb1 (xzg c) (m ^^^ 2 ^ (xzh c 0 m s k (xwa c tp n k j))) s (xzh c 0 m s k (xwa c tp n k j)) (k + 1)) (k + 1) (if xzA c k = true then j + 1 else j)).2)) ∧ xFl (fun i q => (i = 187 ∧ ((61 ≤ q ∧ q ≤ 70) ∨ q = 72)) ∨ i = 216 ∨ (i = 219 ∧ k ≤ q)) S S' ∧ S'.2.1 187 72 = nI (k + ((xwk c tp n f (m ^^^ 2 ^ (xzh c 0 m s k (xwa c tp n k j))) (xnb1 (xzg c) (m ^^^ 2 ^ (xzh c 0 m s k (xwa c tp n k j))) s (xzh c 0 m s k (xwa c tp n k j)) (k + 1)) (k + 1) (if xzA c k = true then j + 1 else j)).1.length + 1)) ∧ ∀ q, q < (xwk c tp n f (m ^^^ 2 ^ (xzh c 0 m s k (xwa c tp n k j))) (xnb1 (xzg c) (m ^^^ 2 ^ (xzh c 0 m s k (xwa c tp n k j))) s (xzh c 0 m s k (xwa c tp n k j)) (k + 1)) (k + 1) (if xzA c k = true then j + 1 else j)).1.length + 1 → S'.2.1 219 (k + q) = nI ((xow (xgf (xzg c)) (xzh c 0 m s k (xwa c tp n k j)) :: (xwk c tp n f (m ^^^ 2 ^ (xzh c 0 m s k (xwa c tp n k j))) (xnb1 (xzg c) (m ^^^ 2 ^ (xzh c 0 m s k (xwa c tp n k j))) s (xzh c 0 m s k (xwa c tp n k j)) (k + 1)) (k + 1) (if xzA c k = true then j + 1 else j)).1).getD q 0))) (fun r S' hz => by
            obtain ⟨z1, z2, z3, z4⟩ := hz
            refine ⟨z1, FF.tt (z2.mono (fun i q h => by omega)), by rw [z3]; congr 1; omega, fun q hq => ?_⟩
            rcases q with _ | q
            · exact z2.i h219 (by omega)
            · have := z4 q (by omega)
              rw [show k + (q + 1) = k + 1 + q by omega]
              exact this)
          refine wp_aload_n dX12_play_156 rfl rfl (wp_iload dX12_play_157 rfl (wp_iload_n dX12_play_159 rfl (wp_iload_n dX12_play_160 rfl (wp_iload dX12_play_161 rfl (wp_iload dX12_play_163 rfl (wp_iv6 dX12_play_165 k11_465 q_X12_finish (by decide) (xsh X1 sh_187) (by decide) (Nat.le_of_ble_eq_true rfl) gf (wp_aload_n dX12_play_168 rfl rfl (g11_352 dX12_play_169 (xsh X2 sh_187) (xrr X2 r187_71) (wp_aload_n dX12_play_172 rfl rfl (gv11_455 dX12_play_173 (xsh X2 sh_187) kh2 (wp_aload_n dX12_play_176 rfl rfl (wp_aload_n dX12_play_177 rfl rfl (gv11_424 dX12_play_178 (xsh X2 sh_187) z64 (wp_iv2 dX12_play_181 k11_418 q_X12_personOf (by decide) (xsh X2 sh_187) (by decide) (Nat.le_of_ble_eq_true rfl) gp (wn_iastore dX12_play_184 (xsh X2 sh_219) rfl (by omega) (by decide) (wp_aload_n dX12_play_185 rfl rfl (wp_dup dX12_play_186 rfl (gv11_455 dX12_play_187 (xsh X2 sh_187) (xi kh2 (Or.inl (by decide))) (wp_iconst (v := nI 1) dX12_play_190 rfl (wv_iadd dX12_play_191 (nI_add _ _) (p11_455 dX12_play_192 (xsh X2 sh_187) (wp_aload_n dX12_play_195 rfl rfl (gv11_427 dX12_play_196 (xsh X2 sh_187) (xi (xi z65 (Or.inl (by decide))) (Or.inr (by decide))) ?_)))))))))))))))))))))))
          refine wp_if_lt dX12_play_199 rfl (fun c199 => ?_) (fun c199 => absurd c199 (not_not_intro (by decide)))
          exact wp_aload_n dX12_play_207 rfl rfl (gv11_430 dX12_play_208 (xsh X2 sh_187) (xi (xi z66 (Or.inl (by decide))) (Or.inr (by decide))) (wp_istore_n dX12_play_211 ⟨Nat.le_of_ble_eq_true rfl, Or.inr rfl⟩ rfl (wp_aload_n dX12_play_212 rfl rfl (gv11_445 dX12_play_213 (xsh X2 sh_187) (xi (xi z67 (Or.inl (by decide))) (Or.inr (by decide))) (wp_istore_n dX12_play_216 ⟨Nat.le_of_ble_eq_true rfl, Or.inr rfl⟩ rfl (wp_aload_n dX12_play_217 rfl rfl (gv11_433 dX12_play_218 (xsh X2 sh_187) (xi (xi z68 (Or.inl (by decide))) (Or.inr (by decide))) (wp_istore dX12_play_221 ⟨Nat.le_of_ble_eq_true rfl, Or.inr rfl⟩ rfl (wp_aload_n dX12_play_223 rfl rfl (gv11_436 dX12_play_224 (xsh X2 sh_187) (xi (xi z69 (Or.inl (by decide))) (Or.inr (by decide))) (wp_istore dX12_play_227 ⟨Nat.le_of_ble_eq_true rfl, Or.inr rfl⟩ rfl (wp_goto dX12_play_229 rfl nx))))))))))))
    cases hask : xzA c k with
    | true =>
      have ej : (if xzA c k = true then j + 1 else j) = j + 1 := by rw [hask, if_pos rfl]
      rw [hask] at k70
      have eA : (xwa c tp n k j) = if j < n then tp j else 0 := by unfold xwa; rw [if_pos hask]
      have rs := rest (j + 1) (xza c (xwa c tp n k j)) ej.symm (by rw [hask, if_pos rfl])
      rw [hask] at rs
      rcases Nat.lt_or_ge j n with w | w
      · rw [if_pos w] at eA
        have v1 := (T1.2.2 j w).2
        have hn260 := T1.1
        have hac1 := (T1.2.2 j w).1
        have v2 : S1.2.1 197 (tp j) = nI (xza c (xwa c tp n k j)) := by rw [eA]; exact D1.2.2.2.2.2.2.2.2.2.2 _ hac1
        refine wp_aload_n dX12_play_101 rfl rfl (wp_aload_n dX12_play_102 rfl rfl (g11_330 dX12_play_103 (xsh hX sh_187) (xrr hX r187_51) (wp_iload dX12_play_106 rfl (wn_iaload dX12_play_108 (xsh hX sh_212) rfl (by omega) (by decide) u0 (wp_iload_n dX12_play_109 rfl (wp_iload_n dX12_play_110 rfl (wp_iload dX12_play_111 rfl (wp_iv5 dX12_play_113 k11_461 q_X12_walk (by decide) (xsh hX sh_187) (by decide) (Nat.le_of_ble_eq_true rfl) gw (wp_iconst (v := nI 0) dX12_play_116 rfl (wp_istore dX12_play_117 ⟨Nat.le_of_ble_eq_true rfl, Or.inr rfl⟩ rfl (wp_aload_n dX12_play_119 rfl rfl (gv11_411 dX12_play_120 (xsh X1 sh_187) k70 ?_))))))))))))
        refine wb_if_eq dX12_play_123 rfl (fun c123 => absurd c123 (by decide)) (fun c123 => ?_)
        refine wp_aload_n dX12_play_126 rfl rfl (g11_186 dX12_play_127 (xsh X1 sh_187) (xrr X1 r187_29) (wp_iload dX12_play_130 rfl (wp_aload_n dX12_play_132 rfl rfl (gv11_18 dX12_play_133 (xsh X1 sh_187) T1.2.1 ?_))))
        refine wn_icmp_ge dX12_play_136 rfl (by omega) (by omega) (fun c136 => absurd c136 (by omega)) (fun c136 => ?_)
        exact wp_aload_n dX12_play_139 rfl rfl (g11_14 dX12_play_140 (xsh X1 sh_187) (xrr X1 r187_1) (wp_iload dX12_play_143 rfl (wn_baload dX12_play_145 (xsh X1 sh_188) (Or.inl rfl) (by omega) (by decide) v1 (wp_goto dX12_play_146 rfl (wn_iaload dX12_play_150 (xsh X1 sh_197) rfl (by omega) (by decide) v2 (wp_istore dX12_play_151 ⟨Nat.le_of_ble_eq_true rfl, Or.inr rfl⟩ rfl (wp_iinc dX12_play_153 rfl (nI_1 _) ⟨Nat.le_of_ble_eq_true rfl, Or.inr rfl⟩ rfl rs)))))))
      · rw [if_neg (by omega)] at eA
        have hn260 := T1.1
        have v2 : S1.2.1 197 0 = nI (xza c (xwa c tp n k j)) := by rw [eA]; exact D1.2.2.2.2.2.2.2.2.2.2 _ hac.1
        refine wp_aload_n dX12_play_101 rfl rfl (wp_aload_n dX12_play_102 rfl rfl (g11_330 dX12_play_103 (xsh hX sh_187) (xrr hX r187_51) (wp_iload dX12_play_106 rfl (wn_iaload dX12_play_108 (xsh hX sh_212) rfl (by omega) (by decide) u0 (wp_iload_n dX12_play_109 rfl (wp_iload_n dX12_play_110 rfl (wp_iload dX12_play_111 rfl (wp_iv5 dX12_play_113 k11_461 q_X12_walk (by decide) (xsh hX sh_187) (by decide) (Nat.le_of_ble_eq_true rfl) gw (wp_iconst (v := nI 0) dX12_play_116 rfl (wp_istore dX12_play_117 ⟨Nat.le_of_ble_eq_true rfl, Or.inr rfl⟩ rfl (wp_aload_n dX12_play_119 rfl rfl (gv11_411 dX12_play_120 (xsh X1 sh_187) k70 ?_))))))))))))
        refine wb_if_eq dX12_play_123 rfl (fun c123 => absurd c123 (by decide)) (fun c123 => ?_)
        refine wp_aload_n dX12_play_126 rfl rfl (g11_186 dX12_play_127 (xsh X1 sh_187) (xrr X1 r187_29) (wp_iload dX12_play_130 rfl (wp_aload_n dX12_play_132 rfl rfl (gv11_18 dX12_play_133 (xsh X1 sh_187) T1.2.1 ?_))))
        refine wn_icmp_ge dX12_play_136 rfl (by omega) (by omega) (fun c136 => ?_) (fun c136 => absurd c136 (by omega))
        exact wp_iconst (v := nI 0) dX12_play_149 rfl (wn_iaload dX12_play_150 (xsh X1 sh_197) rfl (by omega) (by decide) v2 (wp_istore dX12_play_151 ⟨Nat.le_of_ble_eq_true rfl, Or.inr rfl⟩ rfl (wp_iinc dX12_play_153 rfl (nI_1 _) ⟨Nat.le_of_ble_eq_true rfl, Or.inr rfl⟩ rfl rs)))
    | false =>
      have ej : (if xzA c k = true then j + 1 else j) = j := by rw [hask, if_neg (by decide)]
      rw [hask] at k70
      have rs := rest j 0 ej.symm (by rw [hask, if_neg (by decide)])
      rw [hask] at rs
      refine wp_aload_n dX12_play_101 rfl rfl (wp_aload_n dX12_play_102 rfl rfl (g11_330 dX12_play_103 (xsh hX sh_187) (xrr hX r187_51) (wp_iload dX12_play_106 rfl (wn_iaload dX12_play_108 (xsh hX sh_212) rfl (by omega) (by decide) u0 (wp_iload_n dX12_play_109 rfl (wp_iload_n dX12_play_110 rfl (wp_iload dX12_play_111 rfl (wp_iv5 dX12_play_113 k11_461 q_X12_walk (by decide) (xsh hX sh_187) (by decide) (Nat.le_of_ble_eq_true rfl) gw (wp_iconst (v := nI 0) dX12_play_116 rfl (wp_istore dX12_play_117 ⟨Nat.le_of_ble_eq_true rfl, Or.inr rfl⟩ rfl (wp_aload_n dX12_play_119 rfl rfl (gv11_411 dX12_play_120 (xsh X1 sh_187) k70 ?_))))))))))))
      refine wb_if_eq dX12_play_123 rfl (fun c123 => ?_) (fun c123 => absurd c123 (by decide))
      exact rs
