/-! a PLAY of the reference: walk, whole -/
/-- what walk reads of a RHYME -/
def xMq (c : xPx) (s n : Nat) (t : Nat → Nat) (L : List xLn) (R : List Nat) (ct : xIt → Nat) (S : xS) : Prop := xRM s S n t L ∧ (∀ l, l < L.length → xLw S s ct L l) ∧ xMr S R ∧ S.2.1 208 1 = nI (c.1.1 1) ∧ (∀ p, p < c.2.2.1.length → S.2.1 215 p = nI (if xzb c = true then xznb c p else 1))
theorem xMq.fr {c : xPx} {s n : Nat} {t : Nat → Nat} {L : List xLn} {R : List Nat} {ct : xIt → Nat} {S S' : xS} {P : Nat → Nat → Prop} (h : xMq c s n t L R ct S) (hf : xFl P S S') (hn : ∀ i q, ((i = 187 ∧ q = 61) ∨ i = 195 ∨ (198 ≤ i ∧ i ≤ 203) ∨ i = 208 ∨ (213 ≤ i ∧ i ≤ 217)) → ¬ P i q) : xMq c s n t L R ct S' := ⟨h.1.fr hf (fun i q w => hn _ _ (by omega)), fun l hl => (h.2.1 l hl).fr hf (fun q hq => hn _ _ (by omega)) (hn _ _ (by omega)) (hn _ _ (by omega)), h.2.2.1.fr hf (fun i q w => hn _ _ (by omega)), hf.i h.2.2.2.1 (hn _ _ (by omega)), fun p hp => hf.i (h.2.2.2.2 p hp) (hn _ _ (by omega))⟩
theorem wt_loop {c : xPx} {n s : Nat} {t : Nat → Nat} {L : List xLn} {R : List Nat} {ct : xIt → Nat} {l d : Nat} {x2 x3 x4 : Value} {x5 : Int32} (ho : xzo c) (hs : s < 6) (ok : xRok t n L) (h121 : (L.flatMap xmit).length ≤ 121) (h16 : L.length ≤ 16) (hr1 : 1 ≤ R.length) (hr2 : R.length ≤ 24) (hr3 : ∀ p, xha R p < xgH (xzg c)) (hl : l < L.length) {Q : Option Value → xS → Prop} {pe : Nat} (hpe : pe ≤ 2 ^ 29) : ∀ (j i p : Nat) (S : xS), i + j = (L.getD l (0, 0, [])).1 → (xrp (xsay (xzN c R) ct (xmit (L.getD l (0, 0, [])))) j p) = pe → XC S → xMq c s n t L R ct S → S.2.1 187 62 = nI p → (∀ S' y7, xFl (fun i q => i = 187 ∧ q = 62) S S' → S'.2.1 187 62 = nI pe → Wp false (d + 2) 11 cX12_walk none false 175 [.ref 187, .int (nI s), x2, x3, x4, .int x5, .int (nI l), y7] [] S' Q) → Wp false (d + 2) 11 cX12_walk none false 145 [.ref 187, .int (nI s), x2, x3, x4, .int x5, .int (nI l), .int (nI i)] [] S Q := by
  have h9 := (xRok_ln ok hl).2.1
  intro j
  induction j with
  | zero =>
    intro i p S hi hp hX hq ks K
    have tm := hq.1.2.2.2.1 l hl
    have hii : i = (L.getD l (0, 0, [])).1 := by omega
    rw [xrp] at hp
    subst hp
    have K' := K S (.int (nI i)) (xFl.rf S) ks
    refine wp_iload dX12_walk_145 rfl (wp_aload_n dX12_walk_147 rfl rfl (g11_219 dX12_walk_148 (xsh hX sh_187) (xrr hX r187_36) (wp_bipush (v := nI 16) dX12_walk_151 rfl (wp_iload_n dX12_walk_153 rfl (wv_imul dX12_walk_154 (pk_mul _ _) (wp_iload dX12_walk_155 rfl (wv_iadd dX12_walk_157 (nI_add _ _) (wn_iaload dX12_walk_158 (xsh hX sh_202) rfl (by omega) (by decide) tm ?_))))))))
    refine wn_icmp_ge dX12_walk_159 rfl (by omega) (by omega) (fun c159 => ?_) (fun c159 => absurd c159 (by omega))
    exact K'
  | succ j ih =>
    intro i p S hi hp hX hq ks K
    obtain ⟨hM, hW, hr, h8, hN⟩ := hq
    have tm := hM.2.2.2.1 l hl
    rw [xrp] at hp
    have hb : xsay (xzN c R) ct (xmit (L.getD l (0, 0, []))) p ≤ 2 ^ 29 := by
      have := xrp_ge (xsay_ge (xzN c R) ct (xmit (L.getD l (0, 0, [])))) j (xsay (xzN c R) ct (xmit (L.getD l (0, 0, []))) p)
      omega
    obtain ⟨S1, g1, f1, k1⟩ := m_say (d + 0) ho hs ok h121 h16 hl hr1 hr2 hr3 hb hX hM (hW l hl) hr h8 hN ks
    have nx := ih (i + 1) _ S1 (by omega) hp (f1.XC hX) (xMq.fr ⟨hM, hW, hr, h8, hN⟩ f1 (fun i q w h => by omega)) k1 (fun S' y7 f h => K S' y7 (f1.tt f) h)
    refine wp_iload dX12_walk_145 rfl (wp_aload_n dX12_walk_147 rfl rfl (g11_219 dX12_walk_148 (xsh hX sh_187) (xrr hX r187_36) (wp_bipush (v := nI 16) dX12_walk_151 rfl (wp_iload_n dX12_walk_153 rfl (wv_imul dX12_walk_154 (pk_mul _ _) (wp_iload dX12_walk_155 rfl (wv_iadd dX12_walk_157 (nI_add _ _) (wn_iaload dX12_walk_158 (xsh hX sh_202) rfl (by omega) (by decide) tm ?_))))))))
    refine wn_icmp_ge dX12_walk_159 rfl (by omega) (by omega) (fun c159 => absurd c159 (by omega)) (fun c159 => ?_)
    exact wp_aload_n dX12_walk_162 rfl rfl (wp_iload_n dX12_walk_163 rfl (wp_iload dX12_walk_164 rfl (wp_iv3 dX12_walk_166 k11_415 q_X12_say (by decide) (xsh hX sh_187) (by decide) (Nat.le_of_ble_eq_true rfl) g1 (wp_iinc dX12_walk_169 rfl (nI_1 _) ⟨Nat.le_of_ble_eq_true rfl, Or.inr rfl⟩ rfl (wp_goto dX12_walk_172 rfl nx)))))
theorem wl_loop {c : xPx} {n s : Nat} {t : Nat → Nat} {L : List xLn} {R : List Nat} {ct : xIt → Nat} {d : Nat} {x2 x3 x4 : Value} {x5 : Int32} (ho : xzo c) (hs : s < 6) (ok : xRok t n L) (h121 : (L.flatMap xmit).length ≤ 121) (h16 : L.length ≤ 16) (hr1 : 1 ≤ R.length) (hr2 : R.length ≤ 24) (hr3 : ∀ p, xha R p < xgH (xzg c)) {Q : Option Value → xS → Prop} {pe : Nat} (hpe : pe ≤ 2 ^ 29) : ∀ (j l p : Nat) (S : xS) (y7 : Value), l + j = L.length → (xsaL (xzN c R) ct (L.drop l) p) = pe → XC S → xMq c s n t L R ct S → S.2.1 187 62 = nI p → (∀ S' y7, xFl (fun i q => i = 187 ∧ q = 62) S S' → S'.2.1 187 62 = nI pe → Wp false (d + 2) 11 cX12_walk none false 181 [.ref 187, .int (nI s), x2, x3, x4, .int x5, .int (nI L.length), y7] [] S' Q) → Wp false (d + 2) 11 cX12_walk none false 92 [.ref 187, .int (nI s), x2, x3, x4, .int x5, .int (nI l), y7] [] S Q := by
  intro j
  induction j with
  | zero =>
    intro l p S y7 hi hp hX hq ks K
    have hll : l = L.length := by omega
    subst hll
    have km := hq.1.2.2.2.2
    rw [List.drop_length, xsaL] at hp
    subst hp
    have K' := K S y7 (xFl.rf S) ks
    refine wp_iload dX12_walk_92 rfl (wp_aload_n dX12_walk_94 rfl rfl (g11_222 dX12_walk_95 (xsh hX sh_187) (xrr hX r187_37) (wp_iload_n dX12_walk_98 rfl (wn_iaload dX12_walk_99 (xsh hX sh_203) rfl (by omega) (by decide) km ?_))))
    refine wn_icmp_ge dX12_walk_100 rfl (by omega) (by omega) (fun c100 => ?_) (fun c100 => absurd c100 (by omega))
    exact K'
  | succ j ih =>
    intro l p S y7 hi hp hX hq ks K
    have km := hq.1.2.2.2.2
    have hl : l < L.length := by omega
    have hw := hq.2.1 l hl
    have kh := hw.2.2
    have kw := hw.2.1
    rw [xdrop_s (0, 0, []) L l hl, xsaL] at hp
    have ge1 := xsaL_ge (xzN c R) ct (L.drop (l + 1)) (xrp (xsay (xzN c R) ct (L.getD l (0, 0, [])).2.2) (L.getD l (0, 0, [])).1 p)
    have nx : ∀ S' y7, xFl (fun i q => i = 187 ∧ q = 62) S S' → S'.2.1 187 62 = nI (xrp (xsay (xzN c R) ct (xmit (L.getD l (0, 0, [])))) (L.getD l (0, 0, [])).1 p) → Wp false (d + 2) 11 cX12_walk none false 92 [.ref 187, .int (nI s), x2, x3, x4, .int x5, .int (nI (l + 1)), y7] [] S' Q := fun S' y7 f h => ih (l + 1) _ S' y7 (by omega) hp (f.XC hX) (hq.fr f (fun i q w h => by omega)) h (fun S2 y7 f2 h2 => K S2 y7 (f.tt f2) h2)
    cases hn : (xmit (L.getD l (0, 0, []))).any xk3 with
    | false =>
      rw [hn] at kh
      have es := xrp_sum (fun p => xsay_sum (nm := xzN c R) (ct := ct) (xmit (L.getD l (0, 0, []))) p hn) (L.getD l (0, 0, [])).1 p
      have F1 : xFl (fun i q => i = 187 ∧ q = 62) S (xSI S 187 62 (nI (xrp (xsay (xzN c R) ct (xmit (L.getD l (0, 0, [])))) (L.getD l (0, 0, [])).1 p))) := (xFl.rf S).SI ⟨rfl, rfl⟩
      have nx1 := nx _ y7 F1 (xI_same _ _ _ _)
      rw [es] at nx1
      refine wp_iload dX12_walk_92 rfl (wp_aload_n dX12_walk_94 rfl rfl (g11_222 dX12_walk_95 (xsh hX sh_187) (xrr hX r187_37) (wp_iload_n dX12_walk_98 rfl (wn_iaload dX12_walk_99 (xsh hX sh_203) rfl (by omega) (by decide) km ?_))))
      refine wn_icmp_ge dX12_walk_100 rfl (by omega) (by omega) (fun c100 => absurd c100 (by omega)) (fun c100 => ?_)
      refine wp_aload_n dX12_walk_103 rfl rfl (g11_345 dX12_walk_104 (xsh hX sh_187) (xrr hX r187_56) (wp_bipush (v := nI 17) dX12_walk_107 rfl (wp_iload_n dX12_walk_109 rfl (wv_imul dX12_walk_110 (pk_mul _ _) (wp_iload dX12_walk_111 rfl (wv_iadd dX12_walk_113 (nI_add _ _) (wn_baload dX12_walk_114 (xsh hX sh_217) (Or.inr rfl) (by omega) (by decide) kh ?_)))))))
      refine wb_if_ne dX12_walk_115 rfl (fun c115 => absurd c115 (by decide)) (fun c115 => ?_)
      exact wp_aload_n dX12_walk_118 rfl rfl (wp_dup dX12_walk_119 rfl (gv11_408 dX12_walk_120 (xsh hX sh_187) ks (wp_aload_n dX12_walk_123 rfl rfl (g11_336 dX12_walk_124 (xsh hX sh_187) (xrr hX r187_53) (wp_bipush (v := nI 17) dX12_walk_127 rfl (wp_iload_n dX12_walk_129 rfl (wv_imul dX12_walk_130 (pk_mul _ _) (wp_iload dX12_walk_131 rfl (wv_iadd dX12_walk_133 (nI_add _ _) (wn_iaload dX12_walk_134 (xsh hX sh_214) rfl (by omega) (by decide) kw (wv_iadd dX12_walk_135 (nI_add _ _) (p11_408 dX12_walk_136 (xsh hX sh_187) (wp_goto dX12_walk_139 rfl (wp_iinc dX12_walk_175 rfl (nI_1 _) ⟨Nat.le_of_ble_eq_true rfl, Or.inr rfl⟩ rfl (wp_goto dX12_walk_178 rfl nx1)))))))))))))))
    | true =>
      rw [hn] at kh
      have gt := wt_loop (d := d) (x2 := x2) (x3 := x3) (x4 := x4) (x5 := x5) ho hs ok h121 h16 hr1 hr2 hr3 hl (Q := Q) (pe := (xrp (xsay (xzN c R) ct (xmit (L.getD l (0, 0, [])))) (L.getD l (0, 0, [])).1 p)) (Nat.le_trans ge1 (Nat.le_trans (Nat.le_of_eq hp) hpe)) (L.getD l (0, 0, [])).1 0 p S (Nat.zero_add _) rfl hX hq ks (fun S' y7 f h => by
        have nx1 := nx S' y7 f h
        exact wp_iinc dX12_walk_175 rfl (nI_1 _) ⟨Nat.le_of_ble_eq_true rfl, Or.inr rfl⟩ rfl (wp_goto dX12_walk_178 rfl nx1))
      refine wp_iload dX12_walk_92 rfl (wp_aload_n dX12_walk_94 rfl rfl (g11_222 dX12_walk_95 (xsh hX sh_187) (xrr hX r187_37) (wp_iload_n dX12_walk_98 rfl (wn_iaload dX12_walk_99 (xsh hX sh_203) rfl (by omega) (by decide) km ?_))))
      refine wn_icmp_ge dX12_walk_100 rfl (by omega) (by omega) (fun c100 => absurd c100 (by omega)) (fun c100 => ?_)
      refine wp_aload_n dX12_walk_103 rfl rfl (g11_345 dX12_walk_104 (xsh hX sh_187) (xrr hX r187_56) (wp_bipush (v := nI 17) dX12_walk_107 rfl (wp_iload_n dX12_walk_109 rfl (wv_imul dX12_walk_110 (pk_mul _ _) (wp_iload dX12_walk_111 rfl (wv_iadd dX12_walk_113 (nI_add _ _) (wn_baload dX12_walk_114 (xsh hX sh_217) (Or.inr rfl) (by omega) (by decide) kh ?_)))))))
      refine wb_if_ne dX12_walk_115 rfl (fun c115 => ?_) (fun c115 => absurd c115 (by decide))
      exact wp_iconst (v := nI 0) dX12_walk_142 rfl (wp_istore dX12_walk_143 ⟨Nat.le_of_ble_eq_true rfl, Or.inr rfl⟩ rfl gt)
theorem wl_tail {c : xPx} {R : List Nat} {p e d : Nat} {x1 x2 x3 x4 x6 x7 : Value} {x5 : Int32} (ho : xzo c) (hr1 : 1 ≤ R.length) (hr2 : R.length ≤ 24) (hr3 : ∀ p, xha R p < xgH (xzg c)) (hp : 1 ≤ p) (hp2 : p ≤ 2 ^ 29) (he : e ≤ 1000) {S : xS} (hX : XC S) (hr : xMr S R) (h8 : S.2.1 208 1 = nI (c.1.1 1)) : Wp false (d + 2) 11 cX12_walk none false 214 [.ref 187, x1, x2, x3, x4, .int x5, x6, x7] [.int (nI e), .int (nI p), .ref 187] S (fun r S' => r = none ∧ xFl (fun i q => i = 187 ∧ (q = 62 ∨ q = 63)) S S' ∧ S'.2.1 187 62 = nI (p + e) ∧ S'.2.1 187 63 = nI (xow (xgf (xzg c)) (xha R (p + e - 1)))) := by
  have g24 := ho.g.H
  have F1 : xFl (fun i q => i = 187 ∧ (q = 62 ∨ q = 63)) S (xSI S 187 62 (nI (p + e))) := (xFl.rf S).SI ⟨rfl, Or.inl rfl⟩
  have X1 := F1.XC hX
  have hx := hr3 (p + e - 1)
  have hmod := Nat.mod_lt (p + e - 1) (show 0 < R.length by omega)
  have kr := F1.i hr.1 (by omega)
  have v := F1.i (hr.2 ((p + e - 1) % R.length) (Nat.mod_lt _ (by omega))) (by omega)
  have gp := m_personOf (h := xha R (p + e - 1)) (d + 1) ho (by omega) X1 (F1.i h8 (by omega))
  have F2 : xFl (fun i q => i = 187 ∧ (q = 62 ∨ q = 63)) S (xSI (xSI S 187 62 (nI (p + e))) 187 63 (nI (xow (xgf (xzg c)) (xha R (p + e - 1))))) := F1.SI ⟨rfl, Or.inr rfl⟩
  exact wv_iadd dX12_walk_214 (nI_add _ _) (p11_408 dX12_walk_215 (xsh hX sh_187) (wp_aload_n dX12_walk_218 rfl rfl (wp_aload_n dX12_walk_219 rfl rfl (wp_aload_n dX12_walk_220 rfl rfl (g11_342 dX12_walk_221 (xsh hX sh_187) (xrr hX r187_55) (wp_aload_n dX12_walk_224 rfl rfl (gv11_408 dX12_walk_225 (xsh hX sh_187) (xI_same _ _ _ _) (wp_iconst (v := nI 1) dX12_walk_228 rfl (wv_isub dX12_walk_229 (pk_sub (by omega)) (wp_aload_n dX12_walk_230 rfl rfl (gv11_405 dX12_walk_231 (xsh hX sh_187) (xi (hr.1) (Or.inr (by decide))) (wv_irem dX12_walk_234 (nI_n0 (by omega) (by omega)) (pk_rem (by omega) (by omega) (by omega)) (wn_iaload dX12_walk_235 (xsh hX sh_216) rfl (by omega) (by decide) v (wp_iv2 dX12_walk_236 k11_418 q_X12_personOf (by decide) (xsh hX sh_187) (by decide) (Nat.le_of_ble_eq_true rfl) gp (p11_421 dX12_walk_239 (xsh hX sh_187) (wp_return dX12_walk_242 rfl ⟨rfl, F2, xi (xI_same _ _ _ _) (Or.inr (by decide)), xI_same _ _ _ _⟩))))))))))))))))
theorem m_walk {c : xPx} {ex m s k : Nat} (d : Nat) (ho : xzo c) (ha : xzal c = true) (hex : ex ≤ 1000) (hm : m < 2 ^ xgH (xzg c)) (h0 : 0 < m) (hs : s < xgH (xzg c)) {S : xS} (hX : XC S) (hD : xMpd S c ex) : ∃ S', xcall false (d + 2) j_X12_walk [.ref 187, .int (nI (xzs c k)), .int (nI m), .int (nI s), .int (xwy (xbk (xzg c) k))] S none S' ∧ xFl (fun i q => (i = 187 ∧ (q = 61 ∨ q = 62 ∨ q = 63 ∨ q = 70)) ∨ i = 216) S S' ∧ xMr S' (xzR c m s k) ∧ S'.2.1 187 62 = nI (xzT c ex m s k) ∧ S'.2.1 187 70 = xB (xzA c k) ∧ S'.2.1 187 63 = nI (xzq c ex m s k) := by
  obtain ⟨n, t, L, e1, e2, ok, hn, h16, hsn⟩ := xzr_ok ho ha k
  obtain ⟨x, hx, hb⟩ := xtb_ex hm h0
  have hr1 := xzR_pos (k := k) hx hb hs
  have hT := xzT_b ho ha ex m s k
  have he := xze_le c ex k
  have g24 := ho.g.H
  have h24 := x24 g24.2.1 hm
  have hs6 := xzs_6 ho k
  have hr2 : (xzR c m s k).length ≤ 24 := Nat.le_trans (xlu_le _ _ _ _ _) g24.2.1
  have hr3 : ∀ p, xha (xzR c m s k) p < xgH (xzg c) := fun p => xha_lt hs
  have hl1 := ho.1.2.2.1
  have hl4 := ho.1.2.2.2.1
  obtain ⟨d1, d2, d3, d4, d5, d6, d7, d8, d9, d10, d11⟩ := hD
  have hmod : k % c.1.2.length < c.1.2.length := Nat.mod_lt k (by omega)
  have hsl : xzs c k = c.1.2.getD (k % c.1.2.length) 0 := rfl
  obtain ⟨hM, _, _, _, h121⟩ := (d7 (xzs c k) hs6).2 n t L e1
  have hsw : (∀ l, l < L.length → xLw S (xzs c k) (xzx c (xzs c k)) L l) ∧ S.2.1 218 (xzs c k) = xB (xask L) := by
    have h := d6 _ hmod n t L e1
    unfold xzx
    rw [e2]
    exact h
  have eA : xzA c k = xask L := by unfold xzA; rw [e2]
  have eT : xzT c ex m s k = xsaL (xzN c (xzR c m s k)) (xzx c (xzs c k)) L 0 + xze c ex k := by unfold xzT; rw [e2]
  rw [e2] at hT
  have u0 := d4 0 (by omega)
  have y0 := d8.1 0 (by decide)
  have h8 := d8.1 1 (by decide)
  have yb : c.1.1 0 ≤ 1 := ho.1.1 0 (by decide)
  have hd6 : c.1.2.getD 0 0 < 6 := ho.1.2.2.2.2 _ (xmem_getD (d := 0) (show 0 < c.1.2.length by omega))
  have F0 : xFl (fun i q => i = 187 ∧ q = 61) S (xSI S 187 61 (nI 0)) := (xFl.rf S).SI ⟨rfl, rfl⟩
  have row := ww_row (d := d) (x1 := .int (nI (xzs c k))) (x3 := .int (nI s)) (x7 := .float 0) (b := xbk (xzg c) k) (m := m) g24.1 g24.2.1 (show m < 2 ^ 31 by omega) (Q := fun r S' => r = none ∧ xFl (fun i q => (i = 187 ∧ (q = 61 ∨ q = 62 ∨ q = 63 ∨ q = 70)) ∨ i = 216) S S' ∧ xMr S' (xzR c m s k) ∧ S'.2.1 187 62 = nI (xzT c ex m s k) ∧ S'.2.1 187 70 = xB (xzA c k) ∧ S'.2.1 187 63 = nI (xzq c ex m s k)) (xgH (xzg c)) 0 s (xSI S 187 61 (nI 0)) [] (Nat.zero_add _) hs (Nat.le_refl _) (F0.XC hX) (F0.i d1 (by omega)) ⟨xI_same _ _ _ _, fun q hq => absurd hq (Nat.not_lt_zero q)⟩ (fun S1 y5 f1 hr => by
    rw [List.nil_append] at hr
    have hr : xMr S1 (xzR c m s k) := hr
    have FA : xFl (fun i q => (i = 187 ∧ (q = 61 ∨ q = 62 ∨ q = 63 ∨ q = 70)) ∨ i = 216) S S1 := (F0.mono (fun i q h => by omega)).tt (f1.mono (fun i q h => by omega))
    have X1 := FA.XC hX
    have F2 : xFl (fun i q => i = 187 ∧ (q = 62 ∨ q = 70)) S1 (xSI (xSI S1 187 62 (nI 0)) 187 70 (xB (xask L))) := ((xFl.rf S1).SI ⟨rfl, Or.inl rfl⟩).SI ⟨rfl, Or.inr rfl⟩
    have FB : xFl (fun i q => (i = 187 ∧ (q = 61 ∨ q = 62 ∨ q = 63 ∨ q = 70)) ∨ i = 216) S (xSI (xSI S1 187 62 (nI 0)) 187 70 (xB (xask L))) := FA.tt (F2.mono (fun i q h => by omega))
    have hq : xMq c (xzs c k) n t L (xzR c m s k) (xzx c (xzs c k)) (xSI (xSI S1 187 62 (nI 0)) 187 70 (xB (xask L))) := ⟨hM.fr FB (fun i q w h => by omega), fun l hl => (hsw.1 l hl).fr FB (fun q hq h => by omega) (fun h => by omega) (fun h => by omega), hr.fr F2 (fun i q w h => by omega), FB.i h8 (by omega), fun p hp => FB.i (d5 p hp) (by omega)⟩
    have a218 : (xSI S1 187 62 (nI 0)).2.1 218 (xzs c k) = xB (xask L) := xi (FA.i hsw.2 (by omega)) (Or.inl (by decide))
    have lines := wl_loop (d := d) (x2 := .int (nI m)) (x3 := .int (nI s)) (x4 := .int (xwy (xbk (xzg c) k))) (x5 := y5) ho hs6 ok h121 h16 hr1 hr2 hr3 (Q := fun r S' => r = none ∧ xFl (fun i q => (i = 187 ∧ (q = 61 ∨ q = 62 ∨ q = 63 ∨ q = 70)) ∨ i = 216) S S' ∧ xMr S' (xzR c m s k) ∧ S'.2.1 187 62 = nI (xzT c ex m s k) ∧ S'.2.1 187 70 = xB (xzA c k) ∧ S'.2.1 187 63 = nI (xzq c ex m s k)) (pe := xsaL (xzN c (xzR c m s k)) (xzx c (xzs c k)) L 0) (Nat.le_trans hT.2 (by decide)) L.length 0 0 _ (.float 0) (Nat.zero_add _) rfl (FB.XC hX) hq (xi (xI_same _ _ _ _) (Or.inr (by decide))) (fun S2 y7 f2 h2 => by
      have FC : xFl (fun i q => (i = 187 ∧ (q = 61 ∨ q = 62 ∨ q = 63 ∨ q = 70)) ∨ i = 216) S S2 := FB.tt (f2.mono (fun i q h => by omega))
      have X2 := FC.XC hX
      have q2 := hq.fr f2 (fun i q w h => by omega)
      have ka : S2.2.1 187 70 = xB (xask L) := f2.i (xI_same _ _ _ _) (by omega)
      have fin : ∀ e, e = xze c ex k → Wp false (d + 2) 11 cX12_walk none false 214 [.ref 187, .int (nI (xzs c k)), .int (nI m), .int (nI s), .int (xwy (xbk (xzg c) k)), .int y5, .int (nI L.length), y7] [.int (nI e), .int (nI (xsaL (xzN c (xzR c m s k)) (xzx c (xzs c k)) L 0)), .ref 187] S2 (fun r S' => r = none ∧ xFl (fun i q => (i = 187 ∧ (q = 61 ∨ q = 62 ∨ q = 63 ∨ q = 70)) ∨ i = 216) S S' ∧ xMr S' (xzR c m s k) ∧ S'.2.1 187 62 = nI (xzT c ex m s k) ∧ S'.2.1 187 70 = xB (xzA c k) ∧ S'.2.1 187 63 = nI (xzq c ex m s k)) := fun e he' => by
        subst he'
        refine (wl_tail ho hr1 hr2 hr3 hT.1 (Nat.le_trans hT.2 (by decide)) (by omega) X2 q2.2.2.1 q2.2.2.2.1).mono ?_
        rintro r S3 ⟨z1, z2, z3, z4⟩
        refine ⟨z1, FC.tt (z2.mono (fun i q h => by omega)), q2.2.2.1.fr z2 (fun i q w h => by omega), ?_, ?_, ?_⟩
        · rw [eT]; exact z3
        · rw [eA]; exact z2.i ka (by omega)
        · unfold xzq; rw [eT]; exact z4
      have v0 := FC.i u0 (by omega)
      have w0 := FC.i y0 (by omega)
      have vx := FC.i d3 (by omega)
      rcases Decidable.em (xzs c k = c.1.2.getD 0 0) with w | w
      · rcases Decidable.em (c.1.1 0 = 1) with w2 | w2
        · have f := fin ex (by unfold xze; rw [if_pos ⟨w, (show xzb c = true from decide_eq_true w2)⟩])
          refine wp_aload_n dX12_walk_181 rfl rfl (wp_dup dX12_walk_182 rfl (gv11_408 dX12_walk_183 (xsh X2 sh_187) h2 (wp_iload_n dX12_walk_186 rfl (wp_aload_n dX12_walk_187 rfl rfl (g11_330 dX12_walk_188 (xsh X2 sh_187) (xrr X2 r187_51) (wp_iconst (v := nI 0) dX12_walk_191 rfl (wn_iaload dX12_walk_192 (xsh X2 sh_212) rfl (by omega) (by decide) v0 ?_)))))))
          refine wn_icmp_ne dX12_walk_193 rfl (by omega) (by omega) (fun c193 => absurd c193 (by omega)) (fun c193 => ?_)
          refine wp_aload_n dX12_walk_196 rfl rfl (g11_272 dX12_walk_197 (xsh X2 sh_187) (xrr X2 r187_45) (wp_iconst (v := nI 0) dX12_walk_200 rfl (wn_iaload dX12_walk_201 (xsh X2 sh_208) rfl (by omega) (by decide) w0 (wp_iconst (v := nI 1) dX12_walk_202 rfl ?_))))
          refine wn_icmp_ne dX12_walk_203 rfl (by omega) (by omega) (fun c203 => absurd c203 (by omega)) (fun c203 => ?_)
          exact wp_aload_n dX12_walk_206 rfl rfl (gv11_388 dX12_walk_207 (xsh X2 sh_187) vx (wp_goto dX12_walk_210 rfl f))
        · have f := fin 0 (by unfold xze; rw [if_neg (fun q => w2 (of_decide_eq_true (show decide (c.1.1 0 = 1) = true from q.2)))])
          refine wp_aload_n dX12_walk_181 rfl rfl (wp_dup dX12_walk_182 rfl (gv11_408 dX12_walk_183 (xsh X2 sh_187) h2 (wp_iload_n dX12_walk_186 rfl (wp_aload_n dX12_walk_187 rfl rfl (g11_330 dX12_walk_188 (xsh X2 sh_187) (xrr X2 r187_51) (wp_iconst (v := nI 0) dX12_walk_191 rfl (wn_iaload dX12_walk_192 (xsh X2 sh_212) rfl (by omega) (by decide) v0 ?_)))))))
          refine wn_icmp_ne dX12_walk_193 rfl (by omega) (by omega) (fun c193 => absurd c193 (by omega)) (fun c193 => ?_)
          refine wp_aload_n dX12_walk_196 rfl rfl (g11_272 dX12_walk_197 (xsh X2 sh_187) (xrr X2 r187_45) (wp_iconst (v := nI 0) dX12_walk_200 rfl (wn_iaload dX12_walk_201 (xsh X2 sh_208) rfl (by omega) (by decide) w0 (wp_iconst (v := nI 1) dX12_walk_202 rfl ?_))))
          refine wn_icmp_ne dX12_walk_203 rfl (by omega) (by omega) (fun c203 => ?_) (fun c203 => absurd c203 (by omega))
          exact wp_iconst (v := nI 0) dX12_walk_213 rfl f
      · have f := fin 0 (by unfold xze; rw [if_neg (fun q => w q.1)])
        refine wp_aload_n dX12_walk_181 rfl rfl (wp_dup dX12_walk_182 rfl (gv11_408 dX12_walk_183 (xsh X2 sh_187) h2 (wp_iload_n dX12_walk_186 rfl (wp_aload_n dX12_walk_187 rfl rfl (g11_330 dX12_walk_188 (xsh X2 sh_187) (xrr X2 r187_51) (wp_iconst (v := nI 0) dX12_walk_191 rfl (wn_iaload dX12_walk_192 (xsh X2 sh_212) rfl (by omega) (by decide) v0 ?_)))))))
        refine wn_icmp_ne dX12_walk_193 rfl (by omega) (by omega) (fun c193 => ?_) (fun c193 => absurd c193 (by omega))
        exact wp_iconst (v := nI 0) dX12_walk_213 rfl f)
    exact wp_aload_n dX12_walk_74 rfl rfl (wp_iconst (v := nI 0) dX12_walk_75 rfl (p11_408 dX12_walk_76 (xsh X1 sh_187) (wp_aload_n dX12_walk_79 rfl rfl (wp_aload_n dX12_walk_80 rfl rfl (g11_349 dX12_walk_81 (xsh X1 sh_187) (xrr X1 r187_57) (wp_iload_n dX12_walk_84 rfl (wn_baload dX12_walk_85 (xsh X1 sh_218) (Or.inr rfl) (by omega) (by decide) a218 (p11_411 dX12_walk_86 (xsh X1 sh_187) (xB_01 _) (wp_iconst (v := nI 0) dX12_walk_89 rfl (wp_istore dX12_walk_90 ⟨Nat.le_of_ble_eq_true rfl, Or.inr rfl⟩ rfl lines)))))))))))
  obtain ⟨r, S', g1, rfl, z⟩ := xcall_some (al := false) (d := d + 2) (ls := [.ref 187, .int (nI (xzs c k)), .int (nI m), .int (nI s), .int (xwy (xbk (xzg c) k)), .float 0, .float 0, .float 0]) (S := S) (as := [.ref 187, .int (nI (xzs c k)), .int (nI m), .int (nI s), .int (xwy (xbk (xzg c) k))]) q_X12_walk (by decide) rfl (Nat.le_of_ble_eq_true rfl) rfl
    (P := fun r S' => r = none ∧ xFl (fun i q => (i = 187 ∧ (q = 61 ∨ q = 62 ∨ q = 63 ∨ q = 70)) ∨ i = 216) S S' ∧ xMr S' (xzR c m s k) ∧ S'.2.1 187 62 = nI (xzT c ex m s k) ∧ S'.2.1 187 70 = xB (xzA c k) ∧ S'.2.1 187 63 = nI (xzq c ex m s k)) (by
      exact wp_aload_n dX12_walk_0 rfl rfl (wp_iconst (v := nI 0) dX12_walk_1 rfl (p11_405 dX12_walk_2 (xsh hX sh_187) (wp_iload_n dX12_walk_5 rfl (wp_istore dX12_walk_6 ⟨Nat.le_of_ble_eq_true rfl, Or.inr rfl⟩ rfl (wp_iconst (v := nI 0) dX12_walk_8 rfl (wp_istore dX12_walk_9 ⟨Nat.le_of_ble_eq_true rfl, Or.inr rfl⟩ rfl row)))))))
  exact ⟨S', g1, z⟩
