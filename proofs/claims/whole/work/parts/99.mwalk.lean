/-! a PLAY of the reference: walk -/
theorem xsum_hd (f : Nat → Nat) : ∀ n, xsum f (n + 1) = f 0 + xsum (fun k => f (k + 1)) n
  | 0 => by rw [xsum, xsum, xsum]; omega
  | n + 1 => by
    rw [xsum, xsum_hd f n]
    show _ = f 0 + (xsum (fun k => f (k + 1)) n + f (n + 1))
    omega
theorem xsay_sum {nm : Nat → Nat} {ct : xIt → Nat} : ∀ (I : List xIt) (p : Nat), I.any xk3 = false → xsay nm ct I p = p + xsum (fun q => ct (I.getD q (0, 0, 0))) I.length
  | [], p, _ => rfl
  | o :: r, p, h => by
    rw [List.any_cons, Bool.or_eq_false_iff] at h
    have h3 : ¬ o.1 = 3 := fun e => by
      have : xk3 o = true := decide_eq_true e
      rw [this] at h
      exact absurd h.1 (by decide)
    rw [xsay, if_neg h3, xsay_sum r _ h.2, List.length_cons, xsum_hd]
    show p + ct o + xsum (fun q => ct (r.getD q (0, 0, 0))) r.length = p + (ct o + xsum (fun q => ct (r.getD q (0, 0, 0))) r.length)
    omega
theorem xrp_sum {f : Nat → Nat} {b : Nat} (h : ∀ p, f p = p + b) : ∀ (n p : Nat), xrp f n p = p + n * b
  | 0, p => by rw [xrp]; omega
  | n + 1, p => by rw [xrp, xrp_sum h n, h, Nat.succ_mul]; omega
/-- which way one goes -/
def xwy (b : Bool) : Int32 := if b = true then -1 else nI 1
theorem xwy_step {H h : Nat} (b : Bool) (hh : h < H) (hH : H ≤ 24) : ∃ w, nI h + xwy b + nI H = nI w ∧ nI w - nI w / nI H * nI H = nI (xsdd H b h) := by
  cases b with
  | false =>
    refine ⟨h + 1 + H, by rw [show xwy false = nI 1 from rfl, nI_add, nI_add], ?_⟩
    rw [pk_rem (by omega) (by omega) (by omega), Nat.add_mod_right]
    unfold xsdd
    rw [if_neg (by decide)]
    rcases Nat.lt_or_ge (h + 1) H with w | w
    · rw [if_pos w, Nat.mod_eq_of_lt w]
    · rw [if_neg (by omega), show h + 1 = H by omega, Nat.mod_self]
  | true =>
    refine ⟨h + H - 1, ?_, ?_⟩
    · rw [show xwy true = -1 from rfl, Int32.add_assoc, Int32.add_comm (-1 : Int32), ← Int32.add_assoc, nI_add, show h + H = (h + H - 1) + 1 by omega, pk_m1]
      rfl
    · rw [pk_rem (by omega) (by omega) (by omega)]
      unfold xsdd
      rw [if_pos rfl]
      rcases Nat.eq_zero_or_pos h with w | w
      · rw [w, if_neg (by decide), Nat.zero_add, Nat.mod_eq_of_lt (by omega)]
      · rw [if_pos w, show h + H - 1 = (h - 1) + H by omega, Nat.add_mod_right, Nat.mod_eq_of_lt (by omega)]
/-- the row of those that are in, in the reference -/
def xMr (S : xS) (R : List Nat) : Prop := S.2.1 187 61 = nI R.length ∧ ∀ k, k < R.length → S.2.1 216 k = nI (R.getD k 0)
theorem xMr.fr {S S' : xS} {R : List Nat} {P : Nat → Nat → Prop} (h : xMr S R) (hf : xFl P S S') (hn : ∀ i k, ((i = 187 ∧ k = 61) ∨ i = 216) → ¬ P i k) : xMr S' R := ⟨hf.i h.1 (hn _ _ (by omega)), fun k hk => hf.i (h.2 k hk) (hn _ _ (by omega))⟩
theorem m_personOf {c : xPx} {h : Nat} (d : Nat) (ho : xzo c) (hh : h < 2 ^ 30) {S : xS} (hX : XC S) (hl : S.2.1 208 1 = nI (c.1.1 1)) : xcall false d j_X12_personOf [.ref 187, .int (nI h)] S (some (.int (nI (xow (xgf (xzg c)) h)))) S := by
  have yb : c.1.1 1 ≤ 1 := ho.1.1 1 (by decide)
  rcases Decidable.em (c.1.1 1 = 1) with w | w
  · rw [show xow (xgf (xzg c)) h = h / 2 by unfold xow; rw [if_pos (show xgf (xzg c) = true from decide_eq_true w)]]
    refine xcall_intro (ls := [.ref 187, .int (nI h)]) q_X12_personOf (by decide) rfl (Nat.le_of_ble_eq_true rfl) rfl ?_
    refine wp_aload_n dX12_personOf_0 rfl rfl (g11_272 dX12_personOf_1 (xsh hX sh_187) (xrr hX r187_45) (wp_iconst (v := nI 1) dX12_personOf_4 rfl (wn_iaload dX12_personOf_5 (xsh hX sh_208) rfl (by omega) (by decide) hl (wp_iconst (v := nI 1) dX12_personOf_6 rfl ?_))))
    refine wn_icmp_ne dX12_personOf_7 rfl (by omega) (by omega) (fun c7 => absurd c7 (by omega)) (fun c7 => ?_)
    exact wp_iload_n dX12_personOf_10 rfl (wp_iconst (v := nI 2) dX12_personOf_11 rfl (wv_idiv dX12_personOf_12 (nI_n0 (by decide) (by decide)) (pk_div (by omega) (by decide) (by decide)) (wp_goto dX12_personOf_13 rfl (wp_ireturn dX12_personOf_17 rfl rfl ⟨rfl, rfl⟩))))
  · rw [show xow (xgf (xzg c)) h = h by unfold xow; rw [if_neg (show ¬ xgf (xzg c) = true from fun q => w (of_decide_eq_true q))]]
    refine xcall_intro (ls := [.ref 187, .int (nI h)]) q_X12_personOf (by decide) rfl (Nat.le_of_ble_eq_true rfl) rfl ?_
    refine wp_aload_n dX12_personOf_0 rfl rfl (g11_272 dX12_personOf_1 (xsh hX sh_187) (xrr hX r187_45) (wp_iconst (v := nI 1) dX12_personOf_4 rfl (wn_iaload dX12_personOf_5 (xsh hX sh_208) rfl (by omega) (by decide) hl (wp_iconst (v := nI 1) dX12_personOf_6 rfl ?_))))
    refine wn_icmp_ne dX12_personOf_7 rfl (by omega) (by omega) (fun c7 => ?_) (fun c7 => absurd c7 (by omega))
    exact wp_iload_n dX12_personOf_16 rfl (wp_ireturn dX12_personOf_17 rfl rfl ⟨rfl, rfl⟩)
theorem ww_row {m H d : Nat} {b : Bool} {x1 x3 x7 : Value} (h1 : 1 ≤ H) (h24 : H ≤ 24) (hm : m < 2 ^ 31) {Q : Option Value → xS → Prop} : ∀ (j i a : Nat) (S : xS) (A : List Nat), i + j = H → a < H → A.length ≤ i → XC S → S.2.1 187 60 = nI H → xMr S A → (∀ S' (y5 : Int32), xFl (fun i q => (i = 187 ∧ q = 61) ∨ i = 216) S S' → xMr S' (A ++ xlu m H b j a) → Wp false (d + 2) 11 cX12_walk none false 74 [.ref 187, x1, .int (nI m), x3, .int (xwy b), .int y5, .int (nI H), x7] [] S' Q) → Wp false (d + 2) 11 cX12_walk none false 11 [.ref 187, x1, .int (nI m), x3, .int (xwy b), .int (nI a), .int (nI i), x7] [] S Q := by
  intro j
  induction j with
  | zero =>
    intro i a S A hi ha hA hX kH hl K
    have hii : i = H := by omega
    subst hii
    have K' := K S (nI a) (xFl.rf S) (by rw [xlu, List.append_nil]; exact hl)
    refine wp_iload dX12_walk_11 rfl (wp_aload_n dX12_walk_13 rfl rfl (gv11_391 dX12_walk_14 (xsh hX sh_187) kH ?_))
    refine wn_icmp_ge dX12_walk_17 rfl (by omega) (by omega) (fun c17 => ?_) (fun c17 => absurd c17 (by omega))
    exact K'
  | succ j ih =>
    intro i a S A hi ha hA hX kH hl K
    have kr := hl.1
    have hlt := xsdd_lt b ha
    have eb := xbitt (h := a) hm
    obtain ⟨w, ew, er⟩ := xwy_step b ha h24
    rw [xlu] at K
    cases e : m.testBit a with
    | false =>
      rw [e, if_neg (by decide)] at eb
      rw [e, if_neg (by decide), List.nil_append] at K
      refine wp_iload dX12_walk_11 rfl (wp_aload_n dX12_walk_13 rfl rfl (gv11_391 dX12_walk_14 (xsh hX sh_187) kH ?_))
      refine wn_icmp_ge dX12_walk_17 rfl (by omega) (by omega) (fun c17 => absurd c17 (by omega)) (fun c17 => ?_)
      refine wp_iload_n dX12_walk_20 rfl (wp_iload dX12_walk_21 rfl (wv_ishr dX12_walk_23 (xshR hm (by omega)) (wp_iconst (v := nI 1) dX12_walk_24 rfl (wv_iand dX12_walk_25 eb (wp_iconst (v := nI 1) dX12_walk_26 rfl ?_)))))
      refine wn_icmp_ne dX12_walk_27 rfl (by omega) (by omega) (fun c27 => ?_) (fun c27 => absurd c27 (by omega))
      exact wp_iload dX12_walk_51 rfl (wp_iload dX12_walk_53 rfl (wv_iadd dX12_walk_55 rfl (wp_aload_n dX12_walk_56 rfl rfl (gv11_391 dX12_walk_57 (xsh hX sh_187) kH (wv_iadd dX12_walk_60 ew (wp_aload_n dX12_walk_61 rfl rfl (gv11_391 dX12_walk_62 (xsh hX sh_187) kH (wv_irem dX12_walk_65 (nI_n0 (by omega) (by omega)) er (wp_istore dX12_walk_66 ⟨Nat.le_of_ble_eq_true rfl, Or.inr rfl⟩ rfl (wp_iinc dX12_walk_68 rfl (nI_1 _) ⟨Nat.le_of_ble_eq_true rfl, Or.inr rfl⟩ rfl (wp_goto dX12_walk_71 rfl (ih (i + 1) _ S A (by omega) hlt (by omega) hX kH hl K))))))))))))
    | true =>
      rw [e, if_pos rfl] at eb
      rw [e, if_pos rfl, ← List.append_assoc] at K
      have F1 : xFl (fun i' k' => (i' = 187 ∧ k' = 61) ∨ (i' = 216 ∧ k' = A.length)) S (xSI (xSI S 216 A.length (nI a)) 187 61 (nI (A.length + 1))) := ((xFl.rf S).SI (Or.inr ⟨rfl, rfl⟩)).SI (Or.inl ⟨rfl, rfl⟩)
      have F2 : xFl (fun i q => (i = 187 ∧ q = 61) ∨ i = 216) S (xSI (xSI S 216 A.length (nI a)) 187 61 (nI (A.length + 1))) := F1.mono (fun i k h => by omega)
      have X2 := F2.XC hX
      have hl2 : xMr (xSI (xSI S 216 A.length (nI a)) 187 61 (nI (A.length + 1))) (A ++ [a]) := by
        refine ⟨by rw [List.length_append]; exact xI_same _ _ _ _, fun q hq => ?_⟩
        rw [List.length_append] at hq
        have hq' : q < A.length + 1 := hq
        rw [xapp_get]
        rcases Nat.lt_or_ge q A.length with w | w
        · rw [if_pos w]
          exact F1.i (hl.2 q w) (by omega)
        · rw [if_neg (by omega), show q = A.length by omega, Nat.sub_self]
          exact xi (xI_same _ _ _ _) (Or.inl (by decide))
      have nx := ih (i + 1) _ _ (A ++ [a]) (by omega) hlt (by rw [List.length_append]; exact Nat.succ_le_succ hA) X2 (F2.i kH (by omega)) hl2 (fun S' y5 f h => K S' y5 (F2.tt f) h)
      refine wp_iload dX12_walk_11 rfl (wp_aload_n dX12_walk_13 rfl rfl (gv11_391 dX12_walk_14 (xsh hX sh_187) kH ?_))
      refine wn_icmp_ge dX12_walk_17 rfl (by omega) (by omega) (fun c17 => absurd c17 (by omega)) (fun c17 => ?_)
      refine wp_iload_n dX12_walk_20 rfl (wp_iload dX12_walk_21 rfl (wv_ishr dX12_walk_23 (xshR hm (by omega)) (wp_iconst (v := nI 1) dX12_walk_24 rfl (wv_iand dX12_walk_25 eb (wp_iconst (v := nI 1) dX12_walk_26 rfl ?_)))))
      refine wn_icmp_ne dX12_walk_27 rfl (by omega) (by omega) (fun c27 => absurd c27 (by omega)) (fun c27 => ?_)
      exact wp_aload_n dX12_walk_30 rfl rfl (g11_342 dX12_walk_31 (xsh hX sh_187) (xrr hX r187_55) (wp_aload_n dX12_walk_34 rfl rfl (gv11_405 dX12_walk_35 (xsh hX sh_187) kr (wp_iload dX12_walk_38 rfl (wn_iastore dX12_walk_40 (xsh hX sh_216) rfl (by omega) (by decide) (wp_aload_n dX12_walk_41 rfl rfl (wp_dup dX12_walk_42 rfl (gv11_405 dX12_walk_43 (xsh hX sh_187) (xi kr (Or.inl (by decide))) (wp_iconst (v := nI 1) dX12_walk_46 rfl (wv_iadd dX12_walk_47 (nI_add _ _) (p11_405 dX12_walk_48 (xsh hX sh_187) (wp_iload dX12_walk_51 rfl (wp_iload dX12_walk_53 rfl (wv_iadd dX12_walk_55 rfl (wp_aload_n dX12_walk_56 rfl rfl (gv11_391 dX12_walk_57 (xsh hX sh_187) (xi (xi kH (Or.inl (by decide))) (Or.inr (by decide))) (wv_iadd dX12_walk_60 ew (wp_aload_n dX12_walk_61 rfl rfl (gv11_391 dX12_walk_62 (xsh hX sh_187) (xi (xi kH (Or.inl (by decide))) (Or.inr (by decide))) (wv_irem dX12_walk_65 (nI_n0 (by omega) (by omega)) er (wp_istore dX12_walk_66 ⟨Nat.le_of_ble_eq_true rfl, Or.inr rfl⟩ rfl (wp_iinc dX12_walk_68 rfl (nI_1 _) ⟨Nat.le_of_ble_eq_true rfl, Or.inr rfl⟩ rfl (wp_goto dX12_walk_71 rfl nx)))))))))))))))))))))))
theorem sy_loop {c : xPx} {n s l : Nat} {t : Nat → Nat} {L : List xLn} {R : List Nat} {ct : xIt → Nat} {d : Nat} (ho : xzo c) (hs : s < 6) (ok : xRok t n L) (h121 : (L.flatMap xmit).length ≤ 121) (h16 : L.length ≤ 16) (hl : l < L.length) (hr1 : 1 ≤ R.length) (hr2 : R.length ≤ 24) (hr3 : ∀ p, xha R p < xgH (xzg c)) : ∀ (j k p : Nat) (S : xS), k + j = (xmit (L.getD l (0, 0, []))).length → (xsay (xzN c R) ct ((xmit (L.getD l (0, 0, []))).drop k) p) ≤ 2 ^ 29 → XC S → xRM s S n t L → xLw S s ct L l → xMr S R → S.2.1 208 1 = nI (c.1.1 1) → (∀ p, p < c.2.2.1.length → S.2.1 215 p = nI (if xzb c = true then xznb c p else 1)) → S.2.1 187 62 = nI p → Wp false (d + 1) 11 cX12_say none false 17 [.ref 187, .int (nI s), .int (nI l), .int (nI (122 * s + (xof xmit L l + k)))] [] S (fun r S' => r = none ∧ xFl (fun i q => i = 187 ∧ q = 62) S S' ∧ S'.2.1 187 62 = nI (xsay (xzN c R) ct ((xmit (L.getD l (0, 0, []))).drop k) p)) := by
  have hg := ho.g
  have g24 := hg.H
  intro j
  induction j with
  | zero =>
    intro k p S hk hb hX hM hW hr h8 hN ks
    have hkk : k = (xmit (L.getD l (0, 0, []))).length := by omega
    subst hkk
    have k2 := hM.2.2.1 (l + 1) (by omega)
    have e := xof_succ xmit L l hl
    have hle := xof_le xmit L (l + 1)
    have ks' : S.2.1 187 62 = nI (xsay (xzN c R) ct ((xmit (L.getD l (0, 0, []))).drop (xmit (L.getD l (0, 0, []))).length) p) := by rw [List.drop_length, xsay]; exact ks
    refine wp_iload_n dX12_say_17 rfl (wp_bipush (v := nI 122) dX12_say_18 rfl (wp_iload_n dX12_say_20 rfl (wv_imul dX12_say_21 (pk_mul _ _) (wp_aload_n dX12_say_22 rfl rfl (g11_216 dX12_say_23 (xsh hX sh_187) (xrr hX r187_35) (wp_bipush (v := nI 17) dX12_say_26 rfl (wp_iload_n dX12_say_28 rfl (wv_imul dX12_say_29 (pk_mul _ _) (wp_iload_n dX12_say_30 rfl (wv_iadd dX12_say_31 (nI_add _ _) (wp_iconst (v := nI 1) dX12_say_32 rfl (wv_iadd dX12_say_33 (nI_add _ _) (wn_iaload dX12_say_34 (xsh hX sh_201) rfl (by omega) (by decide) k2 (wv_iadd dX12_say_35 (nI_add _ _) ?_))))))))))))))
    refine wn_icmp_ge dX12_say_36 rfl (by omega) (by omega) (fun c36 => ?_) (fun c36 => absurd c36 (by omega))
    exact wp_return dX12_say_96 rfl ⟨rfl, xFl.rf S, ks'⟩
  | succ j ih =>
    intro k p S hk hb hX hM hW hr h8 hN ks
    have k2 := hM.2.2.1 (l + 1) (by omega)
    have e := xof_succ xmit L l hl
    have hle := xof_le xmit L (l + 1)
    have kr := hr.1
    obtain ⟨f1, f2⟩ := xof_ltf xmit (0, 0, 0) hl (show k < (xmit (L.getD l (0, 0, []))).length by omega)
    have kk := (hM.2.1 _ f1).1
    have io := (xmit_bd ok (xmem_getD (d := (0, 0, 0)) f1)).1
    rw [f2] at kk io
    have hk4 := io.2.2.2.2.2
    have ed := xdrop_s (0, 0, 0) (xmit (L.getD l (0, 0, []))) k (by omega)
    rw [ed, xsay] at hb ⊢
    have hp : p ≤ 2 ^ 29 := by
      have := xsay_ge (xzN c R) ct ((xmit (L.getD l (0, 0, []))).drop (k + 1)) (p + if ((xmit (L.getD l (0, 0, []))).getD k (0, 0, 0)).1 = 3 then xzN c R p else ct ((xmit (L.getD l (0, 0, []))).getD k (0, 0, 0)))
      omega
    have kw := hW.1 k (by omega)
    have v216 := hr.2 (p % R.length) (Nat.mod_lt _ (by omega))
    have hx := hr3 p
    have hmod := Nat.mod_lt p (show 0 < R.length by omega)
    have gp := m_personOf (h := xha R p) (d + 0) ho (by omega) hX h8
    have hP := hg.2.1
    have hxow : xow (xgf (xzg c)) (xha R p) < c.2.2.1.length := xow_lt hx
    have hP' : c.2.2.1.length ≤ 12 := hP
    have kn : S.2.1 215 (xow (xgf (xzg c)) (xha R p)) = nI (xzN c R p) := hN _ hxow
    rcases Decidable.em (((xmit (L.getD l (0, 0, []))).getD k (0, 0, 0)).1 = 3) with w | w
    · rw [if_pos w] at hb ⊢
      have F1 : xFl (fun i q => i = 187 ∧ q = 62) S (xSI S 187 62 (nI (p + xzN c R p))) := (xFl.rf S).SI ⟨rfl, rfl⟩
      have nx := (ih (k + 1) _ _ (by omega) hb (F1.XC hX) (hM.fr F1 (fun i q h => by omega)) (hW.fr F1 (fun q hq h => by omega) (fun h => by omega) (fun h => by omega)) (hr.fr F1 (fun i q h => by omega)) (F1.i h8 (by omega)) (fun p hp => F1.i (hN p hp) (by omega)) (xI_same _ _ _ _)).mono (Q' := fun r S' => r = none ∧ xFl (fun i q => i = 187 ∧ q = 62) S S' ∧ S'.2.1 187 62 = nI (xsay (xzN c R) ct ((xmit (L.getD l (0, 0, []))).drop (k + 1)) (p + xzN c R p))) (fun r S' hz => ⟨hz.1, F1.tt hz.2.1, hz.2.2⟩)
      refine wp_iload_n dX12_say_17 rfl (wp_bipush (v := nI 122) dX12_say_18 rfl (wp_iload_n dX12_say_20 rfl (wv_imul dX12_say_21 (pk_mul _ _) (wp_aload_n dX12_say_22 rfl rfl (g11_216 dX12_say_23 (xsh hX sh_187) (xrr hX r187_35) (wp_bipush (v := nI 17) dX12_say_26 rfl (wp_iload_n dX12_say_28 rfl (wv_imul dX12_say_29 (pk_mul _ _) (wp_iload_n dX12_say_30 rfl (wv_iadd dX12_say_31 (nI_add _ _) (wp_iconst (v := nI 1) dX12_say_32 rfl (wv_iadd dX12_say_33 (nI_add _ _) (wn_iaload dX12_say_34 (xsh hX sh_201) rfl (by omega) (by decide) k2 (wv_iadd dX12_say_35 (nI_add _ _) ?_))))))))))))))
      refine wn_icmp_ge dX12_say_36 rfl (by omega) (by omega) (fun c36 => absurd c36 (by omega)) (fun c36 => ?_)
      refine wp_aload_n dX12_say_39 rfl rfl (wp_dup dX12_say_40 rfl (gv11_408 dX12_say_41 (xsh hX sh_187) ks (wp_aload_n dX12_say_44 rfl rfl (g11_207 dX12_say_45 (xsh hX sh_187) (xrr hX r187_32) (wp_iload_n dX12_say_48 rfl (wn_iaload dX12_say_49 (xsh hX sh_198) rfl (by omega) (by decide) kk (wp_iconst (v := nI 3) dX12_say_50 rfl ?_)))))))
      refine wn_icmp_ne dX12_say_51 rfl (by omega) (by omega) (fun c51 => absurd c51 (by omega)) (fun c51 => ?_)
      exact wp_aload_n dX12_say_54 rfl rfl (g11_339 dX12_say_55 (xsh hX sh_187) (xrr hX r187_54) (wp_aload_n dX12_say_58 rfl rfl (wp_aload_n dX12_say_59 rfl rfl (g11_342 dX12_say_60 (xsh hX sh_187) (xrr hX r187_55) (wp_aload_n dX12_say_63 rfl rfl (gv11_408 dX12_say_64 (xsh hX sh_187) ks (wp_aload_n dX12_say_67 rfl rfl (gv11_405 dX12_say_68 (xsh hX sh_187) kr (wv_irem dX12_say_71 (nI_n0 (by omega) (by omega)) (pk_rem (by omega) (by omega) (by omega)) (wn_iaload dX12_say_72 (xsh hX sh_216) rfl (by omega) (by decide) v216 (wp_iv2 dX12_say_73 k11_418 q_X12_personOf (by decide) (xsh hX sh_187) (by decide) (Nat.le_of_ble_eq_true rfl) gp (wn_iaload dX12_say_76 (xsh hX sh_215) rfl (by omega) (by decide) kn (wp_goto dX12_say_77 rfl (wv_iadd dX12_say_86 (nI_add _ _) (p11_408 dX12_say_87 (xsh hX sh_187) (wp_iinc dX12_say_90 rfl (nI_1 _) ⟨Nat.le_of_ble_eq_true rfl, Or.inr rfl⟩ rfl (wp_goto dX12_say_93 rfl nx)))))))))))))))))
    · rw [if_neg w] at hb ⊢
      have F1 : xFl (fun i q => i = 187 ∧ q = 62) S (xSI S 187 62 (nI (p + ct ((xmit (L.getD l (0, 0, []))).getD k (0, 0, 0))))) := (xFl.rf S).SI ⟨rfl, rfl⟩
      have nx := (ih (k + 1) _ _ (by omega) hb (F1.XC hX) (hM.fr F1 (fun i q h => by omega)) (hW.fr F1 (fun q hq h => by omega) (fun h => by omega) (fun h => by omega)) (hr.fr F1 (fun i q h => by omega)) (F1.i h8 (by omega)) (fun p hp => F1.i (hN p hp) (by omega)) (xI_same _ _ _ _)).mono (Q' := fun r S' => r = none ∧ xFl (fun i q => i = 187 ∧ q = 62) S S' ∧ S'.2.1 187 62 = nI (xsay (xzN c R) ct ((xmit (L.getD l (0, 0, []))).drop (k + 1)) (p + ct ((xmit (L.getD l (0, 0, []))).getD k (0, 0, 0))))) (fun r S' hz => ⟨hz.1, F1.tt hz.2.1, hz.2.2⟩)
      refine wp_iload_n dX12_say_17 rfl (wp_bipush (v := nI 122) dX12_say_18 rfl (wp_iload_n dX12_say_20 rfl (wv_imul dX12_say_21 (pk_mul _ _) (wp_aload_n dX12_say_22 rfl rfl (g11_216 dX12_say_23 (xsh hX sh_187) (xrr hX r187_35) (wp_bipush (v := nI 17) dX12_say_26 rfl (wp_iload_n dX12_say_28 rfl (wv_imul dX12_say_29 (pk_mul _ _) (wp_iload_n dX12_say_30 rfl (wv_iadd dX12_say_31 (nI_add _ _) (wp_iconst (v := nI 1) dX12_say_32 rfl (wv_iadd dX12_say_33 (nI_add _ _) (wn_iaload dX12_say_34 (xsh hX sh_201) rfl (by omega) (by decide) k2 (wv_iadd dX12_say_35 (nI_add _ _) ?_))))))))))))))
      refine wn_icmp_ge dX12_say_36 rfl (by omega) (by omega) (fun c36 => absurd c36 (by omega)) (fun c36 => ?_)
      refine wp_aload_n dX12_say_39 rfl rfl (wp_dup dX12_say_40 rfl (gv11_408 dX12_say_41 (xsh hX sh_187) ks (wp_aload_n dX12_say_44 rfl rfl (g11_207 dX12_say_45 (xsh hX sh_187) (xrr hX r187_32) (wp_iload_n dX12_say_48 rfl (wn_iaload dX12_say_49 (xsh hX sh_198) rfl (by omega) (by decide) kk (wp_iconst (v := nI 3) dX12_say_50 rfl ?_)))))))
      refine wn_icmp_ne dX12_say_51 rfl (by omega) (by omega) (fun c51 => ?_) (fun c51 => absurd c51 (by omega))
      exact wp_aload_n dX12_say_80 rfl rfl (g11_333 dX12_say_81 (xsh hX sh_187) (xrr hX r187_52) (wp_iload_n dX12_say_84 rfl (wn_iaload dX12_say_85 (xsh hX sh_213) rfl (by omega) (by decide) kw (wv_iadd dX12_say_86 (nI_add _ _) (p11_408 dX12_say_87 (xsh hX sh_187) (wp_iinc dX12_say_90 rfl (nI_1 _) ⟨Nat.le_of_ble_eq_true rfl, Or.inr rfl⟩ rfl (wp_goto dX12_say_93 rfl nx)))))))
theorem m_say {c : xPx} {n s l : Nat} {t : Nat → Nat} {L : List xLn} {R : List Nat} {ct : xIt → Nat} (d : Nat) (ho : xzo c) (hs : s < 6) (ok : xRok t n L) (h121 : (L.flatMap xmit).length ≤ 121) (h16 : L.length ≤ 16) (hl : l < L.length) (hr1 : 1 ≤ R.length) (hr2 : R.length ≤ 24) (hr3 : ∀ p, xha R p < xgH (xzg c)) {p : Nat} (hb : xsay (xzN c R) ct (xmit (L.getD l (0, 0, []))) p ≤ 2 ^ 29) {S : xS} (hX : XC S) (hM : xRM s S n t L) (hW : xLw S s ct L l) (hr : xMr S R) (h8 : S.2.1 208 1 = nI (c.1.1 1)) (hN : ∀ p, p < c.2.2.1.length → S.2.1 215 p = nI (if xzb c = true then xznb c p else 1)) (ks : S.2.1 187 62 = nI p) : ∃ S', xcall false (d + 1) j_X12_say [.ref 187, .int (nI s), .int (nI l)] S none S' ∧ xFl (fun i q => i = 187 ∧ q = 62) S S' ∧ S'.2.1 187 62 = nI (xsay (xzN c R) ct (xmit (L.getD l (0, 0, []))) p) := by
  have k2 := hM.2.2.1 l (by omega)
  have hle := xof_le xmit L l
  obtain ⟨r, S', g1, rfl, z1, z2⟩ := xcall_some (al := false) (d := d + 1) (ls := [.ref 187, .int (nI s), .int (nI l), .float 0]) (S := S) (as := [.ref 187, .int (nI s), .int (nI l)]) q_X12_say (by decide) rfl (Nat.le_of_ble_eq_true rfl) rfl
    (P := fun r S' => r = none ∧ xFl (fun i q => i = 187 ∧ q = 62) S S' ∧ S'.2.1 187 62 = nI (xsay (xzN c R) ct ((xmit (L.getD l (0, 0, []))).drop 0) p)) (by
      exact wp_bipush (v := nI 122) dX12_say_0 rfl (wp_iload_n dX12_say_2 rfl (wv_imul dX12_say_3 (pk_mul _ _) (wp_aload_n dX12_say_4 rfl rfl (g11_216 dX12_say_5 (xsh hX sh_187) (xrr hX r187_35) (wp_bipush (v := nI 17) dX12_say_8 rfl (wp_iload_n dX12_say_10 rfl (wv_imul dX12_say_11 (pk_mul _ _) (wp_iload_n dX12_say_12 rfl (wv_iadd dX12_say_13 (nI_add _ _) (wn_iaload dX12_say_14 (xsh hX sh_201) rfl (by omega) (by decide) k2 (wv_iadd dX12_say_15 (nI_add _ _) (wp_istore_n dX12_say_16 ⟨Nat.le_of_ble_eq_true rfl, Or.inr rfl⟩ rfl (sy_loop ho hs ok h121 h16 hl hr1 hr2 hr3 (xmit (L.getD l (0, 0, []))).length 0 p S (Nat.zero_add _) hb hX hM hW hr h8 hN ks))))))))))))))
  exact ⟨S', g1, z1, z2⟩
