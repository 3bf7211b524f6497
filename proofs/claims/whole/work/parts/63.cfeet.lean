/-! FEET of a line, of the class -/
def xfm (v : xTg) (t : Nat → Nat) (o : xIt) : Nat := if o.1 = 3 then 1 else xbt v t o
def xftb (v : xTg) (t : Nat → Nat) (o : xIt) (f : Nat) : Nat := if o.1 = 0 then (if f = xstrong v.2.2.2 (xfm v t o) then 1 else 0) else if o.1 = 2 then 0 else 1
def xft (v : xTg) (t : Nat → Nat) (o : xIt) : List Nat := (List.range (xfm v t o)).map (xftb v t o)
/-- the FEET of a line -/
def xfeet (v : xTg) (t : Nat → Nat) (ln : xLn) : List Nat := (xcI ln).flatMap (xft v t)
def xrow (S : xS) (r : Nat) (l : List Nat) : Prop := ∀ k, k < l.length → S.2.1 r k = nI (l.getD k 0)
theorem xftb_1 (v : xTg) (t : Nat → Nat) (o : xIt) (f : Nat) : xftb v t o f ≤ 1 := by
  unfold xftb
  repeat' split
  all_goals decide
theorem xstrong_le (st b : Nat) : xstrong st b ≤ b := by
  unfold xstrong
  split
  · omega
  · split <;> omega
theorem xft_len (v : xTg) (t : Nat → Nat) (o : xIt) : (xft v t o).length = xfm v t o := by unfold xft; simp
theorem xrange_s (g : Nat → Nat) (f : Nat) : (List.range (f + 1)).map g = (List.range f).map g ++ [g f] := by rw [List.range_succ, List.map_append]; rfl
theorem xrow.add {S : xS} {r x : Nat} {l : List Nat} (h : xrow S r l) : xrow (xSI S r l.length (nI x)) r (l ++ [x]) := by
  intro k hk
  rw [xgetD_app k hk]
  rw [xlen1] at hk
  split
  · rename_i q; exact xi (h k q) (Or.inr (by omega))
  · rw [show k = l.length by omega]; exact xI_same _ _ _ _
theorem xfm_sz {v : xTg} {t : Nat → Nat} {o : xIt} (h : xiok t o ∨ o.1 = 5) : xfm v t o ≤ xisz o ∧ xfm v t o ≤ 13 := by
  rcases h with h | h
  · obtain ⟨h1, h2, h3, h4, h5, h6⟩ := h
    unfold xfm xbt xisz
    rcases (show o.1 = 0 ∨ o.1 = 1 ∨ o.1 = 2 ∨ o.1 = 3 ∨ o.1 = 4 by omega) with e | e | e | e | e
    · have hw := h1 (Or.inl e)
      have hb := xcb_le (xbb v (fun k => t (o.2.1 + k)) o.2.2) o.2.2
      rw [if_neg (by omega), if_pos e, if_neg (by omega)]
      unfold xbeats
      split <;> omega
    · have hw := h1 (Or.inr e)
      rw [if_neg (by omega), if_neg (by omega), if_neg (by omega), if_pos e, if_pos e]
      omega
    · have := (h3 e).2
      rw [if_neg (by omega), if_neg (by omega), if_pos e, if_neg (by omega)]
      omega
    · have := (h4 e).2
      rw [if_pos e, if_neg (by omega)]
      omega
    · rw [if_neg (by omega), if_neg (by omega), if_neg (by omega), if_neg (by omega)]
      omega
  · unfold xfm xbt
    rw [if_neg (by omega), if_neg (by omega), if_neg (by omega), if_neg (by omega)]
    omega
theorem fi_in {a ta r d : Nat} {t : Nat → Nat} {v : xTg} {o : xIt} {acc : List Nat} {x1 x5 : Int32} {Q : Option Value → xS → Prop} (ho5 : o.1 ≤ 5) (hm : xfm v t o ≤ 13) (hst : xstrong v.2.2.2 (xfm v t o) < 1000) (hlen : acc.length + xfm v t o ≤ 240) : ∀ (j f : Nat) (S : xS) (y : Value), f + j = xfm v t o → S.1[r]? = some (21, 240) → xrow S r (acc ++ (List.range f).map (xftb v t o)) → (∀ S' y, xFl (fun i _ => i = r) S S' → xrow S' r (acc ++ xft v t o) → Wp false (d + 2) 3 cX3_feetInto (some .int) false 131 [.ref a, .int x1, .ref ta, .ref r, .int (nI (acc ++ (List.range (xfm v t o)).map (xftb v t o)).length), .int x5, .int (nI o.1), .int (nI (xfm v t o)), .int (nI (xstrong v.2.2.2 (xfm v t o))), .int (nI (xfm v t o)), y] [] S' Q) → Wp false (d + 2) 3 cX3_feetInto (some .int) false 60 [.ref a, .int x1, .ref ta, .ref r, .int (nI (acc ++ (List.range f).map (xftb v t o)).length), .int x5, .int (nI o.1), .int (nI (xfm v t o)), .int (nI (xstrong v.2.2.2 (xfm v t o))), .int (nI f), y] [] S Q := by
  intro j
  induction j with
  | zero =>
    intro f S y hf hr hrow K
    have hff : f = xfm v t o := by omega
    subst hff
    refine wp_iload dX3_feetInto_60 rfl (wp_iload dX3_feetInto_62 rfl ?_)
    refine wn_icmp_ge dX3_feetInto_64 rfl (by omega) (by omega) (fun c64 => ?_) (fun c64 => absurd c64 (by omega))
    exact K S _ (xFl.rf S) hrow
  | succ j ih =>
    intro f S y hf hr hrow K
    have hl : (acc ++ (List.range f).map (xftb v t o)).length = acc.length + f := by simp
    have e1 : acc ++ (List.range (f + 1)).map (xftb v t o) = (acc ++ (List.range f).map (xftb v t o)) ++ [xftb v t o f] := by rw [xrange_s, List.append_assoc]
    have hb1 := xftb_1 v t o f
    have F1 : xFl (fun i _ => i = r) S (xSI S r (acc ++ (List.range f).map (xftb v t o)).length (nI (xftb v t o f))) := (xFl.rf S).SI rfl
    have nxt {y : Value} : Wp false (d + 2) 3 cX3_feetInto (some .int) false 60 [.ref a, .int x1, .ref ta, .ref r, .int (nI ((acc ++ (List.range f).map (xftb v t o)).length + 1)), .int x5, .int (nI o.1), .int (nI (xfm v t o)), .int (nI (xstrong v.2.2.2 (xfm v t o))), .int (nI (f + 1)), y] [] (xSI S r (acc ++ (List.range f).map (xftb v t o)).length (nI (xftb v t o f))) Q := by
      have ih2 := ih (f + 1) (xSI S r (acc ++ (List.range f).map (xftb v t o)).length (nI (xftb v t o f))) y (by omega) hr (by rw [e1]; exact hrow.add) (fun S' y g h => K S' y (F1.tt g) h)
      rw [e1, xlen1] at ih2
      exact ih2
    have t105 (x : Nat) (hx : x = xftb v t o f) {y : Value} : Wp false (d + 2) 3 cX3_feetInto (some .int) false 105 [.ref a, .int x1, .ref ta, .ref r, .int (nI (acc ++ (List.range f).map (xftb v t o)).length), .int x5, .int (nI o.1), .int (nI (xfm v t o)), .int (nI (xstrong v.2.2.2 (xfm v t o))), .int (nI f), y] [.int (nI x)] S Q := by
      subst hx
      rcases Nat.lt_or_ge 0 (xftb v t o f) with w | w
      · have e : xftb v t o f = 1 := by omega
        refine wp_istore dX3_feetInto_105 ⟨Nat.le_of_ble_eq_true rfl, Or.inr rfl⟩ rfl (wp_aload_n dX3_feetInto_107 rfl rfl (wp_iload dX3_feetInto_108 rfl (wp_iload dX3_feetInto_110 rfl ?_)))
        refine wn_if_eq dX3_feetInto_112 rfl (by omega) (fun c112 => absurd c112 (by omega)) (fun c112 => ?_)
        refine wp_iconst (v := nI 1) dX3_feetInto_115 rfl (wp_goto dX3_feetInto_116 rfl (wv_i2c dX3_feetInto_120 (xi2c (by omega)) (wn_castore dX3_feetInto_121 hr rfl (by omega) (by decide) (xnc (by omega)) (wp_iinc dX3_feetInto_122 rfl (nI_1 _) ⟨Nat.le_of_ble_eq_true rfl, Or.inr rfl⟩ rfl (wp_iinc dX3_feetInto_125 rfl (nI_1 _) ⟨Nat.le_of_ble_eq_true rfl, Or.inr rfl⟩ rfl (wp_goto dX3_feetInto_128 rfl ?_))))))
        rw [e] at nxt
        exact nxt
      · have e : xftb v t o f = 0 := by omega
        refine wp_istore dX3_feetInto_105 ⟨Nat.le_of_ble_eq_true rfl, Or.inr rfl⟩ rfl (wp_aload_n dX3_feetInto_107 rfl rfl (wp_iload dX3_feetInto_108 rfl (wp_iload dX3_feetInto_110 rfl ?_)))
        refine wn_if_eq dX3_feetInto_112 rfl (by omega) (fun c112 => ?_) (fun c112 => absurd c112 (by omega))
        refine wp_iconst (v := nI 0) dX3_feetInto_119 rfl (wv_i2c dX3_feetInto_120 (xi2c (by omega)) (wn_castore dX3_feetInto_121 hr rfl (by omega) (by decide) (xnc (by omega)) (wp_iinc dX3_feetInto_122 rfl (nI_1 _) ⟨Nat.le_of_ble_eq_true rfl, Or.inr rfl⟩ rfl (wp_iinc dX3_feetInto_125 rfl (nI_1 _) ⟨Nat.le_of_ble_eq_true rfl, Or.inr rfl⟩ rfl (wp_goto dX3_feetInto_128 rfl ?_)))))
        rw [e] at nxt
        exact nxt
    have et : ((acc ++ (List.range f).map (xftb v t o)).length < 240) := by omega
    rcases Decidable.em (o.1 = 0) with e0 | e0
    · rcases Decidable.em (f = xstrong v.2.2.2 (xfm v t o)) with es | es
      · have ex : 1 = xftb v t o f := by unfold xftb; rw [if_pos e0, if_pos es]
        refine wp_iload dX3_feetInto_60 rfl (wp_iload dX3_feetInto_62 rfl ?_)
        refine wn_icmp_ge dX3_feetInto_64 rfl (by omega) (by omega) (fun c64 => absurd c64 (by omega)) (fun c64 => ?_)
        refine wp_iload dX3_feetInto_67 rfl (wp_aload_n dX3_feetInto_69 rfl rfl (wv_alen dX3_feetInto_70 hr ⟨by decide, by decide⟩ rfl ?_))
        refine wn_icmp_ge dX3_feetInto_71 rfl (by omega) (by omega) (fun c71 => absurd c71 (by omega)) (fun c71 => ?_)
        refine wp_iload dX3_feetInto_74 rfl ?_
        refine wn_if_ne dX3_feetInto_76 rfl (by omega) (fun c76 => absurd c76 (by omega)) (fun c76 => ?_)
        refine wp_iload dX3_feetInto_79 rfl (wp_iload dX3_feetInto_81 rfl ?_)
        refine wn_icmp_ne dX3_feetInto_83 rfl (by omega) (by omega) (fun c83 => absurd c83 (by omega)) (fun c83 => ?_)
        exact wp_iconst (v := nI 1) dX3_feetInto_86 rfl (wp_goto dX3_feetInto_87 rfl (t105 1 ex))
      · have ex : 0 = xftb v t o f := by unfold xftb; rw [if_pos e0, if_neg es]
        refine wp_iload dX3_feetInto_60 rfl (wp_iload dX3_feetInto_62 rfl ?_)
        refine wn_icmp_ge dX3_feetInto_64 rfl (by omega) (by omega) (fun c64 => absurd c64 (by omega)) (fun c64 => ?_)
        refine wp_iload dX3_feetInto_67 rfl (wp_aload_n dX3_feetInto_69 rfl rfl (wv_alen dX3_feetInto_70 hr ⟨by decide, by decide⟩ rfl ?_))
        refine wn_icmp_ge dX3_feetInto_71 rfl (by omega) (by omega) (fun c71 => absurd c71 (by omega)) (fun c71 => ?_)
        refine wp_iload dX3_feetInto_74 rfl ?_
        refine wn_if_ne dX3_feetInto_76 rfl (by omega) (fun c76 => absurd c76 (by omega)) (fun c76 => ?_)
        refine wp_iload dX3_feetInto_79 rfl (wp_iload dX3_feetInto_81 rfl ?_)
        refine wn_icmp_ne dX3_feetInto_83 rfl (by omega) (by omega) (fun c83 => ?_) (fun c83 => absurd c83 (by omega))
        exact wp_iconst (v := nI 0) dX3_feetInto_90 rfl (wp_goto dX3_feetInto_91 rfl (t105 0 ex))
    rcases Decidable.em (o.1 = 2) with e2 | e2
    · have ex : 0 = xftb v t o f := by unfold xftb; rw [if_neg e0, if_pos e2]
      refine wp_iload dX3_feetInto_60 rfl (wp_iload dX3_feetInto_62 rfl ?_)
      refine wn_icmp_ge dX3_feetInto_64 rfl (by omega) (by omega) (fun c64 => absurd c64 (by omega)) (fun c64 => ?_)
      refine wp_iload dX3_feetInto_67 rfl (wp_aload_n dX3_feetInto_69 rfl rfl (wv_alen dX3_feetInto_70 hr ⟨by decide, by decide⟩ rfl ?_))
      refine wn_icmp_ge dX3_feetInto_71 rfl (by omega) (by omega) (fun c71 => absurd c71 (by omega)) (fun c71 => ?_)
      refine wp_iload dX3_feetInto_74 rfl ?_
      refine wn_if_ne dX3_feetInto_76 rfl (by omega) (fun c76 => ?_) (fun c76 => absurd c76 (by omega))
      refine wp_iload dX3_feetInto_94 rfl (wp_iconst (v := nI 2) dX3_feetInto_96 rfl ?_)
      refine wn_icmp_eq dX3_feetInto_97 rfl (by omega) (by omega) (fun c97 => ?_) (fun c97 => absurd c97 (by omega))
      exact wp_iconst (v := nI 0) dX3_feetInto_104 rfl (t105 0 ex)
    · have ex : 1 = xftb v t o f := by unfold xftb; rw [if_neg e0, if_neg e2]
      refine wp_iload dX3_feetInto_60 rfl (wp_iload dX3_feetInto_62 rfl ?_)
      refine wn_icmp_ge dX3_feetInto_64 rfl (by omega) (by omega) (fun c64 => absurd c64 (by omega)) (fun c64 => ?_)
      refine wp_iload dX3_feetInto_67 rfl (wp_aload_n dX3_feetInto_69 rfl rfl (wv_alen dX3_feetInto_70 hr ⟨by decide, by decide⟩ rfl ?_))
      refine wn_icmp_ge dX3_feetInto_71 rfl (by omega) (by omega) (fun c71 => absurd c71 (by omega)) (fun c71 => ?_)
      refine wp_iload dX3_feetInto_74 rfl ?_
      refine wn_if_ne dX3_feetInto_76 rfl (by omega) (fun c76 => ?_) (fun c76 => absurd c76 (by omega))
      refine wp_iload dX3_feetInto_94 rfl (wp_iconst (v := nI 2) dX3_feetInto_96 rfl ?_)
      refine wn_icmp_eq dX3_feetInto_97 rfl (by omega) (by omega) (fun c97 => absurd c97 (by omega)) (fun c97 => ?_)
      exact wp_iconst (v := nI 1) dX3_feetInto_100 rfl (wp_goto dX3_feetInto_101 rfl (t105 1 ex))
theorem xtake_s {α β : Type} (g : α → List β) (l : List α) (d : α) (k : Nat) (h : k < l.length) : ((l.take (k + 1)).flatMap g) = ((l.take k).flatMap g) ++ g (l.getD k d) := by
  rw [List.take_succ, List.getElem?_eq_getElem h, List.flatMap_append, List.getD_eq_getElem?_getD, List.getElem?_eq_getElem h]
  simp
theorem fi_out {a n l ta tb tc r d : Nat} {t : Nat → Nat} {L : List xLn} {v : xTg} (ho : xRo a) (htg : xTgC ta tb tc) (hr0 : r = 72 ∨ r = 134 ∨ r = 135) (hl : l < L.length) : ∀ (j k : Nat) (S : xS) (y6 y7 y8 y9 y10 : Value), k + j = (xcI (L.getD l (0, 0, []))).length → XC S → xRV a S n t L → xRB a S v t L → xTgV ta tb tc S v → S.1[r]? = some (21, 240) → xrow S r ((((xcI (L.getD l (0, 0, []))).take k).flatMap (xft v t))) → (k < (xcI (L.getD l (0, 0, []))).length → ((((xcI (L.getD l (0, 0, []))).take k).flatMap (xft v t))).length ≤ ((xcI (L.getD l (0, 0, []))).getD k (0, 0, 0)).2.1) → ((((xcI (L.getD l (0, 0, []))).take k).flatMap (xft v t))).length ≤ 240 → Wp false (d + 2) 3 cX3_feetInto (some .int) false 10 [.ref a, .int (nI l), .ref ta, .ref r, .int (nI ((((xcI (L.getD l (0, 0, []))).take k).flatMap (xft v t))).length), .int (nI (xof xcI L l + k)), y6, y7, y8, y9, y10] [] S (fun q S' => q = some (.int (nI (xfeet v t (L.getD l (0, 0, []))).length)) ∧ xFl (fun i _ => i = r) S S' ∧ xrow S' r (xfeet v t (L.getD l (0, 0, [])))) := by
  intro j
  induction j with
  | zero =>
    intro k S y6 y7 y8 y9 y10 hk hX hV hB hT hr hrow hb h240
    have hkk : k = (xcI (L.getD l (0, 0, []))).length := by omega
    subst hkk
    rw [List.take_length] at hrow ⊢
    have hou := ho
    unfold xRo at hou
    obtain ⟨ha, h1, h2, h3, h4, h5, q0, q2, q3, q4, q6⟩ := ho.sh hX
    obtain ⟨v1, v2, v3, v4, v5, v6, v7, v8, v9, v10⟩ := id hV
    have h120 := xRok_120 v7 v8
    have e := xof_succ xcI L l hl
    have hle := xof_le xcI L (l + 1)
    have gf := c_firstItem (d + 1) ho hX hV (l := l + 1) (by omega)
    refine wp_iload dX3_feetInto_10 rfl (wp_aload_n dX3_feetInto_12 rfl rfl (wp_iload_n dX3_feetInto_13 rfl (wp_iconst (v := nI 1) dX3_feetInto_14 rfl (wv_iadd dX3_feetInto_15 (nI_add _ _) (wp_iv2 dX3_feetInto_16 k3_103 q_X3_firstItem (by decide) ha (by decide) (Nat.le_of_ble_eq_true rfl) gf ?_)))))
    refine wn_icmp_ge dX3_feetInto_19 rfl (by omega) (by omega) (fun c19 => ?_) (fun c19 => absurd c19 (by omega))
    exact wp_iload dX3_feetInto_137 rfl (wp_ireturn dX3_feetInto_139 rfl rfl ⟨rfl, xFl.rf S, hrow⟩)
  | succ j ih =>
    intro k S y6 y7 y8 y9 y10 hk hX hV hB hT hr hrow hb h240
    have htu := htg
    unfold xTgC at htu
    have hou := ho
    unfold xRo at hou
    obtain ⟨ha, h1, h2, h3, h4, h5, q0, q2, q3, q4, q6⟩ := ho.sh hX
    obtain ⟨v1, v2, v3, v4, v5, v6, v7, v8, v9, v10⟩ := id hV
    have h120 := xRok_120 v7 v8
    obtain ⟨hta, _, _, _, _⟩ := htg.sh hX
    have hkl : k < (xcI (L.getD l (0, 0, []))).length := by omega
    have e := xof_succ xcI L l hl
    have hle := xof_le xcI L (l + 1)
    have gf := c_firstItem (d + 1) ho hX hV (l := l + 1) (by omega)
    obtain ⟨o1, o2⟩ := xof_lt v7 hl hkl
    have gk := c_kindOf (d + 1) ho hX hV o1
    have gc := c_countOf (d + 1) ho hX hV hB true o1
    have hmem := xmem_getD (d := (0, 0, 0)) o1
    have hm := xRok_mem v7 hmem
    obtain ⟨ch1, ch2⟩ := xRok_ch v7 o1
    rw [o2] at gk gc hm ch1 ch2
    have hoi : xiok t ((xcI (L.getD l (0, 0, []))).getD k (0, 0, 0)) ∨ ((xcI (L.getD l (0, 0, []))).getD k (0, 0, 0)).1 = 5 := hm.elim Or.inl (fun w => Or.inr w.1)
    have h5 : ((xcI (L.getD l (0, 0, []))).getD k (0, 0, 0)).1 ≤ 5 := by
      rcases hoi with w | w
      · have := w.2.2.2.2.2; omega
      · omega
    obtain ⟨hs1, hs2⟩ := xfm_sz (v := v) hoi
    have hb' := hb hkl
    have ecb : xct v t true ((xcI (L.getD l (0, 0, []))).getD k (0, 0, 0)) = xbt v t ((xcI (L.getD l (0, 0, []))).getD k (0, 0, 0)) := by unfold xct; rw [if_pos (Or.inl rfl)]
    rw [ecb] at gc
    have gs := c_strongOf (k := xfm v t ((xcI (L.getD l (0, 0, []))).getD k (0, 0, 0))) (d + 1) htg hX hT (by omega)
    have hsl : xstrong v.2.2.2 (xfm v t ((xcI (L.getD l (0, 0, []))).getD k (0, 0, 0))) < 1000 := by have := xstrong_le v.2.2.2 (xfm v t ((xcI (L.getD l (0, 0, []))).getD k (0, 0, 0))); omega
    have hts := xtake_s (xft v t) (xcI (L.getD l (0, 0, []))) (0, 0, 0) k hkl
    have hlen : ((((xcI (L.getD l (0, 0, []))).take k).flatMap (xft v t))).length + xfm v t ((xcI (L.getD l (0, 0, []))).getD k (0, 0, 0)) ≤ 240 := by omega
    have hlen2 : ((((xcI (L.getD l (0, 0, []))).take (k + 1)).flatMap (xft v t))).length = ((((xcI (L.getD l (0, 0, []))).take k).flatMap (xft v t))).length + xfm v t ((xcI (L.getD l (0, 0, []))).getD k (0, 0, 0)) := by rw [hts, List.length_append, xft_len]
    have tail {y10 : Value} : Wp false (d + 2) 3 cX3_feetInto (some .int) false 60 [.ref a, .int (nI l), .ref ta, .ref r, .int (nI ((((xcI (L.getD l (0, 0, []))).take k).flatMap (xft v t))).length), .int (nI (xof xcI L l + k)), .int (nI ((xcI (L.getD l (0, 0, []))).getD k (0, 0, 0)).1), .int (nI (xfm v t ((xcI (L.getD l (0, 0, []))).getD k (0, 0, 0)))), .int (nI (xstrong v.2.2.2 (xfm v t ((xcI (L.getD l (0, 0, []))).getD k (0, 0, 0))))), .int (nI 0), y10] [] S (fun q S' => q = some (.int (nI (xfeet v t (L.getD l (0, 0, []))).length)) ∧ xFl (fun i _ => i = r) S S' ∧ xrow S' r (xfeet v t (L.getD l (0, 0, [])))) := by
      refine wp_locals (ls' := [.ref a, .int (nI l), .ref ta, .ref r, .int (nI (((((xcI (L.getD l (0, 0, []))).take k).flatMap (xft v t))) ++ (List.range 0).map (xftb v t ((xcI (L.getD l (0, 0, []))).getD k (0, 0, 0)))).length), .int (nI (xof xcI L l + k)), .int (nI ((xcI (L.getD l (0, 0, []))).getD k (0, 0, 0)).1), .int (nI (xfm v t ((xcI (L.getD l (0, 0, []))).getD k (0, 0, 0)))), .int (nI (xstrong v.2.2.2 (xfm v t ((xcI (L.getD l (0, 0, []))).getD k (0, 0, 0))))), .int (nI 0), y10]) (by simp) ?_
      refine fi_in h5 hs2 hsl hlen (xfm v t ((xcI (L.getD l (0, 0, []))).getD k (0, 0, 0))) 0 S _ (by omega) hr (by simpa using hrow) (fun S2 y f2 hrow2 => ?_)
      have X2 := f2.XC hX
      rw [← hts] at hrow2
      have e4 : (((((xcI (L.getD l (0, 0, []))).take k).flatMap (xft v t))) ++ (List.range (xfm v t ((xcI (L.getD l (0, 0, []))).getD k (0, 0, 0)))).map (xftb v t ((xcI (L.getD l (0, 0, []))).getD k (0, 0, 0)))).length = ((((xcI (L.getD l (0, 0, []))).take (k + 1)).flatMap (xft v t))).length := by rw [hts]; rfl
      refine wp_iinc dX3_feetInto_131 rfl (nI_1 _) ⟨Nat.le_of_ble_eq_true rfl, Or.inr rfl⟩ rfl (wp_goto dX3_feetInto_134 rfl ?_)
      rw [e4]
      refine (ih (k + 1) S2 _ _ _ _ _ (by omega) X2 (hV.fm (f2.m (R := fun _ _ => False)) (fun i k h => by omega)) (fun i hi => f2.i (hB i hi) (by omega)) (hT.fr _ _ _ _ f2 (fun i k h => by omega)) (f2.sh hr) hrow2 (fun hk1 => ?_) (by omega)).mono ?_
      · obtain ⟨p1, p2⟩ := xof_lt v7 hl hk1
        rw [if_pos (show xof xcI L l + k + 1 < (L.flatMap xcI).length from p1)] at ch1
        have p2' : (L.flatMap xcI).getD (xof xcI L l + k + 1) (0, 0, 0) = (xcI (L.getD l (0, 0, []))).getD (k + 1) (0, 0, 0) := p2
        rw [p2'] at ch1
        omega
      · rintro q S' ⟨z1, z2, z3⟩
        exact ⟨z1, f2.tt z2, z3⟩
    rcases Decidable.em (((xcI (L.getD l (0, 0, []))).getD k (0, 0, 0)).1 = 3) with e3 | e3
    · have em : xfm v t ((xcI (L.getD l (0, 0, []))).getD k (0, 0, 0)) = 1 := by unfold xfm; rw [if_pos e3]
      rw [em] at tail gs
      refine wp_iload dX3_feetInto_10 rfl (wp_aload_n dX3_feetInto_12 rfl rfl (wp_iload_n dX3_feetInto_13 rfl (wp_iconst (v := nI 1) dX3_feetInto_14 rfl (wv_iadd dX3_feetInto_15 (nI_add _ _) (wp_iv2 dX3_feetInto_16 k3_103 q_X3_firstItem (by decide) ha (by decide) (Nat.le_of_ble_eq_true rfl) gf ?_)))))
      refine wn_icmp_ge dX3_feetInto_19 rfl (by omega) (by omega) (fun c19 => absurd c19 (by omega)) (fun c19 => ?_)
      refine wp_aload_n dX3_feetInto_22 rfl rfl (wp_iload dX3_feetInto_23 rfl (wp_iv2 dX3_feetInto_25 k3_117 q_X3_kindOf (by decide) ha (by decide) (Nat.le_of_ble_eq_true rfl) gk (wp_istore dX3_feetInto_28 ⟨Nat.le_of_ble_eq_true rfl, Or.inr rfl⟩ rfl (wp_iload dX3_feetInto_30 rfl (wp_iconst (v := nI 3) dX3_feetInto_32 rfl ?_)))))
      refine wn_icmp_ne dX3_feetInto_33 rfl (by omega) (by omega) (fun c33 => absurd c33 (by omega)) (fun c33 => ?_)
      exact wp_iconst (v := nI 1) dX3_feetInto_36 rfl (wp_goto dX3_feetInto_37 rfl (wp_istore dX3_feetInto_47 ⟨Nat.le_of_ble_eq_true rfl, Or.inr rfl⟩ rfl (wp_aload_n dX3_feetInto_49 rfl rfl (wp_iload dX3_feetInto_50 rfl (wp_iv2 dX3_feetInto_52 k3_137 q_X8_strongOf (by decide) hta (by decide) (Nat.le_of_ble_eq_true rfl) gs (wp_istore dX3_feetInto_55 ⟨Nat.le_of_ble_eq_true rfl, Or.inr rfl⟩ rfl (wp_iconst (v := nI 0) dX3_feetInto_57 rfl (wp_istore dX3_feetInto_58 ⟨Nat.le_of_ble_eq_true rfl, Or.inr rfl⟩ rfl tail))))))))
    · have em : xfm v t ((xcI (L.getD l (0, 0, []))).getD k (0, 0, 0)) = xbt v t ((xcI (L.getD l (0, 0, []))).getD k (0, 0, 0)) := by unfold xfm; rw [if_neg e3]
      rw [em] at tail gs
      refine wp_iload dX3_feetInto_10 rfl (wp_aload_n dX3_feetInto_12 rfl rfl (wp_iload_n dX3_feetInto_13 rfl (wp_iconst (v := nI 1) dX3_feetInto_14 rfl (wv_iadd dX3_feetInto_15 (nI_add _ _) (wp_iv2 dX3_feetInto_16 k3_103 q_X3_firstItem (by decide) ha (by decide) (Nat.le_of_ble_eq_true rfl) gf ?_)))))
      refine wn_icmp_ge dX3_feetInto_19 rfl (by omega) (by omega) (fun c19 => absurd c19 (by omega)) (fun c19 => ?_)
      refine wp_aload_n dX3_feetInto_22 rfl rfl (wp_iload dX3_feetInto_23 rfl (wp_iv2 dX3_feetInto_25 k3_117 q_X3_kindOf (by decide) ha (by decide) (Nat.le_of_ble_eq_true rfl) gk (wp_istore dX3_feetInto_28 ⟨Nat.le_of_ble_eq_true rfl, Or.inr rfl⟩ rfl (wp_iload dX3_feetInto_30 rfl (wp_iconst (v := nI 3) dX3_feetInto_32 rfl ?_)))))
      refine wn_icmp_ne dX3_feetInto_33 rfl (by omega) (by omega) (fun c33 => ?_) (fun c33 => absurd c33 (by omega))
      exact wp_aload_n dX3_feetInto_40 rfl rfl (wp_iload dX3_feetInto_41 rfl (wp_iconst (v := nI 1) dX3_feetInto_43 rfl (wp_iv3 dX3_feetInto_44 k3_130 q_X3_countOf (by decide) ha (by decide) (Nat.le_of_ble_eq_true rfl) gc (wp_istore dX3_feetInto_47 ⟨Nat.le_of_ble_eq_true rfl, Or.inr rfl⟩ rfl (wp_aload_n dX3_feetInto_49 rfl rfl (wp_iload dX3_feetInto_50 rfl (wp_iv2 dX3_feetInto_52 k3_137 q_X8_strongOf (by decide) hta (by decide) (Nat.le_of_ble_eq_true rfl) gs (wp_istore dX3_feetInto_55 ⟨Nat.le_of_ble_eq_true rfl, Or.inr rfl⟩ rfl (wp_iconst (v := nI 0) dX3_feetInto_57 rfl (wp_istore dX3_feetInto_58 ⟨Nat.le_of_ble_eq_true rfl, Or.inr rfl⟩ rfl tail))))))))))
theorem c_feetInto {a n l ta tb tc r : Nat} {t : Nat → Nat} {L : List xLn} {v : xTg} (d : Nat) (ho : xRo a) (htg : xTgC ta tb tc) (hr0 : r = 72 ∨ r = 134 ∨ r = 135) (hl : l < L.length) {S : xS} (hX : XC S) (hV : xRV a S n t L) (hB : xRB a S v t L) (hT : xTgV ta tb tc S v) : ∃ S', xcall false (d + 2) j_X3_feetInto [.ref a, .int (nI l), .ref ta, .ref r] S (some (.int (nI (xfeet v t (L.getD l (0, 0, []))).length))) S' ∧ xFl (fun i _ => i = r) S S' ∧ xrow S' r (xfeet v t (L.getD l (0, 0, []))) := by
  obtain ⟨ha, h1, h2, h3, h4, h5, q0, q2, q3, q4, q6⟩ := ho.sh hX
  have hr : S.1[r]? = some (21, 240) := by
    rcases hr0 with rfl | rfl | rfl
    · exact xsh hX sh_72
    · exact xsh hX sh_134
    · exact xsh hX sh_135
  have gf := c_firstItem (d + 1) ho hX hV (l := l) (by omega)
  have key : ∃ q S', xcall false (d + 2) j_X3_feetInto [.ref a, .int (nI l), .ref ta, .ref r] S q S' ∧ (q = some (.int (nI (xfeet v t (L.getD l (0, 0, []))).length)) ∧ xFl (fun i _ => i = r) S S' ∧ xrow S' r (xfeet v t (L.getD l (0, 0, [])))) := by
    refine xcall_some (ls := [.ref a, .int (nI l), .ref ta, .ref r, .float 0, .float 0, .float 0, .float 0, .float 0, .float 0, .float 0]) q_X3_feetInto (by decide) rfl (Nat.le_of_ble_eq_true rfl) rfl ?_
    exact wp_iconst (v := nI 0) dX3_feetInto_0 rfl (wp_istore dX3_feetInto_1 ⟨Nat.le_of_ble_eq_true rfl, Or.inr rfl⟩ rfl (wp_aload_n dX3_feetInto_3 rfl rfl (wp_iload_n dX3_feetInto_4 rfl (wp_iv2 dX3_feetInto_5 k3_103 q_X3_firstItem (by decide) ha (by decide) (Nat.le_of_ble_eq_true rfl) gf (wp_istore dX3_feetInto_8 ⟨Nat.le_of_ble_eq_true rfl, Or.inr rfl⟩ rfl (fi_out ho htg hr0 hl (xcI (L.getD l (0, 0, []))).length 0 S _ _ _ _ _ (by omega) hX hV hB hT hr (fun k hk => absurd hk (Nat.not_lt_zero k)) (fun _ => Nat.zero_le _) (Nat.zero_le _)))))))
  obtain ⟨q, S', g, rfl, z1, z2⟩ := key
  exact ⟨S', g, z1, z2⟩
