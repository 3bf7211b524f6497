/-! FEET of a line, of the reference; feet, the calls -/
theorem xfeet_m (v : xTg) (t : Nat → Nat) (ln : xLn) : xfeet v t ln = (xmit ln).flatMap (xft v t) := by
  unfold xfeet xcI xmit
  rw [List.flatMap_append]
  split
  · have e : xft v t (5, ln.2.1, 2) = [] := by unfold xft xfm xbt; simp
    simp [e]
  · simp
theorem xfeet_b {v : xTg} {t : Nat → Nat} {n l : Nat} {L : List xLn} (hok : xRok t n L) (hl : l < L.length) : ∀ k, k ≤ (xcI (L.getD l (0, 0, []))).length → ((((xcI (L.getD l (0, 0, []))).take k).flatMap (xft v t))).length ≤ n ∧ (k < (xcI (L.getD l (0, 0, []))).length → ((((xcI (L.getD l (0, 0, []))).take k).flatMap (xft v t))).length ≤ ((xcI (L.getD l (0, 0, []))).getD k (0, 0, 0)).2.1)
  | 0, _ => ⟨Nat.zero_le _, fun _ => Nat.zero_le _⟩
  | k + 1, h => by
    have ih := (xfeet_b (v := v) hok hl k (by omega)).2 (by omega)
    have hkl : k < (xcI (L.getD l (0, 0, []))).length := by omega
    obtain ⟨o1, o2⟩ := xof_lt hok hl hkl
    have hm := xRok_mem hok (xmem_getD (d := (0, 0, 0)) o1)
    obtain ⟨ch1, ch2⟩ := xRok_ch hok o1
    rw [o2] at hm ch1 ch2
    have hs := (xfm_sz (v := v) (hm.elim Or.inl (fun w => Or.inr w.1))).1
    have e : ((((xcI (L.getD l (0, 0, []))).take (k + 1)).flatMap (xft v t))).length = ((((xcI (L.getD l (0, 0, []))).take k).flatMap (xft v t))).length + xfm v t ((xcI (L.getD l (0, 0, []))).getD k (0, 0, 0)) := by rw [xtake_s (xft v t) (xcI (L.getD l (0, 0, []))) (0, 0, 0) k hkl, List.length_append, xft_len]
    refine ⟨by omega, fun hk1 => ?_⟩
    obtain ⟨p1, p2⟩ := xof_lt hok hl hk1
    rw [if_pos (show xof xcI L l + k + 1 < (L.flatMap xcI).length from p1)] at ch1
    have p2' : (L.flatMap xcI).getD (xof xcI L l + k + 1) (0, 0, 0) = ((xcI (L.getD l (0, 0, []))).getD (k + 1) (0, 0, 0)) := p2
    rw [p2'] at ch1
    omega
theorem xfeet_len {v : xTg} {t : Nat → Nat} {n l : Nat} {L : List xLn} (hok : xRok t n L) (hl : l < L.length) : (xfeet v t (L.getD l (0, 0, []))).length ≤ n := by
  have := (xfeet_b (v := v) hok hl _ (Nat.le_refl _)).1
  rw [List.take_length] at this
  exact this
theorem xpre_len {v : xTg} {t : Nat → Nat} {n l : Nat} {L : List xLn} (hok : xRok t n L) (hl : l < L.length) (k : Nat) : ((((xmit (L.getD l (0, 0, []))).take k).flatMap (xft v t))).length ≤ n := by
  have h := xfeet_len (v := v) hok hl
  rw [xfeet_m] at h
  have e : (xmit (L.getD l (0, 0, []))).flatMap (xft v t) = ((((xmit (L.getD l (0, 0, []))).take k).flatMap (xft v t))) ++ ((xmit (L.getD l (0, 0, []))).drop k).flatMap (xft v t) := by rw [← List.flatMap_append, List.take_append_drop]
  rw [e, List.length_append] at h
  omega
theorem mf_in {s q r d : Nat} {t : Nat → Nat} {v : xTg} {o : xIt} {acc : List Nat} {x2 x5 : Int32} {Q : Option Value → xS → Prop} (hr0 : r = 205 ∨ r = 206 ∨ r = 207) (hq : q < 854) (ho4 : o.1 ≤ 4) (hm : xfm v t o ≤ 13) (hst : xstrong v.2.2.2 (xfm v t o) < 1000) (hlen : acc.length + xfm v t o ≤ 240) : ∀ (j f : Nat) (S : xS), f + j = xfm v t o → XC S → S.1[r]? = some (22, 480) → S.2.1 198 q = nI o.1 → xrow S r (acc ++ (List.range f).map (xftb v t o)) → (∀ S', xFl (fun i _ => i = r) S S' → xrow S' r (acc ++ xft v t o) → Wp false (d + 3) 11 cX12_feetOf (some .int) false 147 [.ref 187, .int (nI s), .int x2, .ref r, .int (nI ((acc ++ (List.range (xfm v t o)).map (xftb v t o)).length)), .int x5, .int (nI q), .int (nI (xfm v t o)), .int (if o.1 = 0 then nI (xstrong v.2.2.2 (xfm v t o)) else -1), .int (nI (xfm v t o))] [] S' Q) → Wp false (d + 3) 11 cX12_feetOf (some .int) false 92 [.ref 187, .int (nI s), .int x2, .ref r, .int (nI ((acc ++ (List.range f).map (xftb v t o)).length)), .int x5, .int (nI q), .int (nI (xfm v t o)), .int (if o.1 = 0 then nI (xstrong v.2.2.2 (xfm v t o)) else -1), .int (nI f)] [] S Q := by
  intro j
  induction j with
  | zero =>
    intro f S hf hX hr hk hrow K
    have hff : f = xfm v t o := by omega
    subst hff
    refine wp_iload dX12_feetOf_92 rfl (wp_iload dX12_feetOf_94 rfl ?_)
    refine wn_icmp_ge dX12_feetOf_96 rfl (by omega) (by omega) (fun c96 => ?_) (fun c96 => absurd c96 (by omega))
    exact K S (xFl.rf S) hrow
  | succ j ih =>
    intro f S hf hX hr hk hrow K
    have hl : (acc ++ (List.range f).map (xftb v t o)).length = acc.length + f := by simp
    have e1 : acc ++ (List.range (f + 1)).map (xftb v t o) = (acc ++ (List.range f).map (xftb v t o)) ++ [xftb v t o f] := by rw [xrange_s, List.append_assoc]
    have hb1 := xftb_1 v t o f
    have F1 : xFl (fun i _ => i = r) S (xSI S r (acc ++ (List.range f).map (xftb v t o)).length (nI (xftb v t o f))) := (xFl.rf S).SI rfl
    have nxt : Wp false (d + 3) 11 cX12_feetOf (some .int) false 92 [.ref 187, .int (nI s), .int x2, .ref r, .int (nI ((acc ++ (List.range f).map (xftb v t o)).length + 1)), .int x5, .int (nI q), .int (nI (xfm v t o)), .int (if o.1 = 0 then nI (xstrong v.2.2.2 (xfm v t o)) else -1), .int (nI (f + 1))] [] (xSI S r (acc ++ (List.range f).map (xftb v t o)).length (nI (xftb v t o f))) Q := by
      have ih2 := ih (f + 1) (xSI S r (acc ++ (List.range f).map (xftb v t o)).length (nI (xftb v t o f))) (by omega) hX hr (F1.i hk (by omega)) (by rw [e1]; exact hrow.add) (fun S' g h => K S' (F1.tt g) h)
      rw [e1, xlen1] at ih2
      exact ih2
    have et : ((acc ++ (List.range f).map (xftb v t o)).length < 240) := by omega
    have t136 (x : Nat) (hx : x = xftb v t o f) : Wp false (d + 3) 11 cX12_feetOf (some .int) false 136 [.ref 187, .int (nI s), .int x2, .ref r, .int (nI ((acc ++ (List.range f).map (xftb v t o)).length)), .int x5, .int (nI q), .int (nI (xfm v t o)), .int (if o.1 = 0 then nI (xstrong v.2.2.2 (xfm v t o)) else -1), .int (nI f)] [.int (nI x), .int (nI (acc ++ (List.range f).map (xftb v t o)).length), .ref r] S Q := by
      subst hx
      have eb : (nI (xftb v t o f)).toInt8.toInt32 = nI (xftb v t o f) := xby_lo _ (by omega)
      exact wv_i2b dX12_feetOf_136 eb (wn_bastore dX12_feetOf_137 hr rfl (by omega) (by decide) (xnb_lo (by omega)) (wp_iinc dX12_feetOf_138 rfl (nI_1 _) ⟨Nat.le_of_ble_eq_true rfl, Or.inr rfl⟩ rfl (wp_iinc dX12_feetOf_141 rfl (nI_1 _) ⟨Nat.le_of_ble_eq_true rfl, Or.inr rfl⟩ rfl (wp_goto dX12_feetOf_144 rfl nxt))))
    rcases Decidable.em (o.1 = 0) with e0 | e0
    · have e8 : (if o.1 = 0 then nI (xstrong v.2.2.2 (xfm v t o)) else -1) = nI (xstrong v.2.2.2 (xfm v t o)) := if_pos e0
      rcases Decidable.em (f = xstrong v.2.2.2 (xfm v t o)) with es | es
      · have ex : 1 = xftb v t o f := by unfold xftb; rw [if_pos e0, if_pos es]
        rw [e8] at t136 ⊢
        refine wp_iload dX12_feetOf_92 rfl (wp_iload dX12_feetOf_94 rfl ?_)
        refine wn_icmp_ge dX12_feetOf_96 rfl (by omega) (by omega) (fun c96 => absurd c96 (by omega)) (fun c96 => ?_)
        refine wp_aload_n dX12_feetOf_99 rfl rfl (wp_iload dX12_feetOf_100 rfl (wp_aload_n dX12_feetOf_102 rfl rfl (g11_207 dX12_feetOf_103 (xsh hX sh_187) (xrr hX r187_32) (wp_iload dX12_feetOf_106 rfl (wn_iaload dX12_feetOf_108 (xsh hX sh_198) rfl (by omega) (by decide) hk (wp_iconst (v := nI 1) dX12_feetOf_109 rfl ?_))))))
        refine wn_icmp_eq dX12_feetOf_110 rfl (by omega) (by omega) (fun c110 => absurd c110 (by omega)) (fun c110 => ?_)
        refine wp_aload_n dX12_feetOf_113 rfl rfl (g11_207 dX12_feetOf_114 (xsh hX sh_187) (xrr hX r187_32) (wp_iload dX12_feetOf_117 rfl (wn_iaload dX12_feetOf_119 (xsh hX sh_198) rfl (by omega) (by decide) hk (wp_iconst (v := nI 3) dX12_feetOf_120 rfl ?_))))
        refine wn_icmp_eq dX12_feetOf_121 rfl (by omega) (by omega) (fun c121 => absurd c121 (by omega)) (fun c121 => ?_)
        refine wp_iload dX12_feetOf_124 rfl (wp_iload dX12_feetOf_126 rfl ?_)
        refine wn_icmp_ne dX12_feetOf_128 rfl (by omega) (by omega) (fun c128 => absurd c128 (by omega)) (fun c128 => ?_)
        exact wp_iconst (v := nI 1) dX12_feetOf_131 rfl (wp_goto dX12_feetOf_132 rfl (t136 1 ex))
      · have ex : 0 = xftb v t o f := by unfold xftb; rw [if_pos e0, if_neg es]
        rw [e8] at t136 ⊢
        refine wp_iload dX12_feetOf_92 rfl (wp_iload dX12_feetOf_94 rfl ?_)
        refine wn_icmp_ge dX12_feetOf_96 rfl (by omega) (by omega) (fun c96 => absurd c96 (by omega)) (fun c96 => ?_)
        refine wp_aload_n dX12_feetOf_99 rfl rfl (wp_iload dX12_feetOf_100 rfl (wp_aload_n dX12_feetOf_102 rfl rfl (g11_207 dX12_feetOf_103 (xsh hX sh_187) (xrr hX r187_32) (wp_iload dX12_feetOf_106 rfl (wn_iaload dX12_feetOf_108 (xsh hX sh_198) rfl (by omega) (by decide) hk (wp_iconst (v := nI 1) dX12_feetOf_109 rfl ?_))))))
        refine wn_icmp_eq dX12_feetOf_110 rfl (by omega) (by omega) (fun c110 => absurd c110 (by omega)) (fun c110 => ?_)
        refine wp_aload_n dX12_feetOf_113 rfl rfl (g11_207 dX12_feetOf_114 (xsh hX sh_187) (xrr hX r187_32) (wp_iload dX12_feetOf_117 rfl (wn_iaload dX12_feetOf_119 (xsh hX sh_198) rfl (by omega) (by decide) hk (wp_iconst (v := nI 3) dX12_feetOf_120 rfl ?_))))
        refine wn_icmp_eq dX12_feetOf_121 rfl (by omega) (by omega) (fun c121 => absurd c121 (by omega)) (fun c121 => ?_)
        refine wp_iload dX12_feetOf_124 rfl (wp_iload dX12_feetOf_126 rfl ?_)
        refine wn_icmp_ne dX12_feetOf_128 rfl (by omega) (by omega) (fun c128 => ?_) (fun c128 => absurd c128 (by omega))
        exact wp_iconst (v := nI 0) dX12_feetOf_135 rfl (t136 0 ex)
    have e8 : (if o.1 = 0 then nI (xstrong v.2.2.2 (xfm v t o)) else -1) = -1 := if_neg e0
    rw [e8] at t136 ⊢
    rcases Decidable.em (o.1 = 1) with e1' | e1'
    · have ex : 1 = xftb v t o f := by unfold xftb; rw [if_neg e0, if_neg (by omega)]
      refine wp_iload dX12_feetOf_92 rfl (wp_iload dX12_feetOf_94 rfl ?_)
      refine wn_icmp_ge dX12_feetOf_96 rfl (by omega) (by omega) (fun c96 => absurd c96 (by omega)) (fun c96 => ?_)
      refine wp_aload_n dX12_feetOf_99 rfl rfl (wp_iload dX12_feetOf_100 rfl (wp_aload_n dX12_feetOf_102 rfl rfl (g11_207 dX12_feetOf_103 (xsh hX sh_187) (xrr hX r187_32) (wp_iload dX12_feetOf_106 rfl (wn_iaload dX12_feetOf_108 (xsh hX sh_198) rfl (by omega) (by decide) hk (wp_iconst (v := nI 1) dX12_feetOf_109 rfl ?_))))))
      refine wn_icmp_eq dX12_feetOf_110 rfl (by omega) (by omega) (fun c110 => ?_) (fun c110 => absurd c110 (by omega))
      exact wp_iconst (v := nI 1) dX12_feetOf_131 rfl (wp_goto dX12_feetOf_132 rfl (t136 1 ex))
    rcases Decidable.em (o.1 = 3) with e3 | e3
    · have ex : 1 = xftb v t o f := by unfold xftb; rw [if_neg e0, if_neg (by omega)]
      refine wp_iload dX12_feetOf_92 rfl (wp_iload dX12_feetOf_94 rfl ?_)
      refine wn_icmp_ge dX12_feetOf_96 rfl (by omega) (by omega) (fun c96 => absurd c96 (by omega)) (fun c96 => ?_)
      refine wp_aload_n dX12_feetOf_99 rfl rfl (wp_iload dX12_feetOf_100 rfl (wp_aload_n dX12_feetOf_102 rfl rfl (g11_207 dX12_feetOf_103 (xsh hX sh_187) (xrr hX r187_32) (wp_iload dX12_feetOf_106 rfl (wn_iaload dX12_feetOf_108 (xsh hX sh_198) rfl (by omega) (by decide) hk (wp_iconst (v := nI 1) dX12_feetOf_109 rfl ?_))))))
      refine wn_icmp_eq dX12_feetOf_110 rfl (by omega) (by omega) (fun c110 => absurd c110 (by omega)) (fun c110 => ?_)
      refine wp_aload_n dX12_feetOf_113 rfl rfl (g11_207 dX12_feetOf_114 (xsh hX sh_187) (xrr hX r187_32) (wp_iload dX12_feetOf_117 rfl (wn_iaload dX12_feetOf_119 (xsh hX sh_198) rfl (by omega) (by decide) hk (wp_iconst (v := nI 3) dX12_feetOf_120 rfl ?_))))
      refine wn_icmp_eq dX12_feetOf_121 rfl (by omega) (by omega) (fun c121 => ?_) (fun c121 => absurd c121 (by omega))
      exact wp_iconst (v := nI 1) dX12_feetOf_131 rfl (wp_goto dX12_feetOf_132 rfl (t136 1 ex))
    rcases Decidable.em (o.1 = 2) with e2 | e2
    · have ex : 0 = xftb v t o f := by unfold xftb; rw [if_neg e0, if_pos e2]
      refine wp_iload dX12_feetOf_92 rfl (wp_iload dX12_feetOf_94 rfl ?_)
      refine wn_icmp_ge dX12_feetOf_96 rfl (by omega) (by omega) (fun c96 => absurd c96 (by omega)) (fun c96 => ?_)
      refine wp_aload_n dX12_feetOf_99 rfl rfl (wp_iload dX12_feetOf_100 rfl (wp_aload_n dX12_feetOf_102 rfl rfl (g11_207 dX12_feetOf_103 (xsh hX sh_187) (xrr hX r187_32) (wp_iload dX12_feetOf_106 rfl (wn_iaload dX12_feetOf_108 (xsh hX sh_198) rfl (by omega) (by decide) hk (wp_iconst (v := nI 1) dX12_feetOf_109 rfl ?_))))))
      refine wn_icmp_eq dX12_feetOf_110 rfl (by omega) (by omega) (fun c110 => absurd c110 (by omega)) (fun c110 => ?_)
      refine wp_aload_n dX12_feetOf_113 rfl rfl (g11_207 dX12_feetOf_114 (xsh hX sh_187) (xrr hX r187_32) (wp_iload dX12_feetOf_117 rfl (wn_iaload dX12_feetOf_119 (xsh hX sh_198) rfl (by omega) (by decide) hk (wp_iconst (v := nI 3) dX12_feetOf_120 rfl ?_))))
      refine wn_icmp_eq dX12_feetOf_121 rfl (by omega) (by omega) (fun c121 => absurd c121 (by omega)) (fun c121 => ?_)
      refine wp_iload dX12_feetOf_124 rfl (wp_iload dX12_feetOf_126 rfl ?_)
      refine wp_icmp_ne dX12_feetOf_128 rfl (fun c128 => ?_) (fun c128 => absurd c128 (nI_m1 (by omega)))
      exact wp_iconst (v := nI 0) dX12_feetOf_135 rfl (t136 0 ex)
    have hz : xfm v t o = 0 := by unfold xfm xbt; rw [if_neg e3, if_neg e0, if_neg e2, if_neg e1']
    omega
theorem xRM.fr {s n : Nat} {S S' : xS} {t : Nat → Nat} {L : List xLn} {P : Nat → Nat → Prop} (h : xRM s S n t L) (hf : xFl P S S') (hn : ∀ i k, i = 195 ∨ i = 198 ∨ i = 199 ∨ i = 200 ∨ i = 201 ∨ i = 202 ∨ i = 203 → ¬ P i k) : xRM s S' n t L := by
  obtain ⟨h1, h2, h3, h4, h5⟩ := h
  exact ⟨fun k hk => hf.i (h1 k hk) (hn _ _ (by omega)), fun i hi => ⟨hf.i (h2 i hi).1 (hn _ _ (by omega)), hf.i (h2 i hi).2.1 (hn _ _ (by omega)), hf.i (h2 i hi).2.2 (hn _ _ (by omega))⟩, fun l hl => hf.i (h3 l hl) (hn _ _ (by omega)), fun l hl => hf.i (h4 l hl) (hn _ _ (by omega)), hf.i h5 (hn _ _ (by omega))⟩
theorem mf_out {n s l : Nat} {t : Nat → Nat} {L : List xLn} {v : xTg} {r d : Nat} (hr0 : r = 205 ∨ r = 206 ∨ r = 207) (hs6 : s < 6) (hok : xRok t n L) (hn : n ≤ 240) (hlen : (L.flatMap xmit).length ≤ 121) (hl : l < L.length) (hl16 : L.length ≤ 16) : ∀ (j k : Nat) (S : xS) (y6 y7 y8 y9 : Value), k + j = (xmit (L.getD l (0, 0, []))).length → XC S → xRM s S n t L → xTgM S v → S.1[r]? = some (22, 480) → xrow S r ((((xmit (L.getD l (0, 0, []))).take k).flatMap (xft v t))) → Wp false (d + 3) 11 cX12_feetOf (some .int) false 16 [.ref 187, .int (nI s), .int (nI l), .ref r, .int (nI ((((xmit (L.getD l (0, 0, []))).take k).flatMap (xft v t))).length), .int (nI (xof xmit L l + k)), y6, y7, y8, y9] [] S (fun q S' => q = some (.int (nI (xfeet v t (L.getD l (0, 0, []))).length)) ∧ xFl (fun i _ => i = r) S S' ∧ xrow S' r (xfeet v t (L.getD l (0, 0, [])))) := by
  intro j
  induction j with
  | zero =>
    intro k S y6 y7 y8 y9 hk hX hM hT hr hrow
    have hkk : k = (xmit (L.getD l (0, 0, []))).length := by omega
    subst hkk
    rw [List.take_length, ← xfeet_m] at hrow ⊢
    have e := xof_succ xmit L l hl
    have hle := xof_le xmit L (l + 1)
    have hlf := hM.2.2.1 (l + 1) (by omega)
    refine wp_iload dX12_feetOf_16 rfl (wp_aload_n dX12_feetOf_18 rfl rfl (g11_216 dX12_feetOf_19 (xsh hX sh_187) (xrr hX r187_35) (wp_bipush (v := nI 17) dX12_feetOf_22 rfl (wp_iload_n dX12_feetOf_24 rfl (wv_imul dX12_feetOf_25 (pk_mul _ _) (wp_iload_n dX12_feetOf_26 rfl (wv_iadd dX12_feetOf_27 (nI_add _ _) (wp_iconst (v := nI 1) dX12_feetOf_28 rfl (wv_iadd dX12_feetOf_29 (nI_add _ _) (wn_iaload dX12_feetOf_30 (xsh hX sh_201) rfl (by omega) (by decide) hlf ?_))))))))))
    refine wn_icmp_ge dX12_feetOf_31 rfl (by omega) (by omega) (fun c31 => ?_) (fun c31 => absurd c31 (by omega))
    exact wp_iload dX12_feetOf_153 rfl (wp_ireturn dX12_feetOf_155 rfl rfl ⟨rfl, xFl.rf S, hrow⟩)
  | succ j ih =>
    intro k S y6 y7 y8 y9 hk hX hM hT hr hrow
    have hkl : k < (xmit (L.getD l (0, 0, []))).length := by omega
    have e := xof_succ xmit L l hl
    have hle := xof_le xmit L (l + 1)
    have hlf := hM.2.2.1 (l + 1) (by omega)
    obtain ⟨o1, o2⟩ := xof_ltf xmit (0, 0, 0) hl hkl
    have gc := m_counts (d + 0) true o1 hs6 hX hM hok hn hlen hT
    obtain ⟨io, ib⟩ := xmit_bd hok (xmem_getD (d := (0, 0, 0)) o1)
    have hk1 := (hM.2.1 _ o1).1
    rw [o2] at gc io ib hk1
    have h4 : ((xmit (L.getD l (0, 0, []))).getD k (0, 0, 0)).1 ≤ 4 := io.2.2.2.2.2
    obtain ⟨hs1, hs2⟩ := xfm_sz (v := v) (Or.inl io)
    have hsl : xstrong v.2.2.2 (xfm v t ((xmit (L.getD l (0, 0, []))).getD k (0, 0, 0))) < 1000 := by have := xstrong_le v.2.2.2 (xfm v t ((xmit (L.getD l (0, 0, []))).getD k (0, 0, 0))); omega
    have hts := xtake_s (xft v t) (xmit (L.getD l (0, 0, []))) (0, 0, 0) k hkl
    have hlen2 : ((((xmit (L.getD l (0, 0, []))).take (k + 1)).flatMap (xft v t))).length = ((((xmit (L.getD l (0, 0, []))).take k).flatMap (xft v t))).length + xfm v t ((xmit (L.getD l (0, 0, []))).getD k (0, 0, 0)) := by rw [hts, List.length_append, xft_len]
    have hp1 := xpre_len (v := v) hok hl (k + 1)
    have ecb : xct v t true ((xmit (L.getD l (0, 0, []))).getD k (0, 0, 0)) = xbt v t ((xmit (L.getD l (0, 0, []))).getD k (0, 0, 0)) := by unfold xct; rw [if_pos (Or.inl rfl)]
    rw [ecb] at gc
    have tail : Wp false (d + 3) 11 cX12_feetOf (some .int) false 92 [.ref 187, .int (nI s), .int (nI l), .ref r, .int (nI ((((xmit (L.getD l (0, 0, []))).take k).flatMap (xft v t))).length), .int (nI (xof xmit L l + k)), .int (nI (122 * s + (xof xmit L l + k))), .int (nI (xfm v t ((xmit (L.getD l (0, 0, []))).getD k (0, 0, 0)))), .int (if ((xmit (L.getD l (0, 0, []))).getD k (0, 0, 0)).1 = 0 then nI (xstrong v.2.2.2 (xfm v t ((xmit (L.getD l (0, 0, []))).getD k (0, 0, 0)))) else -1), .int (nI 0)] [] S (fun q S' => q = some (.int (nI (xfeet v t (L.getD l (0, 0, []))).length)) ∧ xFl (fun i _ => i = r) S S' ∧ xrow S' r (xfeet v t (L.getD l (0, 0, [])))) := by
      refine wp_locals (ls' := [.ref 187, .int (nI s), .int (nI l), .ref r, .int (nI (((((xmit (L.getD l (0, 0, []))).take k).flatMap (xft v t))) ++ (List.range 0).map (xftb v t ((xmit (L.getD l (0, 0, []))).getD k (0, 0, 0)))).length), .int (nI (xof xmit L l + k)), .int (nI (122 * s + (xof xmit L l + k))), .int (nI (xfm v t ((xmit (L.getD l (0, 0, []))).getD k (0, 0, 0)))), .int (if ((xmit (L.getD l (0, 0, []))).getD k (0, 0, 0)).1 = 0 then nI (xstrong v.2.2.2 (xfm v t ((xmit (L.getD l (0, 0, []))).getD k (0, 0, 0)))) else -1), .int (nI 0)]) (by simp) ?_
      refine mf_in hr0 (by omega) h4 hs2 hsl (by omega) (xfm v t ((xmit (L.getD l (0, 0, []))).getD k (0, 0, 0))) 0 S (by omega) hX hr hk1 (by simpa using hrow) (fun S2 f2 hrow2 => ?_)
      have X2 := f2.XC hX
      rw [← hts] at hrow2
      have e4 : (((((xmit (L.getD l (0, 0, []))).take k).flatMap (xft v t))) ++ (List.range (xfm v t ((xmit (L.getD l (0, 0, []))).getD k (0, 0, 0)))).map (xftb v t ((xmit (L.getD l (0, 0, []))).getD k (0, 0, 0)))).length = ((((xmit (L.getD l (0, 0, []))).take (k + 1)).flatMap (xft v t))).length := by rw [hts]; rfl
      refine wp_iinc dX12_feetOf_147 rfl (nI_1 _) ⟨Nat.le_of_ble_eq_true rfl, Or.inr rfl⟩ rfl (wp_goto dX12_feetOf_150 rfl ?_)
      rw [e4]
      refine (ih (k + 1) S2 _ _ _ _ (by omega) X2 (hM.fr f2 (fun i k h => by omega)) (hT.fr f2 (fun k h => by omega) (fun a k h => by omega)) (f2.sh hr) hrow2).mono ?_
      rintro q S' ⟨z1, z2, z3⟩
      exact ⟨z1, f2.tt z2, z3⟩
    rcases Decidable.em (((xmit (L.getD l (0, 0, []))).getD k (0, 0, 0)).1 = 3) with e3 | e3
    · have em : xfm v t ((xmit (L.getD l (0, 0, []))).getD k (0, 0, 0)) = 1 := by unfold xfm; rw [if_pos e3]
      rw [if_neg (by omega), em] at tail
      refine wp_iload dX12_feetOf_16 rfl (wp_aload_n dX12_feetOf_18 rfl rfl (g11_216 dX12_feetOf_19 (xsh hX sh_187) (xrr hX r187_35) (wp_bipush (v := nI 17) dX12_feetOf_22 rfl (wp_iload_n dX12_feetOf_24 rfl (wv_imul dX12_feetOf_25 (pk_mul _ _) (wp_iload_n dX12_feetOf_26 rfl (wv_iadd dX12_feetOf_27 (nI_add _ _) (wp_iconst (v := nI 1) dX12_feetOf_28 rfl (wv_iadd dX12_feetOf_29 (nI_add _ _) (wn_iaload dX12_feetOf_30 (xsh hX sh_201) rfl (by omega) (by decide) hlf ?_))))))))))
      refine wn_icmp_ge dX12_feetOf_31 rfl (by omega) (by omega) (fun c31 => absurd c31 (by omega)) (fun c31 => ?_)
      refine wp_bipush (v := nI 122) dX12_feetOf_34 rfl (wp_iload_n dX12_feetOf_36 rfl (wv_imul dX12_feetOf_37 (pk_mul _ _) (wp_iload dX12_feetOf_38 rfl (wv_iadd dX12_feetOf_40 (nI_add _ _) (wp_istore dX12_feetOf_41 ⟨Nat.le_of_ble_eq_true rfl, Or.inr rfl⟩ rfl (wp_aload_n dX12_feetOf_43 rfl rfl (g11_207 dX12_feetOf_44 (xsh hX sh_187) (xrr hX r187_32) (wp_iload dX12_feetOf_47 rfl (wn_iaload dX12_feetOf_49 (xsh hX sh_198) rfl (by omega) (by decide) hk1 (wp_iconst (v := nI 3) dX12_feetOf_50 rfl ?_))))))))))
      refine wn_icmp_ne dX12_feetOf_51 rfl (by omega) (by omega) (fun c51 => absurd c51 (by omega)) (fun c51 => ?_)
      refine wp_iconst (v := nI 1) dX12_feetOf_54 rfl (wp_goto dX12_feetOf_55 rfl (wp_istore dX12_feetOf_65 ⟨Nat.le_of_ble_eq_true rfl, Or.inr rfl⟩ rfl (wp_aload_n dX12_feetOf_67 rfl rfl (g11_207 dX12_feetOf_68 (xsh hX sh_187) (xrr hX r187_32) (wp_iload dX12_feetOf_71 rfl (wn_iaload dX12_feetOf_73 (xsh hX sh_198) rfl (by omega) (by decide) hk1 ?_))))))
      refine wn_if_ne dX12_feetOf_74 rfl (by omega) (fun c74 => ?_) (fun c74 => absurd c74 (by omega))
      exact wp_iconst (v := -1) dX12_feetOf_86 rfl (wp_istore dX12_feetOf_87 ⟨Nat.le_of_ble_eq_true rfl, Or.inr rfl⟩ rfl (wp_iconst (v := nI 0) dX12_feetOf_89 rfl (wp_istore dX12_feetOf_90 ⟨Nat.le_of_ble_eq_true rfl, Or.inr rfl⟩ rfl tail)))
    · have em : xfm v t ((xmit (L.getD l (0, 0, []))).getD k (0, 0, 0)) = xbt v t ((xmit (L.getD l (0, 0, []))).getD k (0, 0, 0)) := by unfold xfm; rw [if_neg e3]
      rcases Decidable.em (((xmit (L.getD l (0, 0, []))).getD k (0, 0, 0)).1 = 0) with e0 | e0
      · have h1 : 1 ≤ xbt v t ((xmit (L.getD l (0, 0, []))).getD k (0, 0, 0)) := by
          unfold xbt
          rw [if_pos e0]
          exact (xbeats_b _ _ _).1
        have gs := m_strongOf (k := xbt v t ((xmit (L.getD l (0, 0, []))).getD k (0, 0, 0))) (d + 2) hX hT (by omega) h1
        rw [if_pos e0, em] at tail
        refine wp_iload dX12_feetOf_16 rfl (wp_aload_n dX12_feetOf_18 rfl rfl (g11_216 dX12_feetOf_19 (xsh hX sh_187) (xrr hX r187_35) (wp_bipush (v := nI 17) dX12_feetOf_22 rfl (wp_iload_n dX12_feetOf_24 rfl (wv_imul dX12_feetOf_25 (pk_mul _ _) (wp_iload_n dX12_feetOf_26 rfl (wv_iadd dX12_feetOf_27 (nI_add _ _) (wp_iconst (v := nI 1) dX12_feetOf_28 rfl (wv_iadd dX12_feetOf_29 (nI_add _ _) (wn_iaload dX12_feetOf_30 (xsh hX sh_201) rfl (by omega) (by decide) hlf ?_))))))))))
        refine wn_icmp_ge dX12_feetOf_31 rfl (by omega) (by omega) (fun c31 => absurd c31 (by omega)) (fun c31 => ?_)
        refine wp_bipush (v := nI 122) dX12_feetOf_34 rfl (wp_iload_n dX12_feetOf_36 rfl (wv_imul dX12_feetOf_37 (pk_mul _ _) (wp_iload dX12_feetOf_38 rfl (wv_iadd dX12_feetOf_40 (nI_add _ _) (wp_istore dX12_feetOf_41 ⟨Nat.le_of_ble_eq_true rfl, Or.inr rfl⟩ rfl (wp_aload_n dX12_feetOf_43 rfl rfl (g11_207 dX12_feetOf_44 (xsh hX sh_187) (xrr hX r187_32) (wp_iload dX12_feetOf_47 rfl (wn_iaload dX12_feetOf_49 (xsh hX sh_198) rfl (by omega) (by decide) hk1 (wp_iconst (v := nI 3) dX12_feetOf_50 rfl ?_))))))))))
        refine wn_icmp_ne dX12_feetOf_51 rfl (by omega) (by omega) (fun c51 => ?_) (fun c51 => absurd c51 (by omega))
        refine wp_aload_n dX12_feetOf_58 rfl rfl (wp_iload dX12_feetOf_59 rfl (wp_iconst (v := nI 1) dX12_feetOf_61 rfl (wp_iv3 dX12_feetOf_62 k11_234 q_X12_counts (by decide) (xsh hX sh_187) (by decide) (Nat.le_of_ble_eq_true rfl) gc (wp_istore dX12_feetOf_65 ⟨Nat.le_of_ble_eq_true rfl, Or.inr rfl⟩ rfl (wp_aload_n dX12_feetOf_67 rfl rfl (g11_207 dX12_feetOf_68 (xsh hX sh_187) (xrr hX r187_32) (wp_iload dX12_feetOf_71 rfl (wn_iaload dX12_feetOf_73 (xsh hX sh_198) rfl (by omega) (by decide) hk1 ?_))))))))
        refine wn_if_ne dX12_feetOf_74 rfl (by omega) (fun c74 => absurd c74 (by omega)) (fun c74 => ?_)
        exact wp_aload_n dX12_feetOf_77 rfl rfl (wp_iload dX12_feetOf_78 rfl (wp_iv2 dX12_feetOf_80 k11_169 q_X12_strongOf (by decide) (xsh hX sh_187) (by decide) (Nat.le_of_ble_eq_true rfl) gs (wp_goto dX12_feetOf_83 rfl (wp_istore dX12_feetOf_87 ⟨Nat.le_of_ble_eq_true rfl, Or.inr rfl⟩ rfl (wp_iconst (v := nI 0) dX12_feetOf_89 rfl (wp_istore dX12_feetOf_90 ⟨Nat.le_of_ble_eq_true rfl, Or.inr rfl⟩ rfl tail))))))
      · rw [if_neg e0, em] at tail
        refine wp_iload dX12_feetOf_16 rfl (wp_aload_n dX12_feetOf_18 rfl rfl (g11_216 dX12_feetOf_19 (xsh hX sh_187) (xrr hX r187_35) (wp_bipush (v := nI 17) dX12_feetOf_22 rfl (wp_iload_n dX12_feetOf_24 rfl (wv_imul dX12_feetOf_25 (pk_mul _ _) (wp_iload_n dX12_feetOf_26 rfl (wv_iadd dX12_feetOf_27 (nI_add _ _) (wp_iconst (v := nI 1) dX12_feetOf_28 rfl (wv_iadd dX12_feetOf_29 (nI_add _ _) (wn_iaload dX12_feetOf_30 (xsh hX sh_201) rfl (by omega) (by decide) hlf ?_))))))))))
        refine wn_icmp_ge dX12_feetOf_31 rfl (by omega) (by omega) (fun c31 => absurd c31 (by omega)) (fun c31 => ?_)
        refine wp_bipush (v := nI 122) dX12_feetOf_34 rfl (wp_iload_n dX12_feetOf_36 rfl (wv_imul dX12_feetOf_37 (pk_mul _ _) (wp_iload dX12_feetOf_38 rfl (wv_iadd dX12_feetOf_40 (nI_add _ _) (wp_istore dX12_feetOf_41 ⟨Nat.le_of_ble_eq_true rfl, Or.inr rfl⟩ rfl (wp_aload_n dX12_feetOf_43 rfl rfl (g11_207 dX12_feetOf_44 (xsh hX sh_187) (xrr hX r187_32) (wp_iload dX12_feetOf_47 rfl (wn_iaload dX12_feetOf_49 (xsh hX sh_198) rfl (by omega) (by decide) hk1 (wp_iconst (v := nI 3) dX12_feetOf_50 rfl ?_))))))))))
        refine wn_icmp_ne dX12_feetOf_51 rfl (by omega) (by omega) (fun c51 => ?_) (fun c51 => absurd c51 (by omega))
        refine wp_aload_n dX12_feetOf_58 rfl rfl (wp_iload dX12_feetOf_59 rfl (wp_iconst (v := nI 1) dX12_feetOf_61 rfl (wp_iv3 dX12_feetOf_62 k11_234 q_X12_counts (by decide) (xsh hX sh_187) (by decide) (Nat.le_of_ble_eq_true rfl) gc (wp_istore dX12_feetOf_65 ⟨Nat.le_of_ble_eq_true rfl, Or.inr rfl⟩ rfl (wp_aload_n dX12_feetOf_67 rfl rfl (g11_207 dX12_feetOf_68 (xsh hX sh_187) (xrr hX r187_32) (wp_iload dX12_feetOf_71 rfl (wn_iaload dX12_feetOf_73 (xsh hX sh_198) rfl (by omega) (by decide) hk1 ?_))))))))
        refine wn_if_ne dX12_feetOf_74 rfl (by omega) (fun c74 => ?_) (fun c74 => absurd c74 (by omega))
        exact wp_iconst (v := -1) dX12_feetOf_86 rfl (wp_istore dX12_feetOf_87 ⟨Nat.le_of_ble_eq_true rfl, Or.inr rfl⟩ rfl (wp_iconst (v := nI 0) dX12_feetOf_89 rfl (wp_istore dX12_feetOf_90 ⟨Nat.le_of_ble_eq_true rfl, Or.inr rfl⟩ rfl tail)))
theorem m_feetOf {n s l : Nat} {t : Nat → Nat} {L : List xLn} {v : xTg} {r : Nat} (d : Nat) (hr0 : r = 205 ∨ r = 206 ∨ r = 207) (hs6 : s < 6) (hok : xRok t n L) (hn : n ≤ 240) (hlen : (L.flatMap xmit).length ≤ 121) (hl : l < L.length) (hl16 : L.length ≤ 16) {S : xS} (hX : XC S) (hM : xRM s S n t L) (hT : xTgM S v) : ∃ S', xcall false (d + 3) j_X12_feetOf [.ref 187, .int (nI s), .int (nI l), .ref r] S (some (.int (nI (xfeet v t (L.getD l (0, 0, []))).length))) S' ∧ xFl (fun i _ => i = r) S S' ∧ xrow S' r (xfeet v t (L.getD l (0, 0, []))) := by
  have hr : S.1[r]? = some (22, 480) := by
    rcases hr0 with rfl | rfl | rfl
    · exact xsh hX sh_205
    · exact xsh hX sh_206
    · exact xsh hX sh_207
  have hlf := hM.2.2.1 l (by omega)
  have key : ∃ q S', xcall false (d + 3) j_X12_feetOf [.ref 187, .int (nI s), .int (nI l), .ref r] S q S' ∧ (q = some (.int (nI (xfeet v t (L.getD l (0, 0, []))).length)) ∧ xFl (fun i _ => i = r) S S' ∧ xrow S' r (xfeet v t (L.getD l (0, 0, [])))) := by
    refine xcall_some (ls := [.ref 187, .int (nI s), .int (nI l), .ref r, .float 0, .float 0, .float 0, .float 0, .float 0, .float 0]) q_X12_feetOf (by decide) rfl (Nat.le_of_ble_eq_true rfl) rfl ?_
    exact wp_iconst (v := nI 0) dX12_feetOf_0 rfl (wp_istore dX12_feetOf_1 ⟨Nat.le_of_ble_eq_true rfl, Or.inr rfl⟩ rfl (wp_aload_n dX12_feetOf_3 rfl rfl (g11_216 dX12_feetOf_4 (xsh hX sh_187) (xrr hX r187_35) (wp_bipush (v := nI 17) dX12_feetOf_7 rfl (wp_iload_n dX12_feetOf_9 rfl (wv_imul dX12_feetOf_10 (pk_mul _ _) (wp_iload_n dX12_feetOf_11 rfl (wv_iadd dX12_feetOf_12 (nI_add _ _) (wn_iaload dX12_feetOf_13 (xsh hX sh_201) rfl (by omega) (by decide) hlf (wp_istore dX12_feetOf_14 ⟨Nat.le_of_ble_eq_true rfl, Or.inr rfl⟩ rfl (mf_out hr0 hs6 hok hn hlen hl hl16 (xmit (L.getD l (0, 0, []))).length 0 S _ _ _ _ (by omega) hX hM hT hr (fun k hk => absurd hk (Nat.not_lt_zero k)))))))))))))
  obtain ⟨q, S', g, rfl, z1, z2⟩ := key
  exact ⟨S', g, z1, z2⟩
