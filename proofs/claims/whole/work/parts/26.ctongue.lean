/-! THE TONGUE of the class: a rule read -/
def xTgC (a b c : Nat) : Prop := (a = 5 ∧ b = 6 ∧ c = 7) ∨ (a = 8 ∧ b = 9 ∧ c = 10)
theorem xTgC.sh {a b c : Nat} (h : xTgC a b c) {S : xS} (hX : XC S) : S.1[a]? = some (7, 6) ∧ S.1[b]? = some (20, 12) ∧ S.1[c]? = some (20, 6) ∧ S.2.2.1 a 1 = some b ∧ S.2.2.1 a 3 = some c := by
  rcases h with ⟨rfl, rfl, rfl⟩ | ⟨rfl, rfl, rfl⟩
  · exact ⟨xsh hX sh_5, xsh hX sh_6, xsh hX sh_7, xrr hX r5_1, xrr hX r5_3⟩
  · exact ⟨xsh hX sh_8, xsh hX sh_9, xsh hX sh_10, xrr hX r8_1, xrr hX r8_3⟩
abbrev xTg : Type := Nat × List Nat × List Nat × Nat
def xTgV (a b c : Nat) (S : xS) (v : xTg) : Prop :=
  (S.2.1 a 0 = nI v.1 ∧ v.1 < 2 ^ 26) ∧ (S.2.1 a 2 = nI v.2.1.length ∧ v.2.1.length ≤ 12 ∧ (∀ i, i < v.2.1.length → S.2.1 b i = nI (v.2.1.getD i 0)) ∧ ∀ x ∈ v.2.1, 97 ≤ x ∧ x < 2 ^ 24) ∧
  (S.2.1 a 4 = nI v.2.2.1.length ∧ v.2.2.1.length ≤ 6 ∧ (∀ i, i < v.2.2.1.length → S.2.1 c i = nI (v.2.2.1.getD i 0)) ∧ ∀ x ∈ v.2.2.1, 97 ≤ x ∧ x < 2 ^ 24) ∧ S.2.1 a 5 = nI v.2.2.2 ∧ v.2.2.2 < 3
theorem xTgV.fr {a b c : Nat} (S S' : xS) (P : Nat → Nat → Prop) (v : xTg) (h : xTgV a b c S v) (hf : xFl P S S') (hn : ∀ i k, (i = a ∨ i = b ∨ i = c) → ¬ P i k) : xTgV a b c S' v := by
  obtain ⟨h1, ⟨h2, h3, h4, h5⟩, ⟨h6, h7, h8, h9⟩, h10, h11⟩ := h
  exact ⟨⟨hf.i h1.1 (hn _ _ (Or.inl rfl)), h1.2⟩, ⟨hf.i h2 (hn _ _ (Or.inl rfl)), h3, fun i hi => hf.i (h4 i hi) (hn _ _ (Or.inr (Or.inl rfl))), h5⟩, ⟨hf.i h6 (hn _ _ (Or.inl rfl)), h7, fun i hi => hf.i (h8 i hi) (hn _ _ (Or.inr (Or.inr rfl))), h9⟩, hf.i h10 (hn _ _ (Or.inl rfl)), h11⟩
def xtrule (t : Nat → Nat) (n : Nat) (r p : Nat) (v : xTg) : Except (Nat × Nat) (Nat × xTg) :=
  if r = 0 then (if xtk t n p = 1 then .ok (xta t n p, (xvow t (xts t n p) (xtz t n p), v.2)) else .error (xfh t n p))
  else if r = 1 then (match xparts t n 2 2 12 13 p [] with
    | .error e => .error e
    | .ok q => .ok (q.1, (v.1, q.2, v.2.2)))
  else if r = 2 then (match xparts t n 1 3 6 7 p [] with
    | .error e => .error e
    | .ok q => .ok (q.1, (v.1, v.2.1, q.2, v.2.2.2)))
  else (match xwh t n p [xw_first, xw_second, xw_last] 0 with
    | none => .error (xfh t n p)
    | some k => .ok (xta t n p, (v.1, v.2.1, v.2.2.1, k)))
theorem xwd_ge {t : Nat → Nat} {s : Nat} : ∀ z, 0 < z → (∀ i, i < z → 97 ≤ t (s + i)) → 97 ≤ xwd t s z
  | z + 1, _, h => by
    have := h z (by omega)
    unfold xwd
    omega
theorem xwd_24 {t : Nat → Nat} {s z : Nat} (hz : 0 < z ∧ z ≤ 3) (h : ∀ i, i < z → xsm (t (s + i)) = true) : 97 ≤ xwd t s z ∧ xwd t s z < 2 ^ 24 := by
  refine ⟨xwd_ge z hz.1 (fun i hi => (xsm_b (h i hi)).1), ?_⟩
  have e := xwd_lt t s z (fun i hi => by have := xsm_b (h i hi); omega)
  have : 256 ^ z ≤ 256 ^ 3 := Nat.pow_le_pow_right (by decide) hz.2
  omega
theorem xparts_in {t : Nat → Nat} {n lo hi mx : Nat} (hlo : 0 < lo) (hhi : hi ≤ 3) : ∀ (f p : Nat) (l : List Nat) (p' : Nat) (l' : List Nat), xparts t n lo hi mx f p l = .ok (p', l') → (∀ x ∈ l, 97 ≤ x ∧ x < 2 ^ 24) → ∀ x ∈ l', 97 ≤ x ∧ x < 2 ^ 24
  | 0, _, _, _, _, h, _ => by cases h
  | f + 1, p, l, p', l', h, hl => by
    unfold xparts at h
    split at h
    · rename_i h1
      have hx := xtk1 h1
      split at h
      · cases h
      · rename_i hz
        refine xparts_in hlo hhi f _ _ p' l' h (fun x hx2 => ?_)
        rcases List.mem_append.mp hx2 with q | q
        · exact hl x q
        · rw [List.mem_singleton.mp q]
          have e : xtz t n p = xta t n p - xts t n p := rfl
          exact xwd_24 (by omega) (fun i hi => hx.2.2.2 _ (by omega) (by omega))
    · split at h
      · cases h
      · cases h; exact hl
theorem c_tgReset {a b c : Nat} (htg : xTgC a b c) (d : Nat) {S : xS} (hX : XC S) : ∃ S', xcall false d j_X8_reset [.ref a] S none S' ∧ xFl (fun i k => i = a ∨ i = b ∨ i = c) S S' ∧ xTgV a b c S' (17842449, [], [], 0) := by
  have htg' := htg
  unfold xTgC at htg'
  obtain ⟨ha, hb, hc, ra, rc⟩ := htg.sh hX
  refine ⟨xSI (xSI (xSI (xSI S a 0 (nI 17842449)) a 2 (nI 0)) a 4 (nI 0)) a 5 (nI 0), ?_, ((((xFl.rf S).SI (Or.inl rfl)).SI (Or.inl rfl)).SI (Or.inl rfl)).SI (Or.inl rfl), ?_⟩
  · refine xcall_intro (ls := [.ref a]) q_X8_reset (by decide) rfl (Nat.le_of_ble_eq_true rfl) rfl ?_
    exact wp_aload_n dX8_reset_0 rfl rfl (wp_ldcI dX8_reset_1 k7_11 rfl (p7_12 dX8_reset_3 ha (wp_aload_n dX8_reset_6 rfl rfl (wp_iconst (v := nI 0) dX8_reset_7 rfl (p7_23 dX8_reset_8 ha (wp_aload_n dX8_reset_11 rfl rfl (wp_iconst (v := nI 0) dX8_reset_12 rfl (p7_26 dX8_reset_13 ha (wp_aload_n dX8_reset_16 rfl rfl (wp_iconst (v := nI 0) dX8_reset_17 rfl (p7_29 dX8_reset_18 ha (wp_return dX8_reset_21 rfl ⟨rfl, rfl⟩))))))))))))
  · exact ⟨⟨xi (xi (xi (xI_same _ _ _ _) (Or.inr (by decide))) (Or.inr (by decide))) (Or.inr (by decide)), by decide⟩, ⟨xi (xi (xI_same _ _ _ _) (Or.inr (by decide))) (Or.inr (by decide)), by decide, fun i hi => absurd hi (Nat.not_lt_zero i), fun x hx => by cases hx⟩, ⟨xi (xI_same _ _ _ _) (Or.inr (by decide)), by decide, fun i hi => absurd hi (Nat.not_lt_zero i), fun x hx => by cases hx⟩, xI_same _ _ _ _, by decide⟩
theorem vowels_loop {a b c n s z : Nat} {t : Nat → Nat} (d : Nat) {Q : Option Value → xS → Prop} (htg : xTgC a b c) (hsz : s + z ≤ n) (hsm : ∀ k, k < z → xsm (t (s + k)) = true) : ∀ (j m : Nat) (S : xS), m + j = z → XC S → xTx S n t → S.2.1 3 3 = nI (s + z) → S.2.1 a 0 = nI (xvow t s m) → (∀ S', xFl (fun i k => i = a ∧ k = 0) S S' → S'.2.1 a 0 = nI (xvow t s z) → Wp false (d + 2) 7 cX8_readVowels (some .boolean) false 66 [.ref a, .ref 3, .int (nI (s + z))] [] S' Q) → Wp false (d + 2) 7 cX8_readVowels (some .boolean) false 23 [.ref a, .ref 3, .int (nI (s + m))] [] S Q := by
  intro j
  induction j with
  | zero =>
    intro m S hm hX hT h3 h0 k
    have hmz : m = z := by omega
    subst hmz
    obtain ⟨ha, hb, hc, ra, rc⟩ := htg.sh hX
    have hle := hT.2.2.1
    refine wp_iload_n dX8_readVowels_23 rfl (wp_aload_n dX8_readVowels_24 rfl rfl (gv7_55 dX8_readVowels_25 (xsh hX sh_3) h3 ?_))
    refine wn_icmp_ge dX8_readVowels_28 rfl (by omega) (by omega) (fun c28 => ?_) (fun c28 => absurd c28 (by omega))
    exact k S (xFl.rf S) h0
  | succ j ih =>
    intro m S hm hX hT h3 h0 k
    have hT0 := hT
    obtain ⟨ha, hb, hc, ra, rc⟩ := htg.sh hX
    have htg' := htg
    unfold xTgC at htg'
    obtain ⟨hr, hn, hle, hbb⟩ := hT
    obtain ⟨h1, h2⟩ := hbb (s + m) (by omega)
    have hm2 := xsm_b (hsm m (by omega))
    have e60 : nI (s + m) + Int32.ofInt 1 = nI (s + (m + 1)) := nI_1 (s + m)
    have F1 : xFl (fun i k => i = a ∧ k = 0) S (xSI S a 0 (nI (xvow t s (m + 1)))) := (xFl.rf S).SI ⟨rfl, rfl⟩
    refine wp_iload_n dX8_readVowels_23 rfl (wp_aload_n dX8_readVowels_24 rfl rfl (gv7_55 dX8_readVowels_25 (xsh hX sh_3) h3 ?_))
    refine wn_icmp_ge dX8_readVowels_28 rfl (by omega) (by omega) (fun c28 => absurd c28 (by omega)) (fun c28 => ?_)
    refine wp_iload_n dX8_readVowels_31 rfl (wp_aload_n dX8_readVowels_32 rfl rfl (g7_58 dX8_readVowels_33 (xsh hX sh_3) hr (wp_alen (v := nI 260) dX8_readVowels_36 (xsh hX sh_2) ⟨by decide, by decide⟩ rfl ?_)))
    refine wn_icmp_ge dX8_readVowels_37 rfl (by omega) (by omega) (fun c37 => absurd c37 (by omega)) (fun c37 => ?_)
    refine wp_aload_n dX8_readVowels_40 rfl rfl (wp_dup dX8_readVowels_41 rfl (gv7_12 dX8_readVowels_42 ha h0 (wp_iconst (v := nI 1) dX8_readVowels_45 rfl (wp_aload_n dX8_readVowels_46 rfl rfl (g7_58 dX8_readVowels_47 (xsh hX sh_3) hr (wp_iload_n dX8_readVowels_50 rfl (wn_caload dX8_readVowels_51 (xsh hX sh_2) rfl (by omega) (by decide) h2 (wp_bipush (v := nI 97) dX8_readVowels_52 rfl (wv_isub dX8_readVowels_54 (pk_sub (by omega)) (wv_ishl dX8_readVowels_55 (xsh1 (by omega)) (wv_ior dX8_readVowels_56 (fa_or _ _) (p7_12 dX8_readVowels_57 ha (wp_iinc dX8_readVowels_60 rfl e60 ⟨Nat.le_of_ble_eq_true rfl, Or.inr rfl⟩ rfl (wp_goto dX8_readVowels_63 rfl ?_))))))))))))))
    refine ih (m + 1) (xSI S a 0 (nI (xvow t s (m + 1)))) (by omega) (F1.XC hX) (hT0.fr F1 (by omega) (fun k => by omega)) (xi h3 (Or.inl (by omega))) (xI_same _ _ _ _) ?_
    intro S' f q
    exact k S' (F1.tt f) q
theorem c_readVowels {a b c n p : Nat} {t : Nat → Nat} {v : xTg} (d : Nat) (htg : xTgC a b c) {S : xS} (hX : XC S) (hT : xTx S n t) (hC : xTC S n t p) (hV : xTgV a b c S v) (hF : S.2.1 3 5 = nI 0) : ∃ b' S', xcall false (d + 2) j_X8_readVowels [.ref a, .ref 3] S (some (.int (xB b'))) S' ∧ xFl (fun i k => (i = a ∨ i = b ∨ i = c) ∨ (i = 3 ∧ 2 ≤ k)) S S' ∧ xRO (xTgV a b c) n t S' b' (xtrule t n 0 p v) := by
  have htg' := htg
  unfold xTgC at htg'
  obtain ⟨ha, hb, hc, ra, rc⟩ := htg.sh hX
  have hC0 := hC
  have hT0 := hT
  obtain ⟨hp, h2, h3, h4⟩ := hC
  have b4 := xtk_b t n p
  have hab := xta_b t hp
  obtain ⟨hr, hn, hle, hbb⟩ := hT
  by_cases h1 : xtk t n p = 1
  · have hx := xtk1 h1
    have hz : xts t n p + xtz t n p = xta t n p := by unfold xtz; omega
    have key : ∃ r S', xcall false (d + 2) j_X8_readVowels [.ref a, .ref 3] S r S' ∧ (r = some (.int (xB true)) ∧ xFl (fun i k => (i = a ∨ i = b ∨ i = c) ∨ (i = 3 ∧ 2 ≤ k)) S S' ∧ S'.2.1 a 0 = nI (xvow t (xts t n p) (xtz t n p)) ∧ xTC S' n t (xta t n p) ∧ S'.2.1 3 5 = nI 0 ∧ xFl (fun i k => (i = a ∧ k = 0) ∨ (i = 3 ∧ 2 ≤ k ∧ k ≤ 4)) S S') := by
      refine xcall_some (ls := [.ref a, .ref 3, .float 0]) q_X8_readVowels (by decide) rfl (Nat.le_of_ble_eq_true rfl) rfl ?_
      refine wp_aload_n dX8_readVowels_0 rfl rfl (gv7_43 dX8_readVowels_1 (xsh hX sh_3) h4 (wp_iconst (v := nI 1) dX8_readVowels_4 rfl ?_))
      refine wn_icmp_eq dX8_readVowels_5 rfl (by omega) (by omega) (fun c5 => ?_) (fun c5 => absurd c5 (by omega))
      refine wp_aload_n dX8_readVowels_13 rfl rfl (wp_iconst (v := nI 0) dX8_readVowels_14 rfl (p7_12 dX8_readVowels_15 ha (wp_aload_n dX8_readVowels_18 rfl rfl (gv7_52 dX8_readVowels_19 (xsh hX sh_3) (xi h2 (Or.inl (by omega))) (wp_istore_n dX8_readVowels_22 ⟨Nat.le_of_ble_eq_true rfl, Or.inr rfl⟩ rfl ?_)))))
      have F1 : xFl (fun i k => i = a ∧ k = 0) S (xSI S a 0 (nI 0)) := (xFl.rf S).SI ⟨rfl, rfl⟩
      refine vowels_loop d htg (s := xts t n p) (z := xtz t n p) (by omega) (fun k hk => hx.2.2.2 _ (by omega) (by unfold xtz at hk; omega)) (xtz t n p) 0 (xSI S a 0 (nI 0)) (by omega) (F1.XC hX) (hT0.fr F1 (by omega) (fun k => by omega)) ((xi h3 (Or.inl (by omega))).trans (by rw [hz])) (xI_same _ _ _ _) ?_
      intro S1 f1 q1
      have F2 := F1.tt f1
      have X1 := F2.XC hX
      obtain ⟨S2, g2, f2, t2⟩ := c_step d X1 (hT0.fr F2 (by omega) (fun k => by omega)) (F2.i h3 (by omega)) hab.2.1
      have F3 : xFl (fun i k => (i = a ∧ k = 0) ∨ (i = 3 ∧ 2 ≤ k ∧ k ≤ 4)) S S2 := (F2.tr f2).mono (fun i k h => by omega)
      exact wp_aload_n dX8_readVowels_66 rfl rfl (wp_iv1 dX8_readVowels_67 k7_62 q_X7_step (by decide) (xsh X1 sh_3) (by decide) (Nat.le_of_ble_eq_true rfl) g2 (wp_iconst (v := nI 1) dX8_readVowels_70 rfl (wb_ret dX8_readVowels_71 rfl rfl ⟨rfl, F3.mono (fun i k h => by omega), f2.i q1 (by omega), t2, F3.i hF (by omega), F3⟩)))
    obtain ⟨r, S', h1', rfl, q1, q2, q3, q4, q5⟩ := key
    refine ⟨true, S', h1', q1, ?_⟩
    unfold xtrule
    rw [if_pos rfl, if_pos h1]
    refine ⟨fun e he => (by cases he), fun p' v' he => ?_⟩
    cases he
    obtain ⟨v1, v2, v3, v4, v5⟩ := hV
    exact ⟨rfl, q4, q3, ⟨q2, xvow_lt _ (fun k hk => hx.2.2.2 _ (by omega) (by unfold xtz at hk; omega))⟩, ⟨q5.i v2.1 (by omega), v2.2.1, fun i hi => q5.i (v2.2.2.1 i hi) (by omega), v2.2.2.2⟩, ⟨q5.i v3.1 (by omega), v3.2.1, fun i hi => q5.i (v3.2.2.1 i hi) (by omega), v3.2.2.2⟩, q5.i v4 (by omega), v5⟩
  · refine ⟨false, xSI S 3 5 (nI (if xtk t n p = 4 then 1 else 2)), ?_, (xFl.rf S).SI (Or.inr ⟨rfl, by decide⟩), ?_⟩
    · refine xcall_intro (ls := [.ref a, .ref 3, .float 0]) q_X8_readVowels (by decide) rfl (Nat.le_of_ble_eq_true rfl) rfl ?_
      refine wp_aload_n dX8_readVowels_0 rfl rfl (gv7_43 dX8_readVowels_1 (xsh hX sh_3) h4 (wp_iconst (v := nI 1) dX8_readVowels_4 rfl ?_))
      refine wn_icmp_eq dX8_readVowels_5 rfl (by omega) (by omega) (fun c5 => absurd c5 (by omega)) (fun c5 => ?_)
      exact wp_aload_n dX8_readVowels_8 rfl rfl (wp_iv1 dX8_readVowels_9 k7_48 q_X7_refuseHere (by decide) (xsh hX sh_3) (by decide) (Nat.le_of_ble_eq_true rfl) (c_refuseHere d hX h4 b4) (wb_ret dX8_readVowels_12 rfl rfl ⟨rfl, rfl⟩))
    · unfold xtrule
      rw [if_pos rfl, if_neg h1]
      exact ⟨fun e he => (by cases he; exact ⟨rfl, xI_same _ _ _ _, xi h2 (Or.inr (by decide))⟩), fun p' v' he => (by cases he)⟩
theorem xpick1 (n : Nat) (t : Nat → Nat) (p : Nat) : xpick 1 n t p = xopt (xwh t n p [xw_first, xw_second, xw_last] 0) := by
  rw [xpick_1]
  simp only [xwh]
  repeat' split
  all_goals rfl
theorem xpick0 (n : Nat) (t : Nat → Nat) (p : Nat) : xpick 0 n t p = xopt (xwh t n p [xw_vowels, xw_joined, xw_mute, xw_strong] 0) := by
  rw [xpick_0]
  simp only [xwh]
  repeat' split
  all_goals rfl
theorem c_readStrong {a b c n p : Nat} {t : Nat → Nat} {v : xTg} (d : Nat) (htg : xTgC a b c) {S : xS} (hX : XC S) (hT : xTx S n t) (hC : xTC S n t p) (hV : xTgV a b c S v) (hF : S.2.1 3 5 = nI 0) : ∃ b' S', xcall false (d + 3) j_X8_readStrong [.ref a, .ref 3] S (some (.int (xB b'))) S' ∧ xFl (fun i k => (i = a ∨ i = b ∨ i = c) ∨ (i = 3 ∧ 2 ≤ k)) S S' ∧ xRO (xTgV a b c) n t S' b' (xtrule t n 3 p v) := by
  have htg' := htg
  unfold xTgC at htg'
  obtain ⟨ha, hb, hc, ra, rc⟩ := htg.sh hX
  have hC0 := hC
  have hT0 := hT
  obtain ⟨hp, h2, h3, h4⟩ := hC
  have b4 := xtk_b t n p
  have hab := xta_b t hp
  obtain ⟨hr, hn, hle, hbb⟩ := hT
  have gk := c_pick hX hT0 hC0 (q := 1) (by decide) (by decide) d
  rw [xpick1] at gk
  have ER : xtrule t n 3 p v = match xwh t n p [xw_first, xw_second, xw_last] 0 with
    | none => .error (xfh t n p)
    | some k => .ok (xta t n p, (v.1, v.2.1, v.2.2.1, k)) := by
    unfold xtrule
    rw [if_neg (by decide), if_neg (by decide), if_neg (by decide)]
  rw [ER]
  cases hw : xwh t n p [xw_first, xw_second, xw_last] 0 with
  | none =>
    rw [hw] at gk
    have F1 : xFl (fun i k => i = a ∧ k = 5) S (xSI S a 5 (-1)) := (xFl.rf S).SI ⟨rfl, rfl⟩
    refine ⟨false, xSI (xSI S a 5 (-1)) 3 5 (nI (if xtk t n p = 4 then 1 else 2)), ?_, ((xFl.rf S).SI (Or.inl (Or.inl rfl))).SI (Or.inr ⟨rfl, by decide⟩), ?_⟩
    · refine xcall_intro (ls := [.ref a, .ref 3]) q_X8_readStrong (by decide) rfl (Nat.le_of_ble_eq_true rfl) rfl ?_
      refine wp_aload_n dX8_readStrong_0 rfl rfl (wp_aload_n dX8_readStrong_1 rfl rfl (wp_ldcS dX8_readStrong_2 k7_65 (wp_iv2 dX8_readStrong_4 k7_67 q_X7_pick (by decide) (xsh hX sh_3) (by decide) (Nat.le_of_ble_eq_true rfl) gk (p7_29 dX8_readStrong_7 ha (wp_aload_n dX8_readStrong_10 rfl rfl (gv7_29 dX8_readStrong_11 ha (xI_same _ _ _ _) (wp_iconst (v := -1) dX8_readStrong_14 rfl ?_)))))))
      refine wp_icmp_ne dX8_readStrong_15 rfl (fun c15 => absurd c15 (not_not_intro rfl)) (fun c15 => ?_)
      exact wp_aload_n dX8_readStrong_18 rfl rfl (wp_iv1 dX8_readStrong_19 k7_48 q_X7_refuseHere (by decide) (xsh hX sh_3) (by decide) (Nat.le_of_ble_eq_true rfl) (c_refuseHere (d + 1) (F1.XC hX) (xi h4 (Or.inl (by omega))) b4) (wb_ret dX8_readStrong_22 rfl rfl ⟨rfl, rfl⟩))
    · exact ⟨fun e he => (by cases he; exact ⟨rfl, xI_same _ _ _ _, xi (xi h2 (Or.inl (by omega))) (Or.inr (by decide))⟩), fun p' v' he => (by cases he)⟩
  | some k =>
    rw [hw] at gk
    have hk3 := xwh_lt _ _ hw
    have hk4 : k < 3 := hk3.2
    have F1 : xFl (fun i k => i = a ∧ k = 5) S (xSI S a 5 (nI k)) := (xFl.rf S).SI ⟨rfl, rfl⟩
    obtain ⟨S2, g2, f2, t2⟩ := c_step (d + 1) (F1.XC hX) (hT0.fr F1 (by omega) (fun k => by omega)) (xi h3 (Or.inl (by omega))) hab.2.1
    have F3 : xFl (fun i k => (i = a ∧ k = 5) ∨ (i = 3 ∧ 2 ≤ k ∧ k ≤ 4)) S S2 := (F1.tr f2).mono (fun i k h => by omega)
    refine ⟨true, S2, ?_, F3.mono (fun i k h => by omega), ?_⟩
    · refine xcall_intro (ls := [.ref a, .ref 3]) q_X8_readStrong (by decide) rfl (Nat.le_of_ble_eq_true rfl) rfl ?_
      refine wp_aload_n dX8_readStrong_0 rfl rfl (wp_aload_n dX8_readStrong_1 rfl rfl (wp_ldcS dX8_readStrong_2 k7_65 (wp_iv2 dX8_readStrong_4 k7_67 q_X7_pick (by decide) (xsh hX sh_3) (by decide) (Nat.le_of_ble_eq_true rfl) gk (p7_29 dX8_readStrong_7 ha (wp_aload_n dX8_readStrong_10 rfl rfl (gv7_29 dX8_readStrong_11 ha (xI_same _ _ _ _) (wp_iconst (v := -1) dX8_readStrong_14 rfl ?_)))))))
      refine wp_icmp_ne dX8_readStrong_15 rfl (fun c15 => ?_) (fun c15 => absurd c15 (nI_m1 (by omega)))
      exact wp_aload_n dX8_readStrong_23 rfl rfl (wp_iv1 dX8_readStrong_24 k7_62 q_X7_step (by decide) (xsh hX sh_3) (by decide) (Nat.le_of_ble_eq_true rfl) g2 (wp_iconst (v := nI 1) dX8_readStrong_27 rfl (wb_ret dX8_readStrong_28 rfl rfl ⟨rfl, rfl⟩)))
    · refine ⟨fun e he => (by cases he), fun p' v' he => ?_⟩
      cases he
      obtain ⟨v1, v2, v3, v4, v5⟩ := hV
      exact ⟨rfl, F3.i hF (by omega), t2, ⟨F3.i v1.1 (by omega), v1.2⟩, ⟨F3.i v2.1 (by omega), v2.2.1, fun i hi => F3.i (v2.2.2.1 i hi) (by omega), v2.2.2.2⟩, ⟨F3.i v3.1 (by omega), v3.2.1, fun i hi => F3.i (v3.2.2.1 i hi) (by omega), v3.2.2.2⟩, f2.i (xI_same _ _ _ _) (by omega), hk4⟩
theorem c_rule0 {a b c n p : Nat} {t : Nat → Nat} {v : xTg} (d : Nat) (htg : xTgC a b c) {S : xS} (hX : XC S) (hT : xTx S n t) (hC : xTC S n t p) (hV : xTgV a b c S v) (hF : S.2.1 3 5 = nI 0) : ∃ b' S', xcall false (d + 3) j_X8_readRule [.ref a, .int (nI 0), .ref 3] S (some (.int (xB b'))) S' ∧ xFl (fun i k => (i = a ∨ i = b ∨ i = c) ∨ (i = 3 ∧ 2 ≤ k)) S S' ∧ xRO (xTgV a b c) n t S' b' (xtrule t n 0 p v) := by
  obtain ⟨ha, hb, hc, ra, rc⟩ := htg.sh hX
  obtain ⟨b', S', g, h1, h2⟩ := c_readVowels d htg hX hT hC hV hF
  refine ⟨b', S', ?_, h1, h2⟩
  refine xcall_intro (ls := [.ref a, .int (nI 0), .ref 3]) q_X8_readRule (by decide) rfl (Nat.le_of_ble_eq_true rfl) rfl ?_
  exact wp_iload_n dX8_readRule_0 rfl (wp_table_in dX8_readRule_1 (by decide) rfl rfl (wp_aload_n dX8_readRule_28 rfl rfl (wp_aload_n dX8_readRule_29 rfl rfl (wp_iv2 dX8_readRule_30 k7_32 q_X8_readVowels (by decide) ha (by decide) (Nat.le_of_ble_eq_true rfl) g (wb_ret dX8_readRule_33 rfl rfl ⟨rfl, rfl⟩)))))
theorem c_rule3 {a b c n p : Nat} {t : Nat → Nat} {v : xTg} (d : Nat) (htg : xTgC a b c) {S : xS} (hX : XC S) (hT : xTx S n t) (hC : xTC S n t p) (hV : xTgV a b c S v) (hF : S.2.1 3 5 = nI 0) : ∃ b' S', xcall false (d + 4) j_X8_readRule [.ref a, .int (nI 3), .ref 3] S (some (.int (xB b'))) S' ∧ xFl (fun i k => (i = a ∨ i = b ∨ i = c) ∨ (i = 3 ∧ 2 ≤ k)) S S' ∧ xRO (xTgV a b c) n t S' b' (xtrule t n 3 p v) := by
  obtain ⟨ha, hb, hc, ra, rc⟩ := htg.sh hX
  obtain ⟨b', S', g, h1, h2⟩ := c_readStrong d htg hX hT hC hV hF
  refine ⟨b', S', ?_, h1, h2⟩
  refine xcall_intro (ls := [.ref a, .int (nI 3), .ref 3]) q_X8_readRule (by decide) rfl (Nat.le_of_ble_eq_true rfl) rfl ?_
  exact wp_iload_n dX8_readRule_0 rfl (wp_table_out dX8_readRule_1 (by decide) rfl (wp_aload_n dX8_readRule_88 rfl rfl (wp_aload_n dX8_readRule_89 rfl rfl (wp_iv2 dX8_readRule_90 k7_40 q_X8_readStrong (by decide) ha (by decide) (Nat.le_of_ble_eq_true rfl) g (wb_ret dX8_readRule_93 rfl rfl ⟨rfl, rfl⟩)))))
theorem c_rule1 {a b c n p : Nat} {t : Nat → Nat} {v : xTg} (d : Nat) (htg : xTgC a b c) {S : xS} (hX : XC S) (hT : xTx S n t) (hC : xTC S n t p) (hV : xTgV a b c S v) (hF : S.2.1 3 5 = nI 0) : ∃ b' S', xcall false (d + 3) j_X8_readRule [.ref a, .int (nI 1), .ref 3] S (some (.int (xB b'))) S' ∧ xFl (fun i k => (i = a ∨ i = b ∨ i = c) ∨ (i = 3 ∧ 2 ≤ k)) S S' ∧ xRO (xTgV a b c) n t S' b' (xtrule t n 1 p v) := by
  have htg' := htg
  unfold xTgC at htg'
  obtain ⟨ha, hb, hc, ra, rc⟩ := htg.sh hX
  have hC0 := hC
  have hT0 := hT
  obtain ⟨hp, h2, h3, h4⟩ := hC
  have b4 := xtk_b t n p
  have hab := xta_b t hp
  obtain ⟨hr, hn, hle, hbb⟩ := hT
  obtain ⟨k, S1, g1, f1, q1, q2⟩ := c_readParts (b := b) (lo := 2) (hi := 2) d (mx := 12) (by decide) ⟨by omega, by omega⟩ (by decide) (by decide) hX hb hT0 hC0
  have X1 := f1.XC hX
  have F2 : xFl (fun i k => i = b ∨ (i = a ∧ k = 2) ∨ (i = 3 ∧ 2 ≤ k)) S (xSI S1 a 2 (nI k)) := (f1.mono (fun i k h => by omega)).SI (Or.inr (Or.inl ⟨rfl, rfl⟩))
  obtain ⟨ha1, hb1, hc1, ra1, rc1⟩ := htg.sh X1
  have ER : xtrule t n 1 p v = match xparts t n 2 2 12 (12 + 1) p [] with
    | .error e => .error e
    | .ok q => .ok (q.1, (v.1, q.2, v.2.2)) := by
    unfold xtrule
    rw [if_neg (by decide), if_pos rfl]
  rw [ER]
  cases hx : xparts t n 2 2 12 (12 + 1) p [] with
  | error e =>
    obtain ⟨rfl, e1, e2⟩ := q1 e hx
    refine ⟨false, xSI S1 a 2 (nI 0), ?_, F2.mono (fun i k h => by omega), fun e he => (by cases he; exact ⟨rfl, xi e1 (Or.inl (by omega)), xi e2 (Or.inl (by omega))⟩), fun p' v' he => (by cases he)⟩
    refine xcall_intro (ls := [.ref a, .int (nI 1), .ref 3]) q_X8_readRule (by decide) rfl (Nat.le_of_ble_eq_true rfl) rfl ?_
    refine wp_iload_n dX8_readRule_0 rfl (wp_table_in dX8_readRule_1 (by decide) rfl rfl (wp_aload_n dX8_readRule_34 rfl rfl (wp_aload_n dX8_readRule_35 rfl rfl (wp_aload_n dX8_readRule_36 rfl rfl (g7_16 dX8_readRule_37 (by first | exact ha | exact (f1.sh ha)) ra (wp_iconst (v := nI 2) dX8_readRule_40 rfl (wp_iconst (v := nI 2) dX8_readRule_41 rfl (wp_is4 dX8_readRule_42 k7_36 q_X8_readParts (by decide) (Nat.le_of_ble_eq_true rfl) g1 (p7_23 dX8_readRule_45 (by first | exact ha | exact (f1.sh ha)) (wp_aload_n dX8_readRule_48 rfl rfl (gv7_23 dX8_readRule_49 (by first | exact ha | exact (f1.sh ha)) (xI_same _ _ _ _) ?_)))))))))))
    refine wn_if_le dX8_readRule_52 rfl (by omega) (fun c52 => ?_) (fun c52 => absurd c52 (by omega))
    exact wp_iconst (v := nI 0) dX8_readRule_59 rfl (wb_ret dX8_readRule_60 rfl rfl ⟨rfl, rfl⟩)
  | ok q =>
    obtain ⟨p', l'⟩ := q
    obtain ⟨rfl, e0, e1, e2, e3, e4⟩ := q2 p' l' hx
    have hin := xparts_in (by decide) (by decide) _ _ _ p' l' hx (fun x hx => by cases hx)
    refine ⟨true, xSI S1 a 2 (nI l'.length), ?_, F2.mono (fun i k h => by omega), fun e he => (by cases he), fun p2 v2 he => ?_⟩
    · refine xcall_intro (ls := [.ref a, .int (nI 1), .ref 3]) q_X8_readRule (by decide) rfl (Nat.le_of_ble_eq_true rfl) rfl ?_
      refine wp_iload_n dX8_readRule_0 rfl (wp_table_in dX8_readRule_1 (by decide) rfl rfl (wp_aload_n dX8_readRule_34 rfl rfl (wp_aload_n dX8_readRule_35 rfl rfl (wp_aload_n dX8_readRule_36 rfl rfl (g7_16 dX8_readRule_37 (by first | exact ha | exact (f1.sh ha)) ra (wp_iconst (v := nI 2) dX8_readRule_40 rfl (wp_iconst (v := nI 2) dX8_readRule_41 rfl (wp_is4 dX8_readRule_42 k7_36 q_X8_readParts (by decide) (Nat.le_of_ble_eq_true rfl) g1 (p7_23 dX8_readRule_45 (by first | exact ha | exact (f1.sh ha)) (wp_aload_n dX8_readRule_48 rfl rfl (gv7_23 dX8_readRule_49 (by first | exact ha | exact (f1.sh ha)) (xI_same _ _ _ _) ?_)))))))))))
      refine wn_if_le dX8_readRule_52 rfl (by omega) (fun c52 => absurd c52 (by omega)) (fun c52 => ?_)
      exact wp_iconst (v := nI 1) dX8_readRule_55 rfl (wp_goto dX8_readRule_56 rfl (wb_ret dX8_readRule_60 rfl rfl ⟨rfl, rfl⟩))
    · cases he
      obtain ⟨v1, v2, v3, v4, v5⟩ := hV
      exact ⟨rfl, xi (e3.trans hF) (Or.inl (by omega)), ⟨e4.1, xi e4.2.1 (Or.inl (by omega)), xi e4.2.2.1 (Or.inl (by omega)), xi e4.2.2.2 (Or.inl (by omega))⟩, ⟨F2.i v1.1 (by omega), v1.2⟩, ⟨xI_same _ _ _ _, e1, fun i hi => xi (e2 i hi) (Or.inl (by omega)), hin⟩, ⟨F2.i v3.1 (by omega), v3.2.1, fun i hi => F2.i (v3.2.2.1 i hi) (by omega), v3.2.2.2⟩, F2.i v4 (by omega), v5⟩
theorem c_rule2 {a b c n p : Nat} {t : Nat → Nat} {v : xTg} (d : Nat) (htg : xTgC a b c) {S : xS} (hX : XC S) (hT : xTx S n t) (hC : xTC S n t p) (hV : xTgV a b c S v) (hF : S.2.1 3 5 = nI 0) : ∃ b' S', xcall false (d + 3) j_X8_readRule [.ref a, .int (nI 2), .ref 3] S (some (.int (xB b'))) S' ∧ xFl (fun i k => (i = a ∨ i = b ∨ i = c) ∨ (i = 3 ∧ 2 ≤ k)) S S' ∧ xRO (xTgV a b c) n t S' b' (xtrule t n 2 p v) := by
  have htg' := htg
  unfold xTgC at htg'
  obtain ⟨ha, hb, hc, ra, rc⟩ := htg.sh hX
  have hC0 := hC
  have hT0 := hT
  obtain ⟨hp, h2, h3, h4⟩ := hC
  have b4 := xtk_b t n p
  have hab := xta_b t hp
  obtain ⟨hr, hn, hle, hbb⟩ := hT
  obtain ⟨k, S1, g1, f1, q1, q2⟩ := c_readParts (b := c) (lo := 1) (hi := 3) d (mx := 6) (by decide) ⟨by omega, by omega⟩ (by decide) (by decide) hX hc hT0 hC0
  have X1 := f1.XC hX
  have F2 : xFl (fun i k => i = c ∨ (i = a ∧ k = 4) ∨ (i = 3 ∧ 2 ≤ k)) S (xSI S1 a 4 (nI k)) := (f1.mono (fun i k h => by omega)).SI (Or.inr (Or.inl ⟨rfl, rfl⟩))
  obtain ⟨ha1, hb1, hc1, ra1, rc1⟩ := htg.sh X1
  have ER : xtrule t n 2 p v = match xparts t n 1 3 6 (6 + 1) p [] with
    | .error e => .error e
    | .ok q => .ok (q.1, (v.1, v.2.1, q.2, v.2.2.2)) := by
    unfold xtrule
    rw [if_neg (by decide), if_neg (by decide), if_pos rfl]
  rw [ER]
  cases hx : xparts t n 1 3 6 (6 + 1) p [] with
  | error e =>
    obtain ⟨rfl, e1, e2⟩ := q1 e hx
    refine ⟨false, xSI S1 a 4 (nI 0), ?_, F2.mono (fun i k h => by omega), fun e he => (by cases he; exact ⟨rfl, xi e1 (Or.inl (by omega)), xi e2 (Or.inl (by omega))⟩), fun p' v' he => (by cases he)⟩
    refine xcall_intro (ls := [.ref a, .int (nI 2), .ref 3]) q_X8_readRule (by decide) rfl (Nat.le_of_ble_eq_true rfl) rfl ?_
    refine wp_iload_n dX8_readRule_0 rfl (wp_table_in dX8_readRule_1 (by decide) rfl rfl (wp_aload_n dX8_readRule_61 rfl rfl (wp_aload_n dX8_readRule_62 rfl rfl (wp_aload_n dX8_readRule_63 rfl rfl (g7_20 dX8_readRule_64 (by first | exact ha | exact (f1.sh ha)) rc (wp_iconst (v := nI 1) dX8_readRule_67 rfl (wp_iconst (v := nI 3) dX8_readRule_68 rfl (wp_is4 dX8_readRule_69 k7_36 q_X8_readParts (by decide) (Nat.le_of_ble_eq_true rfl) g1 (p7_26 dX8_readRule_72 (by first | exact ha | exact (f1.sh ha)) (wp_aload_n dX8_readRule_75 rfl rfl (gv7_26 dX8_readRule_76 (by first | exact ha | exact (f1.sh ha)) (xI_same _ _ _ _) ?_)))))))))))
    refine wn_if_le dX8_readRule_79 rfl (by omega) (fun c79 => ?_) (fun c79 => absurd c79 (by omega))
    exact wp_iconst (v := nI 0) dX8_readRule_86 rfl (wb_ret dX8_readRule_87 rfl rfl ⟨rfl, rfl⟩)
  | ok q =>
    obtain ⟨p', l'⟩ := q
    obtain ⟨rfl, e0, e1, e2, e3, e4⟩ := q2 p' l' hx
    have hin := xparts_in (by decide) (by decide) _ _ _ p' l' hx (fun x hx => by cases hx)
    refine ⟨true, xSI S1 a 4 (nI l'.length), ?_, F2.mono (fun i k h => by omega), fun e he => (by cases he), fun p2 v2 he => ?_⟩
    · refine xcall_intro (ls := [.ref a, .int (nI 2), .ref 3]) q_X8_readRule (by decide) rfl (Nat.le_of_ble_eq_true rfl) rfl ?_
      refine wp_iload_n dX8_readRule_0 rfl (wp_table_in dX8_readRule_1 (by decide) rfl rfl (wp_aload_n dX8_readRule_61 rfl rfl (wp_aload_n dX8_readRule_62 rfl rfl (wp_aload_n dX8_readRule_63 rfl rfl (g7_20 dX8_readRule_64 (by first | exact ha | exact (f1.sh ha)) rc (wp_iconst (v := nI 1) dX8_readRule_67 rfl (wp_iconst (v := nI 3) dX8_readRule_68 rfl (wp_is4 dX8_readRule_69 k7_36 q_X8_readParts (by decide) (Nat.le_of_ble_eq_true rfl) g1 (p7_26 dX8_readRule_72 (by first | exact ha | exact (f1.sh ha)) (wp_aload_n dX8_readRule_75 rfl rfl (gv7_26 dX8_readRule_76 (by first | exact ha | exact (f1.sh ha)) (xI_same _ _ _ _) ?_)))))))))))
      refine wn_if_le dX8_readRule_79 rfl (by omega) (fun c79 => absurd c79 (by omega)) (fun c79 => ?_)
      exact wp_iconst (v := nI 1) dX8_readRule_82 rfl (wp_goto dX8_readRule_83 rfl (wb_ret dX8_readRule_87 rfl rfl ⟨rfl, rfl⟩))
    · cases he
      obtain ⟨v1, v2, v3, v4, v5⟩ := hV
      exact ⟨rfl, xi (e3.trans hF) (Or.inl (by omega)), ⟨e4.1, xi e4.2.1 (Or.inl (by omega)), xi e4.2.2.1 (Or.inl (by omega)), xi e4.2.2.2 (Or.inl (by omega))⟩, ⟨F2.i v1.1 (by omega), v1.2⟩, ⟨F2.i v2.1 (by omega), v2.2.1, fun i hi => F2.i (v2.2.2.1 i hi) (by omega), v2.2.2.2⟩, ⟨xI_same _ _ _ _, e1, fun i hi => xi (e2 i hi) (Or.inl (by omega)), hin⟩, F2.i v4 (by omega), v5⟩
/-- THE TONGUE's text, read into the spare one -/
theorem c_readTongue {a b c n : Nat} {t : Nat → Nat} (d : Nat) (htg : xTgC a b c) {S : xS} (hX : XC S) (hT : xTx S n t) (hC : xTC S n t 0) (hF : S.2.1 3 5 = nI 0) : ∃ k S', xcall false (d + 5) j_X5_read [.ref a, .ref 3, .retAddr 0, .int (nI 4)] S (some (.int k)) S' ∧ xFl (fun i k => (i = a ∨ i = b ∨ i = c) ∨ (i = 3 ∧ 2 ≤ k)) S S' ∧ xRT2 (xTgV a b c) S' k (xtxt t n [xw_vowels, xw_joined, xw_mute, xw_strong] (xtrule t n) 5 0 0 0 (17842449, [], [], 0)) := by
  have htg' := htg
  unfold xTgC at htg'
  obtain ⟨S0, g0, f0, v0⟩ := c_tgReset htg (d + 4) hX
  refine c_read (PV := fun i k => i = a ∨ i = b ∨ i = c) (VP := xTgV a b c) (oo := 7) (nn := 6) (jr := j_X8_readRule) (js := j_X8_reset) (most := 4) (d + 1) (fun k => ⟨by omega, by omega⟩) (fun S S' P v h hf hn => xTgV.fr S S' P v h hf hn) (Or.inl rfl) rfl (by decide) rfl (by decide) (fun p => xpick0 n t p) rfl rfl ?_ hX (htg.sh hX).1 hT hC hF g0 f0 v0
  intro r p v S hr hX hsa hT hC hV hF
  rcases (show r = 0 ∨ r = 1 ∨ r = 2 ∨ r = 3 by omega) with rfl | rfl | rfl | rfl
  · exact c_rule0 (d + 1) htg hX hT hC hV hF
  · exact c_rule1 (d + 1) htg hX hT hC hV hF
  · exact c_rule2 (d + 1) htg hX hT hC hV hF
  · exact c_rule3 d htg hX hT hC hV hF
