/-! A TEXT OF RULES as numbers; THE TONGUE of the class reads one -/
def xfh (t : Nat → Nat) (n p : Nat) : Nat × Nat := (if xtk t n p = 4 then 1 else 2, xts t n p)
def xtz (t : Nat → Nat) (n p : Nat) : Nat := xta t n p - xts t n p
def xparts (t : Nat → Nat) (n lo hi mx : Nat) : Nat → Nat → List Nat → Except (Nat × Nat) (Nat × List Nat)
  | 0, _, _ => .error (0, 0)
  | f + 1, p, l => if xtk t n p = 1 then (if xtz t n p < lo ∨ hi < xtz t n p ∨ l.length = mx then .error (3, xts t n p) else xparts t n lo hi mx f (xta t n p) (l ++ [xwd t (xts t n p) (xtz t n p)])) else if l = [] then .error (xfh t n p) else .ok (p, l)
def xvow (t : Nat → Nat) (s : Nat) : Nat → Nat
  | 0 => 0
  | k + 1 => xvow t s k ||| 2 ^ (t (s + k) - 97)
theorem xvow_lt {t : Nat → Nat} {s : Nat} : ∀ k, (∀ i, i < k → xsm (t (s + i)) = true) → xvow t s k < 2 ^ 26
  | 0, _ => by unfold xvow; decide
  | k + 1, h => by
    have h1 := xvow_lt k (fun i hi => h i (by omega))
    have h2 := xsm_b (h k (by omega))
    unfold xvow
    exact Nat.or_lt_two_pow h1 (Nat.pow_lt_pow_right (by decide) (by omega))
theorem xga {l : List Nat} {x i : Nat} (h : i < l.length) : (l ++ [x]).getD i 0 = l.getD i 0 := by rw [List.getD_eq_getElem?_getD, List.getD_eq_getElem?_getD, List.getElem?_append_left h]
theorem xgb {l : List Nat} {x : Nat} : (l ++ [x]).getD l.length 0 = x := by rw [List.getD_eq_getElem?_getD, List.getElem?_append_right (Nat.le_refl _), Nat.sub_self]; rfl
theorem xshor {a c : Nat} (ha : a < 2 ^ 24) (hc : c < 256) : (nI a <<< (nI 8 &&& 31)) ||| nI c = nI (a * 2 ^ 8 + c) := by
  rw [xshl (by decide) (by omega), Nat.mul_comm a, fa_or_sum (k := 8) a hc]
theorem xsh1 {k : Nat} (hk : k < 31) : nI 1 <<< (nI k &&& 31) = nI (2 ^ k) := by
  rw [xshl (by omega) (by have : 2 ^ k ≤ 2 ^ 30 := Nat.pow_le_pow_right (by decide) (by omega); omega), Nat.one_mul]

theorem packed_loop {S : xS} {x nx s z : Nat} {t : Nat → Nat} (d : Nat) (hx : S.1[x]? = some (21, nx)) (hnx : nx < 1000) (hz : z ≤ 3) (hsz : s + z ≤ nx) (hb : ∀ k, k < z → t (s + k) < 256 ∧ S.2.1 x (s + k) = nI (t (s + k))) : ∀ (j m : Nat), m + j = z → Wp false d 7 cX8_packed (some .int) false 5 [.ref x, .int (nI s), .int (nI z), .int (nI (xwd t s m)), .int (nI (s + m))] [] S (fun r S' => r = some (.int (nI (xwd t s z))) ∧ S' = S) := by
  intro j
  induction j with
  | zero =>
    intro m hm
    have : m = z := by omega
    subst this
    refine wp_iload dX8_packed_5 rfl (wp_iload_n dX8_packed_7 rfl (wp_iload_n dX8_packed_8 rfl (wv_iadd dX8_packed_9 (nI_add _ _) ?_)))
    refine wn_icmp_ge dX8_packed_10 rfl (by omega) (by omega) (fun c10 => ?_) (fun c10 => absurd c10 (by omega))
    exact wp_iload_n dX8_packed_36 rfl (wp_ireturn dX8_packed_37 rfl rfl ⟨rfl, rfl⟩)
  | succ j ih =>
    intro m hm
    obtain ⟨h1, h2⟩ := hb m (by omega)
    have hw : xwd t s m < 2 ^ 24 := by
      have e := xwd_lt t s m (fun i hi => (hb i (by omega)).1)
      have : 256 ^ m ≤ 256 ^ 2 := Nat.pow_le_pow_right (by decide) (by omega)
      omega
    refine wp_iload dX8_packed_5 rfl (wp_iload_n dX8_packed_7 rfl (wp_iload_n dX8_packed_8 rfl (wv_iadd dX8_packed_9 (nI_add _ _) ?_)))
    refine wn_icmp_ge dX8_packed_10 rfl (by omega) (by omega) (fun c10 => absurd c10 (by omega)) (fun c10 => ?_)
    refine wp_iload dX8_packed_13 rfl (wp_aload_n dX8_packed_15 rfl rfl (wv_alen dX8_packed_16 hx ⟨by decide, by decide⟩ rfl ?_))
    refine wn_icmp_ge dX8_packed_17 rfl (by omega) (by omega) (fun c17 => absurd c17 (by omega)) (fun c17 => ?_)
    exact wp_iload_n dX8_packed_20 rfl (wp_bipush (v := nI 8) dX8_packed_21 rfl (wp_ishl dX8_packed_23 (wp_aload_n dX8_packed_24 rfl rfl (wp_iload dX8_packed_25 rfl (wn_caload dX8_packed_27 hx rfl (by omega) (by omega) h2 (wv_ior dX8_packed_28 (xshor hw h1) (wp_istore_n dX8_packed_29 ⟨Nat.le_of_ble_eq_true rfl, Or.inr rfl⟩ rfl (wp_iinc dX8_packed_30 rfl (nI_1 _) ⟨Nat.le_of_ble_eq_true rfl, Or.inr rfl⟩ rfl (wp_goto dX8_packed_33 rfl (ih (m + 1) (by omega)))))))))))
theorem c_packed {S : xS} {x nx s z : Nat} {t : Nat → Nat} (d : Nat) (hx : S.1[x]? = some (21, nx)) (hnx : nx < 1000) (hz : z ≤ 3) (hsz : s + z ≤ nx) (hb : ∀ k, k < z → t (s + k) < 256 ∧ S.2.1 x (s + k) = nI (t (s + k))) : xcall false d j_X8_packed [.ref x, .int (nI s), .int (nI z)] S (some (.int (nI (xwd t s z)))) S := by
  refine xcall_intro (ls := [.ref x, .int (nI s), .int (nI z), .float 0, .float 0]) q_X8_packed (by decide) rfl (Nat.le_of_ble_eq_true rfl) rfl ?_
  exact wp_iconst (v := nI 0) dX8_packed_0 rfl (wp_istore_n dX8_packed_1 ⟨Nat.le_of_ble_eq_true rfl, Or.inr rfl⟩ rfl (wp_iload_n dX8_packed_2 rfl (wp_istore dX8_packed_3 ⟨Nat.le_of_ble_eq_true rfl, Or.inr rfl⟩ rfl (packed_loop d hx hnx hz hsz hb z 0 (by omega)))))
/-- what stands behind a reading of words into the row b -/
def xPO (b mx n : Nat) (t : Nat → Nat) (S S' : xS) (r : Nat) (X : Except (Nat × Nat) (Nat × List Nat)) : Prop :=
  (∀ e, X = .error e → r = 0 ∧ S'.2.1 3 5 = nI e.1 ∧ S'.2.1 3 2 = nI e.2) ∧
  (∀ p' l', X = .ok (p', l') → r = l'.length ∧ 0 < l'.length ∧ l'.length ≤ mx ∧ (∀ i, i < l'.length → S'.2.1 b i = nI (l'.getD i 0)) ∧ S'.2.1 3 5 = S.2.1 3 5 ∧ xTC S' n t p')
theorem parts_loop {b mx n lo hi : Nat} {t : Nat → Nat} (d : Nat) (hmx : mx < 100) (hb3 : b ≠ 3 ∧ b ≠ 2) (hhi : hi ≤ 3) (hlo : lo ≤ 3) : ∀ (j : Nat) (p : Nat) (l : List Nat) (S : xS), l.length + j = mx → XC S → S.1[b]? = some (20, mx) → xTx S n t → xTC S n t p → (∀ i, i < l.length → S.2.1 b i = nI (l.getD i 0)) → Wp false (d + 2) 7 cX8_readParts (some .int) false 3 [.ref 3, .ref b, .int (nI lo), .int (nI hi), .int (nI l.length)] [] S (fun r S' => ∃ k, r = some (.int (nI k)) ∧ xFl (fun i k => i = b ∨ (i = 3 ∧ 2 ≤ k)) S S' ∧ xPO b mx n t S S' k (xparts t n lo hi mx (j + 1) p l)) := by
  intro j
  induction j with
  | zero => ?_
  | succ j ih => ?_
  all_goals
    intro p l S hl hX hsb hT hC hrow
    have hC0 := hC
    obtain ⟨hp, h2, h3, h4⟩ := hC
    have b4 := xtk_b t n p
    have hab := xta_b t hp
    have hle := hT.2.2.1
    have gs := c_size (d + 1) hX h2 h3 hab.1
    by_cases h1 : xtk t n p = 1
  · rw [show xparts t n lo hi mx (0 + 1) p l = .error (3, xts t n p) by unfold xparts; rw [if_pos h1, if_pos (Or.inr (Or.inr (by omega)))]]
    have t54 : Wp false (d + 2) 7 cX8_readParts (some .int) false 54 [.ref 3, .ref b, .int (nI lo), .int (nI hi), .int (nI l.length)] [] S (fun r S' => ∃ k, r = some (.int (nI k)) ∧ xFl (fun i k => i = b ∨ (i = 3 ∧ 2 ≤ k)) S S' ∧ xPO b mx n t S S' k (.error (3, xts t n p))) := by
      exact wp_aload_n dX8_readParts_54 rfl rfl (wp_iconst (v := nI 3) dX8_readParts_55 rfl (wp_iv2 dX8_readParts_56 k7_75 q_X7_refuse (by decide) (xsh hX sh_3) (by decide) (Nat.le_of_ble_eq_true rfl) (c_refuse 3 (d + 1) hX) (wp_pop dX8_readParts_59 rfl (wp_iconst (v := nI 0) dX8_readParts_60 rfl (wp_ireturn dX8_readParts_61 rfl rfl ⟨0, rfl, (xFl.rf S).SI (a := 3) (k := 5) (by omega), fun e he => (by cases he; exact ⟨rfl, xI_same _ _ _ _, xi h2 (Or.inr (by decide))⟩), fun p' l' he => by cases he⟩)))))
    refine wp_iload dX8_readParts_3 rfl (wp_aload_n dX8_readParts_5 rfl rfl (wv_alen dX8_readParts_6 hsb ⟨by decide, by decide⟩ rfl ?_))
    refine wn_icmp_gt dX8_readParts_7 rfl (by omega) (by omega) (fun c7 => absurd c7 (by omega)) (fun c7 => ?_)
    refine wp_aload_n dX8_readParts_10 rfl rfl (gv7_43 dX8_readParts_11 (xsh hX sh_3) h4 (wp_iconst (v := nI 1) dX8_readParts_14 rfl ?_))
    refine wn_icmp_eq dX8_readParts_15 rfl (by omega) (by omega) (fun c15 => ?_) (fun c15 => absurd c15 (by omega))
    refine wp_aload_n dX8_readParts_31 rfl rfl (wp_iv1 dX8_readParts_32 k7_71 q_X7_size (by decide) (xsh hX sh_3) (by decide) (Nat.le_of_ble_eq_true rfl) gs (wp_iload_n dX8_readParts_35 rfl ?_))
    refine wn_icmp_lt dX8_readParts_36 rfl (by omega) (by omega) (fun c36 => ?_) (fun c36 => ?_)
    · exact t54
    · refine wp_aload_n dX8_readParts_39 rfl rfl (wp_iv1 dX8_readParts_40 k7_71 q_X7_size (by decide) (xsh hX sh_3) (by decide) (Nat.le_of_ble_eq_true rfl) gs (wp_iload_n dX8_readParts_43 rfl ?_))
      refine wn_icmp_gt dX8_readParts_44 rfl (by omega) (by omega) (fun c44 => ?_) (fun c44 => ?_)
      · exact t54
      · refine wp_iload dX8_readParts_47 rfl (wp_aload_n dX8_readParts_49 rfl rfl (wv_alen dX8_readParts_50 hsb ⟨by decide, by decide⟩ rfl ?_))
        refine wn_icmp_ne dX8_readParts_51 rfl (by omega) (by omega) (fun c51 => absurd c51 (by omega)) (fun c51 => ?_)
        exact t54
  · have EX : xparts t n lo hi mx (0 + 1) p l = if l = [] then .error (xfh t n p) else .ok (p, l) := by rw [xparts, if_neg h1]
    rw [EX]
    rcases l with _ | ⟨c, l⟩
    · rw [if_pos rfl]
      refine wp_iload dX8_readParts_3 rfl (wp_aload_n dX8_readParts_5 rfl rfl (wv_alen dX8_readParts_6 hsb ⟨by decide, by decide⟩ rfl ?_))
      refine wn_icmp_gt dX8_readParts_7 rfl (by omega) (by omega) (fun c7 => absurd c7 (by omega)) (fun c7 => ?_)
      refine wp_aload_n dX8_readParts_10 rfl rfl (gv7_43 dX8_readParts_11 (xsh hX sh_3) h4 (wp_iconst (v := nI 1) dX8_readParts_14 rfl ?_))
      refine wn_icmp_eq dX8_readParts_15 rfl (by omega) (by omega) (fun c15 => absurd c15 (by omega)) (fun c15 => ?_)
      exact wp_iload dX8_readParts_18 rfl (wp_if_ne dX8_readParts_20 rfl (fun c => absurd rfl c) (fun c20 => (wp_aload_n dX8_readParts_23 rfl rfl (wp_iv1 dX8_readParts_24 k7_48 q_X7_refuseHere (by decide) (xsh hX sh_3) (by decide) (Nat.le_of_ble_eq_true rfl) (c_refuseHere d hX h4 b4) (wp_pop dX8_readParts_27 rfl (wp_iload dX8_readParts_28 rfl (wp_ireturn dX8_readParts_30 rfl rfl ⟨0, rfl, (xFl.rf S).SI (a := 3) (k := 5) (by omega), fun e he => (by cases he; exact ⟨rfl, xI_same _ _ _ _, xi h2 (Or.inr (by decide))⟩), fun p' l' he => by cases he⟩)))))))
    · rw [if_neg (by simp)]
      refine wp_iload dX8_readParts_3 rfl (wp_aload_n dX8_readParts_5 rfl rfl (wv_alen dX8_readParts_6 hsb ⟨by decide, by decide⟩ rfl ?_))
      refine wn_icmp_gt dX8_readParts_7 rfl (by omega) (by omega) (fun c7 => absurd c7 (by omega)) (fun c7 => ?_)
      refine wp_aload_n dX8_readParts_10 rfl rfl (gv7_43 dX8_readParts_11 (xsh hX sh_3) h4 (wp_iconst (v := nI 1) dX8_readParts_14 rfl ?_))
      refine wn_icmp_eq dX8_readParts_15 rfl (by omega) (by omega) (fun c15 => absurd c15 (by omega)) (fun c15 => ?_)
      refine wp_iload dX8_readParts_18 rfl ?_
      refine wn_if_ne dX8_readParts_20 rfl (by omega) (fun c20 => ?_) (fun c20 => absurd c20 (by simp))
      exact wp_iload dX8_readParts_28 rfl (wp_ireturn dX8_readParts_30 rfl rfl ⟨_, rfl, xFl.rf S, fun e he => (by cases he), fun p' l' he => by cases he; exact ⟨rfl, by simp, by omega, hrow, rfl, hC0⟩⟩)
  · by_cases hbad : xtz t n p < lo ∨ hi < xtz t n p
    · rw [show xparts t n lo hi mx (j + 1 + 1) p l = .error (3, xts t n p) by rw [xparts, if_pos h1, if_pos (by omega)]]
      have t54 : Wp false (d + 2) 7 cX8_readParts (some .int) false 54 [.ref 3, .ref b, .int (nI lo), .int (nI hi), .int (nI l.length)] [] S (fun r S' => ∃ k, r = some (.int (nI k)) ∧ xFl (fun i k => i = b ∨ (i = 3 ∧ 2 ≤ k)) S S' ∧ xPO b mx n t S S' k (.error (3, xts t n p))) := by
        exact wp_aload_n dX8_readParts_54 rfl rfl (wp_iconst (v := nI 3) dX8_readParts_55 rfl (wp_iv2 dX8_readParts_56 k7_75 q_X7_refuse (by decide) (xsh hX sh_3) (by decide) (Nat.le_of_ble_eq_true rfl) (c_refuse 3 (d + 1) hX) (wp_pop dX8_readParts_59 rfl (wp_iconst (v := nI 0) dX8_readParts_60 rfl (wp_ireturn dX8_readParts_61 rfl rfl ⟨0, rfl, (xFl.rf S).SI (a := 3) (k := 5) (by omega), fun e he => (by cases he; exact ⟨rfl, xI_same _ _ _ _, xi h2 (Or.inr (by decide))⟩), fun p' l' he => by cases he⟩)))))
      have hz : xtz t n p = xta t n p - xts t n p := rfl
      refine wp_iload dX8_readParts_3 rfl (wp_aload_n dX8_readParts_5 rfl rfl (wv_alen dX8_readParts_6 hsb ⟨by decide, by decide⟩ rfl ?_))
      refine wn_icmp_gt dX8_readParts_7 rfl (by omega) (by omega) (fun c7 => absurd c7 (by omega)) (fun c7 => ?_)
      refine wp_aload_n dX8_readParts_10 rfl rfl (gv7_43 dX8_readParts_11 (xsh hX sh_3) h4 (wp_iconst (v := nI 1) dX8_readParts_14 rfl ?_))
      refine wn_icmp_eq dX8_readParts_15 rfl (by omega) (by omega) (fun c15 => ?_) (fun c15 => absurd c15 (by omega))
      refine wp_aload_n dX8_readParts_31 rfl rfl (wp_iv1 dX8_readParts_32 k7_71 q_X7_size (by decide) (xsh hX sh_3) (by decide) (Nat.le_of_ble_eq_true rfl) gs (wp_iload_n dX8_readParts_35 rfl ?_))
      refine wn_icmp_lt dX8_readParts_36 rfl (by omega) (by omega) (fun c36 => ?_) (fun c36 => ?_)
      · exact t54
      · refine wp_aload_n dX8_readParts_39 rfl rfl (wp_iv1 dX8_readParts_40 k7_71 q_X7_size (by decide) (xsh hX sh_3) (by decide) (Nat.le_of_ble_eq_true rfl) gs (wp_iload_n dX8_readParts_43 rfl ?_))
        refine wn_icmp_gt dX8_readParts_44 rfl (by omega) (by omega) (fun c44 => ?_) (fun c44 => absurd c44 (by omega))
        exact t54
    · have hz : xtz t n p = xta t n p - xts t n p := rfl
      have hx1 := xtk1 h1
      rw [show xparts t n lo hi mx (j + 1 + 1) p l = xparts t n lo hi mx (j + 1) (xta t n p) (l ++ [xwd t (xts t n p) (xtz t n p)]) by rw [xparts, if_pos h1, if_neg (by omega)]]
      obtain ⟨hr, hn, hle2, hbb⟩ := hT
      have gp := c_packed (S := S) (x := 2) (nx := 260) (s := xts t n p) (z := xtz t n p) (t := t) (d + 1) (xsh hX sh_2) (by decide) (by omega) (by omega) (fun k hk => hbb (xts t n p + k) (by omega))
      have F1 : xFl (fun i k => i = b ∨ (i = 3 ∧ 2 ≤ k)) S (xSI S b l.length (nI (xwd t (xts t n p) (xtz t n p)))) := (xFl.rf S).SI (Or.inl rfl)
      have X1 := F1.XC hX
      obtain ⟨S2, g2, f2, t2⟩ := c_step (d) (S := xSI S b l.length (nI (xwd t (xts t n p) (xtz t n p)))) X1 (xTx.fr ⟨hr, hn, hle2, hbb⟩ F1 (by omega) (fun k => by omega)) (xi h3 (Or.inl (fun e => hb3.1 e.symm))) hab.2.1
      have F2 : xFl (fun i k => i = b ∨ (i = 3 ∧ 2 ≤ k)) S S2 := F1.tt (f2.mono (fun a k h => by omega))
      have X2 := F2.XC hX
      refine wp_iload dX8_readParts_3 rfl (wp_aload_n dX8_readParts_5 rfl rfl (wv_alen dX8_readParts_6 hsb ⟨by decide, by decide⟩ rfl ?_))
      refine wn_icmp_gt dX8_readParts_7 rfl (by omega) (by omega) (fun c7 => absurd c7 (by omega)) (fun c7 => ?_)
      refine wp_aload_n dX8_readParts_10 rfl rfl (gv7_43 dX8_readParts_11 (xsh hX sh_3) h4 (wp_iconst (v := nI 1) dX8_readParts_14 rfl ?_))
      refine wn_icmp_eq dX8_readParts_15 rfl (by omega) (by omega) (fun c15 => ?_) (fun c15 => absurd c15 (by omega))
      refine wp_aload_n dX8_readParts_31 rfl rfl (wp_iv1 dX8_readParts_32 k7_71 q_X7_size (by decide) (xsh hX sh_3) (by decide) (Nat.le_of_ble_eq_true rfl) gs (wp_iload_n dX8_readParts_35 rfl ?_))
      refine wn_icmp_lt dX8_readParts_36 rfl (by omega) (by omega) (fun c36 => absurd c36 (by omega)) (fun c36 => ?_)
      refine wp_aload_n dX8_readParts_39 rfl rfl (wp_iv1 dX8_readParts_40 k7_71 q_X7_size (by decide) (xsh hX sh_3) (by decide) (Nat.le_of_ble_eq_true rfl) gs (wp_iload_n dX8_readParts_43 rfl ?_))
      refine wn_icmp_gt dX8_readParts_44 rfl (by omega) (by omega) (fun c44 => absurd c44 (by omega)) (fun c44 => ?_)
      refine wp_iload dX8_readParts_47 rfl (wp_aload_n dX8_readParts_49 rfl rfl (wv_alen dX8_readParts_50 hsb ⟨by decide, by decide⟩ rfl ?_))
      refine wn_icmp_ne dX8_readParts_51 rfl (by omega) (by omega) (fun c51 => ?_) (fun c51 => absurd c51 (by omega))
      refine wp_aload_n dX8_readParts_62 rfl rfl (wp_iload dX8_readParts_63 rfl (wp_aload_n dX8_readParts_65 rfl rfl (g7_58 dX8_readParts_66 (xsh hX sh_3) hr (wp_aload_n dX8_readParts_69 rfl rfl (gv7_52 dX8_readParts_70 (xsh hX sh_3) h2 (wp_aload_n dX8_readParts_73 rfl rfl (wp_iv1 dX8_readParts_74 k7_71 q_X7_size (by decide) (xsh hX sh_3) (by decide) (Nat.le_of_ble_eq_true rfl) gs (wp_is3 dX8_readParts_77 k7_79 q_X8_packed (by decide) (Nat.le_of_ble_eq_true rfl) gp (wn_iastore dX8_readParts_80 hsb rfl (by omega) (by omega) (wp_aload_n dX8_readParts_81 rfl rfl (wp_iv1 dX8_readParts_82 k7_62 q_X7_step (by decide) (xsh hX sh_3) (by decide) (Nat.le_of_ble_eq_true rfl) g2 (wp_iinc dX8_readParts_85 rfl (nI_1 _) ⟨Nat.le_of_ble_eq_true rfl, Or.inr rfl⟩ rfl (wp_goto dX8_readParts_88 rfl ?_)))))))))))))
      refine wp_locals (ls' := [.ref 3, .ref b, .int (nI lo), .int (nI hi), .int (nI (l ++ [xwd t (xts t n p) (xtz t n p)]).length)]) (by rw [List.length_append]; rfl) ?_
      refine (ih (xta t n p) (l ++ [xwd t (xts t n p) (xtz t n p)]) S2 (by rw [List.length_append, List.length_singleton]; omega) X2 (F2.sh hsb) (xTx.fr ⟨hr, hn, hle2, hbb⟩ F2 (by omega) (fun k => by omega)) t2 ?_).mono ?_
      · intro i hi
        rw [List.length_append, List.length_singleton] at hi
        rcases Nat.lt_or_ge i l.length with q | q
        · rw [f2.2.2 b i (by omega), xI_ne _ _ (Or.inr (by omega)), hrow i q, xga q]
        · rw [show i = l.length by omega, f2.2.2 b _ (by omega), xI_same, xgb]
      · rintro r S' ⟨k, e1, e2, e3, e4⟩
        refine ⟨k, e1, F2.tt e2, e3, fun p' l' he => ?_⟩
        obtain ⟨q1, q2, q3, q4, q5, q6⟩ := e4 p' l' he
        exact ⟨q1, q2, q3, q4, q5.trans ((f2.2.2 3 5 (by omega)).trans (xI_ne _ _ (Or.inl (fun e => hb3.1 e.symm)))), q6⟩
  · have EX : xparts t n lo hi mx (j + 1 + 1) p l = if l = [] then .error (xfh t n p) else .ok (p, l) := by rw [xparts, if_neg h1]
    rw [EX]
    rcases l with _ | ⟨c, l⟩
    · rw [if_pos rfl]
      refine wp_iload dX8_readParts_3 rfl (wp_aload_n dX8_readParts_5 rfl rfl (wv_alen dX8_readParts_6 hsb ⟨by decide, by decide⟩ rfl ?_))
      refine wn_icmp_gt dX8_readParts_7 rfl (by omega) (by omega) (fun c7 => absurd c7 (by omega)) (fun c7 => ?_)
      refine wp_aload_n dX8_readParts_10 rfl rfl (gv7_43 dX8_readParts_11 (xsh hX sh_3) h4 (wp_iconst (v := nI 1) dX8_readParts_14 rfl ?_))
      refine wn_icmp_eq dX8_readParts_15 rfl (by omega) (by omega) (fun c15 => absurd c15 (by omega)) (fun c15 => ?_)
      exact wp_iload dX8_readParts_18 rfl (wp_if_ne dX8_readParts_20 rfl (fun c => absurd rfl c) (fun c20 => (wp_aload_n dX8_readParts_23 rfl rfl (wp_iv1 dX8_readParts_24 k7_48 q_X7_refuseHere (by decide) (xsh hX sh_3) (by decide) (Nat.le_of_ble_eq_true rfl) (c_refuseHere d hX h4 b4) (wp_pop dX8_readParts_27 rfl (wp_iload dX8_readParts_28 rfl (wp_ireturn dX8_readParts_30 rfl rfl ⟨0, rfl, (xFl.rf S).SI (a := 3) (k := 5) (by omega), fun e he => (by cases he; exact ⟨rfl, xI_same _ _ _ _, xi h2 (Or.inr (by decide))⟩), fun p' l' he => by cases he⟩)))))))
    · rw [if_neg (by simp)]
      refine wp_iload dX8_readParts_3 rfl (wp_aload_n dX8_readParts_5 rfl rfl (wv_alen dX8_readParts_6 hsb ⟨by decide, by decide⟩ rfl ?_))
      refine wn_icmp_gt dX8_readParts_7 rfl (by omega) (by omega) (fun c7 => absurd c7 (by omega)) (fun c7 => ?_)
      refine wp_aload_n dX8_readParts_10 rfl rfl (gv7_43 dX8_readParts_11 (xsh hX sh_3) h4 (wp_iconst (v := nI 1) dX8_readParts_14 rfl ?_))
      refine wn_icmp_eq dX8_readParts_15 rfl (by omega) (by omega) (fun c15 => absurd c15 (by omega)) (fun c15 => ?_)
      refine wp_iload dX8_readParts_18 rfl ?_
      refine wn_if_ne dX8_readParts_20 rfl (by omega) (fun c20 => ?_) (fun c20 => absurd c20 (by simp))
      exact wp_iload dX8_readParts_28 rfl (wp_ireturn dX8_readParts_30 rfl rfl ⟨_, rfl, xFl.rf S, fun e he => (by cases he), fun p' l' he => by cases he; exact ⟨rfl, by simp, by omega, hrow, rfl, hC0⟩⟩)
theorem c_readParts {b mx n lo hi p : Nat} {t : Nat → Nat} (d : Nat) (hmx : mx < 100) (hb3 : b ≠ 3 ∧ b ≠ 2) (hhi : hi ≤ 3) (hlo : lo ≤ 3) {S : xS} (hX : XC S) (hsb : S.1[b]? = some (20, mx)) (hT : xTx S n t) (hC : xTC S n t p) : ∃ k S', xcall false (d + 2) j_X8_readParts [.ref 3, .ref b, .int (nI lo), .int (nI hi)] S (some (.int (nI k))) S' ∧ xFl (fun i k => i = b ∨ (i = 3 ∧ 2 ≤ k)) S S' ∧ xPO b mx n t S S' k (xparts t n lo hi mx (mx + 1) p []) := by
  obtain ⟨r, S', h1, k, h2, h3⟩ := xcall_some (al := false) (d := d + 2) (ls := [.ref 3, .ref b, .int (nI lo), .int (nI hi), .float 0]) (S := S) (as := [.ref 3, .ref b, .int (nI lo), .int (nI hi)]) q_X8_readParts (by decide) rfl (Nat.le_of_ble_eq_true rfl) rfl
    (P := fun r S' => ∃ k, r = some (.int (nI k)) ∧ xFl (fun i k => i = b ∨ (i = 3 ∧ 2 ≤ k)) S S' ∧ xPO b mx n t S S' k (xparts t n lo hi mx (mx + 1) p [])) (by
      exact wp_iconst (v := nI 0) dX8_readParts_0 rfl (wp_istore dX8_readParts_1 ⟨Nat.le_of_ble_eq_true rfl, Or.inr rfl⟩ rfl (parts_loop d hmx hb3 hhi hlo mx p [] S (by simp) hX hsb hT hC (fun i hi => absurd hi (by simp)))))
  subst h2
  exact ⟨k, S', h1, h3⟩
