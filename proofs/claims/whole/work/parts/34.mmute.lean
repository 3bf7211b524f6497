/-! BEATS: the mute letters, as the reference finds them -/
/-- a word's letters in the reference's row -/
def xLetM (S : xS) (s n : Nat) (w : Nat → Nat) : Prop := ∀ k, k < n → xsm (w k) = true ∧ S.2.1 195 (s + k) = nI (w k)
theorem xmutF_eq {ml : List Nat} {w : Nat → Nat} {n B : Nat} : ∀ z, B ≤ z → (B = 0 ∨ xmemb ml (xwd w (n - B) B) = true) → (∀ y, B < y → y ≤ z → xmemb ml (xwd w (n - y) y) = false) → xmutF ml w n z = B
  | 0, h, _, _ => by unfold xmutF; omega
  | z + 1, h, h1, h2 => by
    unfold xmutF
    rcases Nat.lt_or_ge B (z + 1) with q | q
    · rw [if_neg (by rw [h2 (z + 1) q (Nat.le_refl _)]; decide)]
      exact xmutF_eq z (by omega) h1 (fun y a b => h2 y a (by omega))
    · have e : B = z + 1 := by omega
      subst e
      rw [if_pos (h1.resolve_left (by omega))]
/-- the best of the first i mutes -/
def xmB (ml : List Nat) (w : Nat → Nat) (n : Nat) : Nat → Nat
  | 0 => 0
  | i + 1 => if xcdl (ml.getD i 0) ≤ n ∧ xmB ml w n i < xcdl (ml.getD i 0) ∧ xwd w (n - xcdl (ml.getD i 0)) (xcdl (ml.getD i 0)) = ml.getD i 0 then xcdl (ml.getD i 0) else xmB ml w n i
theorem xcdl_b (c : Nat) : 1 ≤ xcdl c ∧ xcdl c ≤ 3 := by
  unfold xcdl
  repeat' split
  all_goals omega
theorem xmB_le (ml : List Nat) (w : Nat → Nat) (n : Nat) : ∀ i, xmB ml w n i ≤ n ∧ xmB ml w n i ≤ 3
  | 0 => ⟨Nat.zero_le _, Nat.zero_le _⟩
  | i + 1 => by
    have := xmB_le ml w n i
    have := xcdl_b (ml.getD i 0)
    unfold xmB
    split <;> omega
theorem xmB_in (ml : List Nat) (w : Nat → Nat) (n : Nat) : ∀ i, i ≤ ml.length → xmB ml w n i = 0 ∨ xmemb ml (xwd w (n - xmB ml w n i) (xmB ml w n i)) = true
  | 0, _ => Or.inl rfl
  | i + 1, h => by
    unfold xmB
    split
    · rename_i q
      exact Or.inr (xmemb_yes (i := i) (by omega) q.2.2.symm)
    · exact xmB_in ml w n i (by omega)
theorem xmB_ge (ml : List Nat) (w : Nat → Nat) (n : Nat) : ∀ i k, k < i → xcdl (ml.getD k 0) ≤ n → xwd w (n - xcdl (ml.getD k 0)) (xcdl (ml.getD k 0)) = ml.getD k 0 → xcdl (ml.getD k 0) ≤ xmB ml w n i
  | 0, k, h, _, _ => absurd h (Nat.not_lt_zero k)
  | i + 1, k, h, h1, h2 => by
    unfold xmB
    rcases Nat.lt_or_ge k i with q | q
    · have := xmB_ge ml w n i k q h1 h2
      split <;> omega
    · have e : k = i := by omega
      subst e
      split
      · exact Nat.le_refl _
      · rename_i q
        exact Nat.le_of_not_lt (fun r => q ⟨h1, r, h2⟩)
theorem xmB_all {ml : List Nat} {w : Nat → Nat} {n : Nat} (hL : ∀ k, k < n → xsm (w k) = true) : xmB ml w n ml.length = xmutF ml w n (min n 3) := by
  have hb := xmB_le ml w n ml.length
  refine (xmutF_eq (min n 3) (by omega) (xmB_in ml w n _ (Nat.le_refl _)) (fun y h1 h2 => ?_)).symm
  refine xmemb_no (fun i hi e => ?_)
  have e3 : xcdl (ml.getD i 0) = y := by rw [e]; exact xcdl_wd (by omega) (fun k hk => hL _ (by omega))
  have := xmB_ge ml w n ml.length i hi (by omega) (by rw [e3]; exact e.symm)
  omega
theorem mm_in {s n : Nat} {w : Nat → Nat} {S : xS} {d : Nat} {Q : Option Value → xS → Prop} (hX : XC S) (hsn : s + n ≤ 1904) (hL : xLetM S s n w) {B i z : Nat} (hz : z ≤ 3 ∧ z ≤ n) : ∀ (j m : Nat), m + j = z → Wp false d 11 cX12_muteEnd (some .int) false 82 [.ref 187, .int (nI s), .int (nI n), .int (nI B), .int (nI i), .int (nI (xwd w (n - z) z)), .int (nI n)] [] S Q → Wp false d 11 cX12_muteEnd (some .int) false 53 [.ref 187, .int (nI s), .int (nI n), .int (nI B), .int (nI i), .int (nI (xwd w (n - z) m)), .int (nI (n - z + m))] [] S Q := by
  intro j
  induction j with
  | zero =>
    intro m hm k
    have : m = z := by omega
    subst this
    have e : n - m + m = n := by omega
    rw [e]
    refine wp_iload dX12_muteEnd_53 rfl (wp_iload_n dX12_muteEnd_55 rfl ?_)
    refine wn_icmp_ge dX12_muteEnd_56 rfl (by omega) (by omega) (fun c56 => ?_) (fun c56 => absurd c56 (by omega))
    exact k
  | succ j ih =>
    intro m hm k
    have h := hL (n - z + m) (by omega)
    have hb := xsm_b h.1
    have hw : xwd w (n - z) m < 2 ^ 24 := by
      have e := xwd_lt w (n - z) m (fun i hi => by have := xsm_b (hL (n - z + i) (by omega)).1; omega)
      have : 256 ^ m ≤ 256 ^ 2 := Nat.pow_le_pow_right (by decide) (by omega)
      omega
    refine wp_iload dX12_muteEnd_53 rfl (wp_iload_n dX12_muteEnd_55 rfl ?_)
    refine wn_icmp_ge dX12_muteEnd_56 rfl (by omega) (by omega) (fun c56 => absurd c56 (by omega)) (fun c56 => ?_)
    exact wp_iload dX12_muteEnd_59 rfl (wp_bipush (v := nI 8) dX12_muteEnd_61 rfl (wp_ishl dX12_muteEnd_63 (wp_aload_n dX12_muteEnd_64 rfl rfl (g11_150 dX12_muteEnd_65 (xsh hX sh_187) (xrr hX r187_27) (wp_iload_n dX12_muteEnd_68 rfl (wp_iload dX12_muteEnd_69 rfl (wv_iadd dX12_muteEnd_71 (nI_add _ _) (wn_baload dX12_muteEnd_72 (xsh hX sh_195) (Or.inl rfl) (by omega) (by decide) h.2 (wv_ior dX12_muteEnd_73 (xshor hw (by omega)) (wp_istore dX12_muteEnd_74 ⟨Nat.le_of_ble_eq_true rfl, Or.inr rfl⟩ rfl (wp_iinc dX12_muteEnd_76 rfl (nI_1 _) ⟨Nat.le_of_ble_eq_true rfl, Or.inr rfl⟩ rfl (wp_goto dX12_muteEnd_79 rfl (ih (m + 1) (by omega) k)))))))))))))
theorem mm_loop {s n : Nat} {w : Nat → Nat} {v : xTg} {S : xS} {d : Nat} (hX : XC S) (hsn : s + n ≤ 1904) (hL : xLetM S s n w) (hV : xTgM S v) : ∀ (j i : Nat) (y5 y6 : Value), i + j = v.2.2.1.length → Wp false d 11 cX12_muteEnd (some .int) false 5 [.ref 187, .int (nI s), .int (nI n), .int (nI (xmB v.2.2.1 w n i)), .int (nI i), y5, y6] [] S (fun r S' => r = some (.int (nI (xmB v.2.2.1 w n v.2.2.1.length))) ∧ S' = S) := by
  obtain ⟨v1, v2, v3, v4, v5⟩ := hV
  have hl := v3.2.1
  intro j
  induction j with
  | zero =>
    intro i y5 y6 hi
    have : i = v.2.2.1.length := by omega
    subst this
    refine wp_iload dX12_muteEnd_5 rfl (wp_aload_n dX12_muteEnd_7 rfl rfl (gv11_97 dX12_muteEnd_8 (xsh hX sh_187) v3.1 ?_))
    refine wn_icmp_ge dX12_muteEnd_11 rfl (by omega) (by omega) (fun c11 => ?_) (fun c11 => absurd c11 (by omega))
    exact wp_iload_n dX12_muteEnd_108 rfl (wp_ireturn dX12_muteEnd_109 rfl rfl ⟨rfl, rfl⟩)
  | succ j ih =>
    intro i y5 y6 hi
    obtain ⟨q1, q2⟩ := v3.2.2.1 i (by omega)
    have hc := xcdl_b (v.2.2.1.getD i 0)
    have hlt := xget_lt v3.2.2.2 (show i < v.2.2.1.length by omega)
    have hB := xmB_le v.2.2.1 w n i
    have t102 (B' : Nat) (y5 y6 : Value) (e : xmB v.2.2.1 w n (i + 1) = B') : Wp false d 11 cX12_muteEnd (some .int) false 102 [.ref 187, .int (nI s), .int (nI n), .int (nI B'), .int (nI i), y5, y6] [] S (fun r S' => r = some (.int (nI (xmB v.2.2.1 w n v.2.2.1.length))) ∧ S' = S) := by
      subst e
      exact wp_iinc dX12_muteEnd_102 rfl (nI_1 _) ⟨Nat.le_of_ble_eq_true rfl, Or.inr rfl⟩ rfl (wp_goto dX12_muteEnd_105 rfl (ih (i + 1) _ _ (by omega)))
    refine wp_iload dX12_muteEnd_5 rfl (wp_aload_n dX12_muteEnd_7 rfl rfl (gv11_97 dX12_muteEnd_8 (xsh hX sh_187) v3.1 ?_))
    refine wn_icmp_ge dX12_muteEnd_11 rfl (by omega) (by omega) (fun c11 => absurd c11 (by omega)) (fun c11 => ?_)
    refine wp_aload_n dX12_muteEnd_14 rfl rfl (g11_116 dX12_muteEnd_15 (xsh hX sh_187) (xrr hX r187_25) (wp_iload dX12_muteEnd_18 rfl (wn_iaload dX12_muteEnd_20 (xsh hX sh_193) rfl (by omega) (by decide) q2 (wp_iload_n dX12_muteEnd_21 rfl ?_))))
    refine wn_icmp_gt dX12_muteEnd_22 rfl (by omega) (by omega) (fun c22 => ?_) (fun c22 => ?_)
    · exact t102 _ _ _ (by rw [xmB, if_neg (by omega)])
    · refine wp_aload_n dX12_muteEnd_25 rfl rfl (g11_116 dX12_muteEnd_26 (xsh hX sh_187) (xrr hX r187_25) (wp_iload dX12_muteEnd_29 rfl (wn_iaload dX12_muteEnd_31 (xsh hX sh_193) rfl (by omega) (by decide) q2 (wp_iload_n dX12_muteEnd_32 rfl ?_))))
      refine wn_icmp_gt dX12_muteEnd_33 rfl (by omega) (by omega) (fun c33 => ?_) (fun c33 => ?_)
      · refine wp_iconst (v := nI 0) dX12_muteEnd_39 rfl (wp_istore dX12_muteEnd_40 ⟨Nat.le_of_ble_eq_true rfl, Or.inr rfl⟩ rfl (wp_iload_n dX12_muteEnd_42 rfl (wp_aload_n dX12_muteEnd_43 rfl rfl (g11_116 dX12_muteEnd_44 (xsh hX sh_187) (xrr hX r187_25) (wp_iload dX12_muteEnd_47 rfl (wn_iaload dX12_muteEnd_49 (xsh hX sh_193) rfl (by omega) (by decide) q2 (wv_isub dX12_muteEnd_50 (pk_sub (by omega)) (wp_istore dX12_muteEnd_51 ⟨Nat.le_of_ble_eq_true rfl, Or.inr rfl⟩ rfl ?_))))))))
        refine wp_locals (ls' := [.ref 187, .int (nI s), .int (nI n), .int (nI (xmB v.2.2.1 w n i)), .int (nI i), .int (nI (xwd w (n - xcdl (v.2.2.1.getD i 0)) 0)), .int (nI (n - xcdl (v.2.2.1.getD i 0) + 0))]) rfl ?_
        refine mm_in hX hsn hL (by omega) (xcdl (v.2.2.1.getD i 0)) 0 (by omega) ?_
        have h24 := (xwd_24 (t := w) (s := n - xcdl (v.2.2.1.getD i 0)) (z := xcdl (v.2.2.1.getD i 0)) (by omega) (fun k hk => (hL _ (by omega)).1)).2
        refine wp_iload dX12_muteEnd_82 rfl (wp_aload_n dX12_muteEnd_84 rfl rfl (g11_110 dX12_muteEnd_85 (xsh hX sh_187) (xrr hX r187_23) (wp_iload dX12_muteEnd_88 rfl (wn_iaload dX12_muteEnd_90 (xsh hX sh_191) rfl (by omega) (by decide) q1 ?_))))
        refine wn_icmp_ne dX12_muteEnd_91 rfl (by omega) (by omega) (fun c91 => ?_) (fun c91 => ?_)
        · exact t102 _ _ _ (by rw [xmB, if_neg (fun q => c91 q.2.2)])
        · exact wp_aload_n dX12_muteEnd_94 rfl rfl (g11_116 dX12_muteEnd_95 (xsh hX sh_187) (xrr hX r187_25) (wp_iload dX12_muteEnd_98 rfl (wn_iaload dX12_muteEnd_100 (xsh hX sh_193) rfl (by omega) (by decide) q2 (wp_istore_n dX12_muteEnd_101 ⟨Nat.le_of_ble_eq_true rfl, Or.inr rfl⟩ rfl (t102 _ _ _ (by rw [xmB, if_pos ⟨by omega, by omega, c91⟩]))))))
      · exact wp_goto dX12_muteEnd_36 rfl (t102 _ _ _ (by rw [xmB, if_neg (by omega)]))
theorem m_muteEnd {s n : Nat} {w : Nat → Nat} {v : xTg} {S : xS} (d : Nat) (hX : XC S) (hsn : s + n ≤ 1904) (hL : xLetM S s n w) (hV : xTgM S v) : xcall false d j_X12_muteEnd [.ref 187, .int (nI s), .int (nI n)] S (some (.int (nI (xmutF v.2.2.1 w n (min n 3))))) S := by
  rw [← xmB_all (ml := v.2.2.1) (fun k hk => (hL k hk).1)]
  refine xcall_intro (ls := [.ref 187, .int (nI s), .int (nI n), .float 0, .float 0, .float 0, .float 0]) q_X12_muteEnd (by decide) rfl (Nat.le_of_ble_eq_true rfl) rfl ?_
  exact wp_iconst (v := nI 0) dX12_muteEnd_0 rfl (wp_istore_n dX12_muteEnd_1 ⟨Nat.le_of_ble_eq_true rfl, Or.inr rfl⟩ rfl (wp_iconst (v := nI 0) dX12_muteEnd_2 rfl (wp_istore dX12_muteEnd_3 ⟨Nat.le_of_ble_eq_true rfl, Or.inr rfl⟩ rfl (mm_loop hX hsn hL hV v.2.2.1.length 0 _ _ (by omega)))))
