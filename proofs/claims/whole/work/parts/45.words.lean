/-! WORDS of people and of answers: the class reads them -/
def xwsp (t : Nat → Nat) (n most : Nat) : Nat → List (List Nat) → List Nat → Option (List (List Nat))
  | 0, acc, cur => if cur = [] ∨ most ≤ acc.length then none else some (acc ++ [cur])
  | j + 1, acc, cur => if xsm (t (n - (j + 1))) = true then (if cur.length = 12 ∨ most ≤ acc.length then none else xwsp t n most j acc (cur ++ [t (n - (j + 1))])) else if t (n - (j + 1)) = 32 ∧ cur ≠ [] ∧ acc.length < most then xwsp t n most j (acc ++ [cur]) [] else none
def xoff (v : List (List Nat)) : Nat → Nat
  | 0 => 0
  | q + 1 => xoff v q + (v.getD q []).length
theorem xgA {α : Type} (l : List α) (x d : α) (i : Nat) (hi : i < (l ++ [x]).length) : (l ++ [x]).getD i d = if i < l.length then l.getD i d else x := by
  rw [List.length_append] at hi
  simp only [List.length_cons, List.length_nil] at hi
  simp only [List.getD_eq_getElem?_getD]
  split
  · rename_i q
    rw [List.getElem?_append_left q]
  · rename_i q
    rw [List.getElem?_append_right (by omega), show i - l.length = 0 by omega]
    rfl
theorem xlen1 {α : Type} (l : List α) (x : α) : (l ++ [x]).length = l.length + 1 := by rw [List.length_append]; rfl
theorem xoff_app (acc : List (List Nat)) (cur : List Nat) : ∀ q, q ≤ acc.length → xoff (acc ++ [cur]) q = xoff acc q
  | 0, _ => rfl
  | q + 1, h => by
    unfold xoff
    rw [xoff_app acc cur q (by omega), xgA _ _ _ _ (by rw [xlen1]; omega), if_pos (by omega)]
theorem xoff_last (acc : List (List Nat)) (cur : List Nat) : xoff (acc ++ [cur]) (acc.length + 1) = xoff acc acc.length + cur.length := by
  rw [xoff, xoff_app acc cur _ (Nat.le_refl _), xgA _ _ _ _ (by rw [xlen1]; omega), if_neg (by omega)]
/-- words of 1 to 12 small letters -/
def xWl (v : List (List Nat)) : Prop := ∀ x ∈ v, 1 ≤ x.length ∧ x.length ≤ 12 ∧ ∀ c ∈ x, xsm c = true
theorem xWl_app {acc : List (List Nat)} {cur : List Nat} (h : xWl acc) (h1 : cur ≠ []) (h2 : cur.length ≤ 12) (h3 : ∀ c ∈ cur, xsm c = true) : xWl (acc ++ [cur]) := by
  intro x hx
  rcases List.mem_append.mp hx with q | q
  · exact h x q
  · rw [List.mem_singleton.mp q]
    refine ⟨?_, h2, h3⟩
    cases cur with
    | nil => exact absurd rfl h1
    | cons a b => simp
theorem xmem_getD {α : Type} {l : List α} {i : Nat} {d : α} (hi : i < l.length) : l.getD i d ∈ l := by
  rw [List.getD_eq_getElem?_getD, List.getElem?_eq_getElem hi]
  exact List.getElem_mem hi
theorem xWl_get {v : List (List Nat)} (h : xWl v) {q : Nat} (hq : q < v.length) : 1 ≤ (v.getD q []).length ∧ (v.getD q []).length ≤ 12 ∧ ∀ k, k < (v.getD q []).length → xsm ((v.getD q []).getD k 0) = true := by
  obtain ⟨h1, h2, h3⟩ := h _ (xmem_getD hq)
  exact ⟨h1, h2, fun k hk => h3 _ (xmem_getD hk)⟩
theorem xoff_le {v : List (List Nat)} (h : xWl v) : ∀ q, q ≤ v.length → xoff v q ≤ 12 * q
  | 0, _ => Nat.le_refl _
  | q + 1, hq => by
    have := xoff_le h q (by omega)
    have := (xWl_get h (show q < v.length by omega)).2.1
    unfold xoff
    omega
theorem xoff_mono {v : List (List Nat)} : ∀ q r, q ≤ r → xoff v q ≤ xoff v r
  | q, 0, h => by rw [show q = 0 by omega]; exact Nat.le_refl _
  | q, r + 1, h => by
    rcases Nat.lt_or_ge r q with w | w
    · rw [show q = r + 1 by omega]; exact Nat.le_refl _
    · have := xoff_mono (v := v) q r w
      show xoff v q ≤ xoff v r + _
      exact Nat.le_trans this (Nat.le_add_right _ _)
theorem xwsp_in {t : Nat → Nat} {n most : Nat} : ∀ (j : Nat) (acc : List (List Nat)) (cur : List Nat) (l : List (List Nat)), xwsp t n most j acc cur = some l → xWl acc → cur.length ≤ 12 → (∀ c ∈ cur, xsm c = true) → xWl l ∧ 1 ≤ l.length ∧ l.length ≤ most
  | 0, acc, cur, l, h, ha, hc, hs => by
    unfold xwsp at h
    split at h
    · cases h
    · rename_i q
      cases h
      refine ⟨xWl_app ha (fun e => q (Or.inl e)) hc hs, ?_, ?_⟩ <;> rw [xlen1] <;> omega
  | j + 1, acc, cur, l, h, ha, hc, hs => by
    unfold xwsp at h
    split at h
    · rename_i hsm
      split at h
      · cases h
      · refine xwsp_in j _ _ l h ha (by rw [xlen1]; omega) (fun c hc2 => ?_)
        rcases List.mem_append.mp hc2 with q | q
        · exact hs c q
        · rw [List.mem_singleton.mp q]; exact hsm
    · split at h
      · rename_i q
        exact xwsp_in j _ _ l h (xWl_app ha q.2.1 hc hs) (Nat.zero_le _) (fun c hc2 => by cases hc2)
      · cases h
/-- words in the rows of the class: letters b, begins c -/
def xWL (b c : Nat) (S : xS) (l : List (List Nat)) : Prop := (∀ q, q ≤ l.length → S.2.1 c q = nI (xoff l q)) ∧ ∀ q k, q < l.length → k < (l.getD q []).length → S.2.1 b (xoff l q + k) = nI ((l.getD q []).getD k 0)
def xWo (a b c e : Nat) : Prop := (a = 60 ∧ b = 61 ∧ c = 62 ∧ e = 63) ∨ (a = 64 ∧ b = 65 ∧ c = 66 ∧ e = 67) ∨ (a = 68 ∧ b = 69 ∧ c = 70 ∧ e = 71)
theorem xWo.sh {a b c e : Nat} (h : xWo a b c e) {S : xS} (hX : XC S) : S.1[a]? = some (8, 4) ∧ S.1[b]? = some (21, 144) ∧ S.1[c]? = some (20, 13) ∧ S.1[e]? = some (20, 12) ∧ S.2.2.1 a 0 = some b ∧ S.2.2.1 a 1 = some c ∧ S.2.2.1 a 2 = some e := by
  rcases h with ⟨rfl, rfl, rfl, rfl⟩ | ⟨rfl, rfl, rfl, rfl⟩ | ⟨rfl, rfl, rfl, rfl⟩
  · exact ⟨xsh hX sh_60, xsh hX sh_61, xsh hX sh_62, xsh hX sh_63, xrr hX r60_0, xrr hX r60_1, xrr hX r60_2⟩
  · exact ⟨xsh hX sh_64, xsh hX sh_65, xsh hX sh_66, xsh hX sh_67, xrr hX r64_0, xrr hX r64_1, xrr hX r64_2⟩
  · exact ⟨xsh hX sh_68, xsh hX sh_69, xsh hX sh_70, xsh hX sh_71, xrr hX r68_0, xrr hX r68_1, xrr hX r68_2⟩
theorem wr_loop {a b c e n most : Nat} {t : Nat → Nat} (d : Nat) (hw : xWo a b c e) (hmo : most ≤ 12) (hn : n ≤ 260) : ∀ (j i : Nat) (acc : List (List Nat)) (cur : List Nat) (S : xS) (y : Value), i + j = n → XC S → S.2.1 a 3 = nI acc.length → (∀ k, k < cur.length → S.2.1 b (xoff acc acc.length + k) = nI (cur.getD k 0)) → xWL b c S acc → xWl acc → cur.length ≤ 12 → (∀ x ∈ cur, xsm x = true) → ((cur ≠ [] → acc.length < most) ∧ acc.length ≤ most ∧ ∀ k, k < n → t k < 256 ∧ S.2.1 2 k = nI (t k)) → Wp false (d + 1) 8 cX9_read (some .boolean) false 14 [.ref a, .ref 2, .int (nI n), .int (nI most), .int (nI (xoff acc acc.length + cur.length)), .int (nI cur.length), .int (nI i), y] [] S (fun r S' => ∃ bb, r = some (.int (xB bb)) ∧ xFl (fun i k => i = b ∨ (i = c ∧ 1 ≤ k) ∨ (i = a ∧ k = 3)) S S' ∧ (xwsp t n most j acc cur = none → bb = false) ∧ (∀ l, xwsp t n most j acc cur = some l → bb = true ∧ S'.2.1 a 3 = nI l.length ∧ xWL b c S' l)) := by
  intro j
  induction j with
  | zero =>
    intro i acc cur S y hi hX h3 hcn hcl hL hcur hsm hmm
    have hwu := hw
    unfold xWo at hwu
    obtain ⟨ha, hb, hc, he, rb, rc, re⟩ := hw.sh hX
    have ho := xoff_le hL acc.length (Nat.le_refl _)
    have rf : xFl (fun i k => i = b ∨ (i = c ∧ 1 ≤ k) ∨ (i = a ∧ k = 3)) S S := xFl.rf S
    obtain ⟨hm1, hm2, hT⟩ := hmm
    have hin : i = n := by omega
    subst hin
    have gs := c_isSmall (c := 32) (by decide) d S
    rcases Nat.lt_or_ge 0 cur.length with hz | hz
    · have hne : cur ≠ [] := fun e => by rw [e] at hz; exact absurd hz (by decide)
      have hol := xoff_last acc cur
      have F1 : xFl (fun i k => i = b ∨ (i = c ∧ 1 ≤ k) ∨ (i = a ∧ k = 3)) S (xSI (xSI S a 3 (nI (acc.length + 1))) c (acc.length + 1) (nI (xoff acc acc.length + cur.length))) := ((xFl.rf S).SI (Or.inr (Or.inr ⟨rfl, rfl⟩))).SI (Or.inr (Or.inl ⟨rfl, by omega⟩))
      have q1 : xWL b c (xSI (xSI S a 3 (nI (acc.length + 1))) c (acc.length + 1) (nI (xoff acc acc.length + cur.length))) (acc ++ [cur]) := by
        refine ⟨fun q hq => ?_, fun q k hq hk => ?_⟩
        · rw [xlen1] at hq
          rcases Nat.lt_or_ge acc.length q with w | w
          · rw [show q = acc.length + 1 by omega, hol]; exact xI_same _ _ _ _
          · rw [xoff_app _ _ _ w]; exact xi (xi (hcl.1 q w) (Or.inl (by omega))) (Or.inr (by omega))
        · rw [xlen1] at hq
          rw [xgA _ _ _ _ (by rw [xlen1]; omega)] at hk ⊢
          rw [xoff_app _ _ _ (by omega)]
          split at hk
          · rename_i w; rw [if_pos w]; exact xi (xi (hcl.2 q k w hk) (Or.inl (by omega))) (Or.inl (by omega))
          · rename_i w; rw [if_neg w, show q = acc.length by omega]; exact xi (xi (hcn k hk) (Or.inl (by omega))) (Or.inl (by omega))
      have q2 : (xSI (xSI S a 3 (nI (acc.length + 1))) c (acc.length + 1) (nI (xoff acc acc.length + cur.length))).2.1 a 3 = nI (acc ++ [cur]).length := by rw [xlen1]; exact xi (xI_same _ _ _ _) (Or.inl (by omega))
      have hll := xlen1 acc cur
      have hm3 := hm1 hne
      have EX : xwsp t i most 0 acc cur = some (acc ++ [cur]) := by
        unfold xwsp
        rw [if_neg (fun q => q.elim hne (by omega))]
      refine wp_iload dX9_read_14 rfl (wp_iload_n dX9_read_16 rfl ?_)
      refine wn_icmp_gt dX9_read_17 rfl (by omega) (by omega) (fun c17 => absurd c17 (by omega)) (fun c17 => ?_)
      refine wp_iload dX9_read_20 rfl (wp_iload_n dX9_read_22 rfl ?_)
      refine wn_icmp_ge dX9_read_23 rfl (by omega) (by omega) (fun c23 => ?_) (fun c23 => absurd c23 (by omega))
      refine wp_bipush (v := nI 32) dX9_read_40 rfl (wp_istore dX9_read_42 ⟨Nat.le_of_ble_eq_true rfl, Or.inr rfl⟩ rfl (wp_iload dX9_read_44 rfl (wp_is1 dX9_read_46 k8_26 q_X11_isSmall (by decide) (Nat.le_of_ble_eq_true rfl) gs ?_)))
      refine wb_if_eq dX9_read_49 rfl (fun c49 => ?_) (fun c49 => absurd c49 (by decide))
      refine wp_iload dX9_read_97 rfl (wp_bipush (v := nI 32) dX9_read_99 rfl ?_)
      refine wn_icmp_ne dX9_read_101 rfl (by omega) (by omega) (fun c101 => absurd c101 (by omega)) (fun c101 => ?_)
      refine wp_iload dX9_read_104 rfl ?_
      refine wn_if_eq dX9_read_106 rfl (by omega) (fun c106 => absurd c106 (by omega)) (fun c106 => ?_)
      refine wp_aload_n dX9_read_109 rfl rfl (gv8_22 dX9_read_110 ha h3 (wp_iconst (v := nI 1) dX9_read_113 rfl (wv_iadd dX9_read_114 (nI_add _ _) (wp_aload_n dX9_read_115 rfl rfl (g8_15 dX9_read_116 ha rc (wp_alen dX9_read_119 hc ⟨by decide, by decide⟩ rfl ?_))))))
      refine wn_icmp_lt dX9_read_120 rfl (by omega) (by omega) (fun c120 => ?_) (fun c120 => absurd c120 (by omega))
      refine wp_aload_n dX9_read_125 rfl rfl (wp_dup dX9_read_126 rfl (gv8_22 dX9_read_127 ha h3 (wp_iconst (v := nI 1) dX9_read_130 rfl (wv_iadd dX9_read_131 (nI_add _ _) (p8_22 dX9_read_132 ha (wp_aload_n dX9_read_135 rfl rfl (g8_15 dX9_read_136 ha rc (wp_aload_n dX9_read_139 rfl rfl (gv8_22 dX9_read_140 ha (xI_same _ _ _ _) (wp_iload dX9_read_143 rfl (wn_iastore dX9_read_145 hc rfl (by omega) (by decide) (wp_iconst (v := nI 0) dX9_read_146 rfl (wp_istore dX9_read_147 ⟨Nat.le_of_ble_eq_true rfl, Or.inr rfl⟩ rfl (wp_iinc dX9_read_149 rfl (nI_1 _) ⟨Nat.le_of_ble_eq_true rfl, Or.inr rfl⟩ rfl (wp_goto dX9_read_152 rfl ?_)))))))))))))))
      refine wp_locals rfl ?_
      refine wp_iload dX9_read_14 rfl (wp_iload_n dX9_read_16 rfl ?_)
      refine wn_icmp_gt dX9_read_17 rfl (by omega) (by omega) (fun c17 => ?_) (fun c17 => absurd c17 (by omega))
      refine wp_aload_n dX9_read_155 rfl rfl (gv8_22 dX9_read_156 ha (q2.trans (by rw [xlen1])) ?_)
      refine wn_if_le dX9_read_159 rfl (by omega) (fun c159 => absurd c159 (by omega)) (fun c159 => ?_)
      exact wp_iconst (v := nI 1) dX9_read_162 rfl (wp_goto dX9_read_163 rfl (wb_ret dX9_read_167 rfl rfl ⟨true, rfl, F1, fun hl => (by rw [EX] at hl; cases hl), fun l hl => (by rw [EX] at hl; cases hl; exact ⟨rfl, q2, q1⟩)⟩))
    · have hcn0 : cur = [] := List.eq_nil_of_length_eq_zero (by omega)
      subst hcn0
      have EX : xwsp t i most 0 acc [] = none := by
        unfold xwsp
        rw [if_pos (Or.inl rfl)]
      refine wp_locals (ls' := [.ref a, .ref 2, .int (nI i), .int (nI most), .int (nI (xoff acc acc.length + 0)), .int (nI 0), .int (nI i), y]) rfl ?_
      refine wp_iload dX9_read_14 rfl (wp_iload_n dX9_read_16 rfl ?_)
      refine wn_icmp_gt dX9_read_17 rfl (by omega) (by omega) (fun c17 => absurd c17 (by omega)) (fun c17 => ?_)
      refine wp_iload dX9_read_20 rfl (wp_iload_n dX9_read_22 rfl ?_)
      refine wn_icmp_ge dX9_read_23 rfl (by omega) (by omega) (fun c23 => ?_) (fun c23 => absurd c23 (by omega))
      refine wp_bipush (v := nI 32) dX9_read_40 rfl (wp_istore dX9_read_42 ⟨Nat.le_of_ble_eq_true rfl, Or.inr rfl⟩ rfl (wp_iload dX9_read_44 rfl (wp_is1 dX9_read_46 k8_26 q_X11_isSmall (by decide) (Nat.le_of_ble_eq_true rfl) gs ?_)))
      refine wb_if_eq dX9_read_49 rfl (fun c49 => ?_) (fun c49 => absurd c49 (by decide))
      refine wp_iload dX9_read_97 rfl (wp_bipush (v := nI 32) dX9_read_99 rfl ?_)
      refine wn_icmp_ne dX9_read_101 rfl (by omega) (by omega) (fun c101 => absurd c101 (by omega)) (fun c101 => ?_)
      refine wp_iload dX9_read_104 rfl ?_
      refine wn_if_eq dX9_read_106 rfl (by omega) (fun c106 => ?_) (fun c106 => absurd c106 (by omega))
      exact wp_iconst (v := nI 0) dX9_read_123 rfl (wb_ret dX9_read_124 rfl rfl ⟨false, rfl, rf, fun _ => rfl, fun l hl => (by rw [EX] at hl; cases hl)⟩)
  | succ j ih =>
    intro i acc cur S y hi hX h3 hcn hcl hL hcur hsm hmm
    have hwu := hw
    unfold xWo at hwu
    obtain ⟨ha, hb, hc, he, rb, rc, re⟩ := hw.sh hX
    have ho := xoff_le hL acc.length (Nat.le_refl _)
    have rf : xFl (fun i k => i = b ∨ (i = c ∧ 1 ≤ k) ∨ (i = a ∧ k = 3)) S S := xFl.rf S
    obtain ⟨hm1, hm2, hT⟩ := hmm
    obtain ⟨hc256, hch⟩ := hT i (by omega)
    have ein : n - (j + 1) = i := by omega
    have gs := c_isSmall (c := t i) (by omega) d S
    cases hs : xsm (t i) with
    | true =>
      have hlo := xsm_b hs
      by_cases hbad : cur.length = 12 ∨ most ≤ acc.length
      · have EX : xwsp t n most (j + 1) acc cur = none := by
          unfold xwsp
          rw [ein, if_pos hs, if_pos hbad]
        refine wp_iload dX9_read_14 rfl (wp_iload_n dX9_read_16 rfl ?_)
        refine wn_icmp_gt dX9_read_17 rfl (by omega) (by omega) (fun c17 => absurd c17 (by omega)) (fun c17 => ?_)
        refine wp_iload dX9_read_20 rfl (wp_iload_n dX9_read_22 rfl ?_)
        refine wn_icmp_ge dX9_read_23 rfl (by omega) (by omega) (fun c23 => absurd c23 (by omega)) (fun c23 => ?_)
        refine wp_iload dX9_read_26 rfl (wp_aload_n dX9_read_28 rfl rfl (wp_alen (v := nI 260) dX9_read_29 (xsh hX sh_2) ⟨by decide, by decide⟩ rfl ?_))
        refine wn_icmp_ge dX9_read_30 rfl (by omega) (by omega) (fun c30 => absurd c30 (by omega)) (fun c30 => ?_)
        refine wp_aload_n dX9_read_33 rfl rfl (wp_iload dX9_read_34 rfl (wn_caload dX9_read_36 (xsh hX sh_2) rfl (by omega) (by decide) hch (wp_goto dX9_read_37 rfl (wp_istore dX9_read_42 ⟨Nat.le_of_ble_eq_true rfl, Or.inr rfl⟩ rfl (wp_iload dX9_read_44 rfl (wp_is1 dX9_read_46 k8_26 q_X11_isSmall (by decide) (Nat.le_of_ble_eq_true rfl) gs ?_))))))
        refine wb_if_eq dX9_read_49 rfl (fun c49 => absurd c49 (by rw [hs]; decide)) (fun c49 => ?_)
        refine wp_iload dX9_read_52 rfl (wp_bipush (v := nI 12) dX9_read_54 rfl ?_)
        refine wn_icmp_eq dX9_read_56 rfl (by omega) (by omega) (fun c56 => ?_) (fun c56 => ?_)
        · exact wp_iconst (v := nI 0) dX9_read_77 rfl (wb_ret dX9_read_78 rfl rfl ⟨false, rfl, rf, fun _ => rfl, fun l hl => (by rw [EX] at hl; cases hl)⟩)
        · refine wp_aload_n dX9_read_59 rfl rfl (gv8_22 dX9_read_60 ha h3 (wp_iload_n dX9_read_63 rfl ?_))
          refine wn_icmp_ge dX9_read_64 rfl (by omega) (by omega) (fun c64 => ?_) (fun c64 => absurd c64 (by omega))
          exact wp_iconst (v := nI 0) dX9_read_77 rfl (wb_ret dX9_read_78 rfl rfl ⟨false, rfl, rf, fun _ => rfl, fun l hl => (by rw [EX] at hl; cases hl)⟩)
      · have EX : xwsp t n most (j + 1) acc cur = xwsp t n most j acc (cur ++ [t i]) := by
          rw [xwsp, ein, if_pos hs, if_neg hbad]
        rw [EX]
        have hlc := xlen1 cur (t i)
        have F1 : xFl (fun i k => i = b ∨ (i = c ∧ 1 ≤ k) ∨ (i = a ∧ k = 3)) S (xSI S b (xoff acc acc.length + cur.length) (nI (t i))) := (xFl.rf S).SI (Or.inl rfl)
        have F0 : xFl (fun i k => i = b ∧ k = xoff acc acc.length + cur.length) S (xSI S b (xoff acc acc.length + cur.length) (nI (t i))) := (xFl.rf S).SI ⟨rfl, rfl⟩
        refine wp_iload dX9_read_14 rfl (wp_iload_n dX9_read_16 rfl ?_)
        refine wn_icmp_gt dX9_read_17 rfl (by omega) (by omega) (fun c17 => absurd c17 (by omega)) (fun c17 => ?_)
        refine wp_iload dX9_read_20 rfl (wp_iload_n dX9_read_22 rfl ?_)
        refine wn_icmp_ge dX9_read_23 rfl (by omega) (by omega) (fun c23 => absurd c23 (by omega)) (fun c23 => ?_)
        refine wp_iload dX9_read_26 rfl (wp_aload_n dX9_read_28 rfl rfl (wp_alen (v := nI 260) dX9_read_29 (xsh hX sh_2) ⟨by decide, by decide⟩ rfl ?_))
        refine wn_icmp_ge dX9_read_30 rfl (by omega) (by omega) (fun c30 => absurd c30 (by omega)) (fun c30 => ?_)
        refine wp_aload_n dX9_read_33 rfl rfl (wp_iload dX9_read_34 rfl (wn_caload dX9_read_36 (xsh hX sh_2) rfl (by omega) (by decide) hch (wp_goto dX9_read_37 rfl (wp_istore dX9_read_42 ⟨Nat.le_of_ble_eq_true rfl, Or.inr rfl⟩ rfl (wp_iload dX9_read_44 rfl (wp_is1 dX9_read_46 k8_26 q_X11_isSmall (by decide) (Nat.le_of_ble_eq_true rfl) gs ?_))))))
        refine wb_if_eq dX9_read_49 rfl (fun c49 => absurd c49 (by rw [hs]; decide)) (fun c49 => ?_)
        refine wp_iload dX9_read_52 rfl (wp_bipush (v := nI 12) dX9_read_54 rfl ?_)
        refine wn_icmp_eq dX9_read_56 rfl (by omega) (by omega) (fun c56 => absurd c56 (by omega)) (fun c56 => ?_)
        refine wp_aload_n dX9_read_59 rfl rfl (gv8_22 dX9_read_60 ha h3 (wp_iload_n dX9_read_63 rfl ?_))
        refine wn_icmp_ge dX9_read_64 rfl (by omega) (by omega) (fun c64 => absurd c64 (by omega)) (fun c64 => ?_)
        refine wp_iload dX9_read_67 rfl (wp_aload_n dX9_read_69 rfl rfl (g8_9 dX9_read_70 ha rb (wp_alen dX9_read_73 hb ⟨by decide, by decide⟩ rfl ?_)))
        refine wn_icmp_lt dX9_read_74 rfl (by omega) (by omega) (fun c74 => ?_) (fun c74 => absurd c74 (by omega))
        refine wp_aload_n dX9_read_79 rfl rfl (g8_9 dX9_read_80 ha rb (wp_iload dX9_read_83 rfl (wp_iload dX9_read_85 rfl (wn_castore dX9_read_87 hb rfl (by omega) (by decide) (xnc (by omega)) (wp_iinc dX9_read_88 rfl (nI_1 _) ⟨Nat.le_of_ble_eq_true rfl, Or.inr rfl⟩ rfl (wp_iinc dX9_read_91 rfl (nI_1 _) ⟨Nat.le_of_ble_eq_true rfl, Or.inr rfl⟩ rfl (wp_goto dX9_read_94 rfl (wp_iinc dX9_read_149 rfl (nI_1 _) ⟨Nat.le_of_ble_eq_true rfl, Or.inr rfl⟩ rfl (wp_goto dX9_read_152 rfl ?_)))))))))
        refine wp_locals (ls' := [.ref a, .ref 2, .int (nI n), .int (nI most), .int (nI (xoff acc acc.length + (cur ++ [t i]).length)), .int (nI (cur ++ [t i]).length), .int (nI (i + 1)), .int (nI (t i))]) (by rw [hlc]; rfl) ?_
        refine (ih (i + 1) acc (cur ++ [t i]) _ _ (by omega) (F1.XC hX) (F0.i h3 (by omega)) (fun k hk => ?_) ⟨fun q hq => F0.i (hcl.1 q hq) (by omega), fun q k hq hk => F0.i (hcl.2 q k hq hk) (fun w => ?_)⟩ hL (by omega) (fun x hx => ?_) ⟨fun _ => by omega, hm2, fun k hk => ⟨(hT k hk).1, F0.i (hT k hk).2 (by omega)⟩⟩).mono ?_
        · rw [xgA _ _ _ _ hk]
          split
          · rename_i w; exact F0.i (hcn k w) (by omega)
          · rw [show k = cur.length by omega]; exact xI_same _ _ _ _
        · have := xoff_mono (v := acc) (q + 1) acc.length (by omega)
          have e : xoff acc (q + 1) = xoff acc q + (acc.getD q []).length := rfl
          omega
        · rcases List.mem_append.mp hx with q | q
          · exact hsm x q
          · rw [List.mem_singleton.mp q]; exact hs
        · rintro r S' ⟨bb, z1, z2, z3, z4⟩
          exact ⟨bb, z1, F1.tt z2, z3, z4⟩
    | false =>
      by_cases hok : t i = 32 ∧ cur ≠ [] ∧ acc.length < most
      · obtain ⟨h32, hne0, hlt⟩ := hok
        have hz : 0 < cur.length := by
          cases cur with
          | nil => exact absurd rfl hne0
          | cons a b => simp
        have hne : cur ≠ [] := fun e => by rw [e] at hz; exact absurd hz (by decide)
        have hol := xoff_last acc cur
        have F1 : xFl (fun i k => i = b ∨ (i = c ∧ 1 ≤ k) ∨ (i = a ∧ k = 3)) S (xSI (xSI S a 3 (nI (acc.length + 1))) c (acc.length + 1) (nI (xoff acc acc.length + cur.length))) := ((xFl.rf S).SI (Or.inr (Or.inr ⟨rfl, rfl⟩))).SI (Or.inr (Or.inl ⟨rfl, by omega⟩))
        have q1 : xWL b c (xSI (xSI S a 3 (nI (acc.length + 1))) c (acc.length + 1) (nI (xoff acc acc.length + cur.length))) (acc ++ [cur]) := by
          refine ⟨fun q hq => ?_, fun q k hq hk => ?_⟩
          · rw [xlen1] at hq
            rcases Nat.lt_or_ge acc.length q with w | w
            · rw [show q = acc.length + 1 by omega, hol]; exact xI_same _ _ _ _
            · rw [xoff_app _ _ _ w]; exact xi (xi (hcl.1 q w) (Or.inl (by omega))) (Or.inr (by omega))
          · rw [xlen1] at hq
            rw [xgA _ _ _ _ (by rw [xlen1]; omega)] at hk ⊢
            rw [xoff_app _ _ _ (by omega)]
            split at hk
            · rename_i w; rw [if_pos w]; exact xi (xi (hcl.2 q k w hk) (Or.inl (by omega))) (Or.inl (by omega))
            · rename_i w; rw [if_neg w, show q = acc.length by omega]; exact xi (xi (hcn k hk) (Or.inl (by omega))) (Or.inl (by omega))
        have q2 : (xSI (xSI S a 3 (nI (acc.length + 1))) c (acc.length + 1) (nI (xoff acc acc.length + cur.length))).2.1 a 3 = nI (acc ++ [cur]).length := by rw [xlen1]; exact xi (xI_same _ _ _ _) (Or.inl (by omega))
        have hll := xlen1 acc cur
        have EX : xwsp t n most (j + 1) acc cur = xwsp t n most j (acc ++ [cur]) [] := by
          rw [xwsp, ein, if_neg (by rw [hs]; decide), if_pos ⟨h32, hne0, hlt⟩]
        rw [EX]
        refine wp_iload dX9_read_14 rfl (wp_iload_n dX9_read_16 rfl ?_)
        refine wn_icmp_gt dX9_read_17 rfl (by omega) (by omega) (fun c17 => absurd c17 (by omega)) (fun c17 => ?_)
        refine wp_iload dX9_read_20 rfl (wp_iload_n dX9_read_22 rfl ?_)
        refine wn_icmp_ge dX9_read_23 rfl (by omega) (by omega) (fun c23 => absurd c23 (by omega)) (fun c23 => ?_)
        refine wp_iload dX9_read_26 rfl (wp_aload_n dX9_read_28 rfl rfl (wp_alen (v := nI 260) dX9_read_29 (xsh hX sh_2) ⟨by decide, by decide⟩ rfl ?_))
        refine wn_icmp_ge dX9_read_30 rfl (by omega) (by omega) (fun c30 => absurd c30 (by omega)) (fun c30 => ?_)
        refine wp_aload_n dX9_read_33 rfl rfl (wp_iload dX9_read_34 rfl (wn_caload dX9_read_36 (xsh hX sh_2) rfl (by omega) (by decide) hch (wp_goto dX9_read_37 rfl (wp_istore dX9_read_42 ⟨Nat.le_of_ble_eq_true rfl, Or.inr rfl⟩ rfl (wp_iload dX9_read_44 rfl (wp_is1 dX9_read_46 k8_26 q_X11_isSmall (by decide) (Nat.le_of_ble_eq_true rfl) gs ?_))))))
        refine wb_if_eq dX9_read_49 rfl (fun c49 => ?_) (fun c49 => absurd c49 (by rw [hs]; decide))
        refine wp_iload dX9_read_97 rfl (wp_bipush (v := nI 32) dX9_read_99 rfl ?_)
        refine wn_icmp_ne dX9_read_101 rfl (by omega) (by omega) (fun c101 => absurd c101 (by omega)) (fun c101 => ?_)
        refine wp_iload dX9_read_104 rfl ?_
        refine wn_if_eq dX9_read_106 rfl (by omega) (fun c106 => absurd c106 (by omega)) (fun c106 => ?_)
        refine wp_aload_n dX9_read_109 rfl rfl (gv8_22 dX9_read_110 ha h3 (wp_iconst (v := nI 1) dX9_read_113 rfl (wv_iadd dX9_read_114 (nI_add _ _) (wp_aload_n dX9_read_115 rfl rfl (g8_15 dX9_read_116 ha rc (wp_alen dX9_read_119 hc ⟨by decide, by decide⟩ rfl ?_))))))
        refine wn_icmp_lt dX9_read_120 rfl (by omega) (by omega) (fun c120 => ?_) (fun c120 => absurd c120 (by omega))
        refine wp_aload_n dX9_read_125 rfl rfl (wp_dup dX9_read_126 rfl (gv8_22 dX9_read_127 ha h3 (wp_iconst (v := nI 1) dX9_read_130 rfl (wv_iadd dX9_read_131 (nI_add _ _) (p8_22 dX9_read_132 ha (wp_aload_n dX9_read_135 rfl rfl (g8_15 dX9_read_136 ha rc (wp_aload_n dX9_read_139 rfl rfl (gv8_22 dX9_read_140 ha (xI_same _ _ _ _) (wp_iload dX9_read_143 rfl (wn_iastore dX9_read_145 hc rfl (by omega) (by decide) (wp_iconst (v := nI 0) dX9_read_146 rfl (wp_istore dX9_read_147 ⟨Nat.le_of_ble_eq_true rfl, Or.inr rfl⟩ rfl (wp_iinc dX9_read_149 rfl (nI_1 _) ⟨Nat.le_of_ble_eq_true rfl, Or.inr rfl⟩ rfl (wp_goto dX9_read_152 rfl ?_)))))))))))))))
        refine wp_locals (ls' := [.ref a, .ref 2, .int (nI n), .int (nI most), .int (nI (xoff (acc ++ [cur]) (acc ++ [cur]).length + ([] : List Nat).length)), .int (nI ([] : List Nat).length), .int (nI (i + 1)), .int (nI (t i))]) (by rw [hll, hol]; rfl) ?_
        refine (ih (i + 1) (acc ++ [cur]) [] _ _ (by omega) (F1.XC hX) q2 (fun k hk => absurd hk (Nat.not_lt_zero k)) q1 (xWl_app hL hne hcur hsm) (by decide) (fun x hx => by cases hx) ⟨fun q => absurd rfl q, by omega, fun k hk => ⟨(hT k hk).1, F1.i (hT k hk).2 (by omega)⟩⟩).mono ?_
        rintro r S' ⟨bb, z1, z2, z3, z4⟩
        exact ⟨bb, z1, F1.tt z2, z3, z4⟩
      · have EX : xwsp t n most (j + 1) acc cur = none := by
          unfold xwsp
          rw [ein, if_neg (by rw [hs]; decide), if_neg hok]
        rcases Decidable.em (t i = 32) with h32 | h32
        · have hcn0 : cur = [] := by
            rcases Decidable.em (cur = []) with q | q
            · exact q
            · exact absurd ⟨h32, q, hm1 q⟩ hok
          subst hcn0
          refine wp_locals (ls' := [.ref a, .ref 2, .int (nI n), .int (nI most), .int (nI (xoff acc acc.length + 0)), .int (nI 0), .int (nI i), y]) rfl ?_
          refine wp_iload dX9_read_14 rfl (wp_iload_n dX9_read_16 rfl ?_)
          refine wn_icmp_gt dX9_read_17 rfl (by omega) (by omega) (fun c17 => absurd c17 (by omega)) (fun c17 => ?_)
          refine wp_iload dX9_read_20 rfl (wp_iload_n dX9_read_22 rfl ?_)
          refine wn_icmp_ge dX9_read_23 rfl (by omega) (by omega) (fun c23 => absurd c23 (by omega)) (fun c23 => ?_)
          refine wp_iload dX9_read_26 rfl (wp_aload_n dX9_read_28 rfl rfl (wp_alen (v := nI 260) dX9_read_29 (xsh hX sh_2) ⟨by decide, by decide⟩ rfl ?_))
          refine wn_icmp_ge dX9_read_30 rfl (by omega) (by omega) (fun c30 => absurd c30 (by omega)) (fun c30 => ?_)
          refine wp_aload_n dX9_read_33 rfl rfl (wp_iload dX9_read_34 rfl (wn_caload dX9_read_36 (xsh hX sh_2) rfl (by omega) (by decide) hch (wp_goto dX9_read_37 rfl (wp_istore dX9_read_42 ⟨Nat.le_of_ble_eq_true rfl, Or.inr rfl⟩ rfl (wp_iload dX9_read_44 rfl (wp_is1 dX9_read_46 k8_26 q_X11_isSmall (by decide) (Nat.le_of_ble_eq_true rfl) gs ?_))))))
          refine wb_if_eq dX9_read_49 rfl (fun c49 => ?_) (fun c49 => absurd c49 (by rw [hs]; decide))
          refine wp_iload dX9_read_97 rfl (wp_bipush (v := nI 32) dX9_read_99 rfl ?_)
          refine wn_icmp_ne dX9_read_101 rfl (by omega) (by omega) (fun c101 => absurd c101 (by omega)) (fun c101 => ?_)
          refine wp_iload dX9_read_104 rfl ?_
          refine wn_if_eq dX9_read_106 rfl (by omega) (fun c106 => ?_) (fun c106 => absurd c106 (by omega))
          exact wp_iconst (v := nI 0) dX9_read_123 rfl (wb_ret dX9_read_124 rfl rfl ⟨false, rfl, rf, fun _ => rfl, fun l hl => (by rw [EX] at hl; cases hl)⟩)
        · refine wp_iload dX9_read_14 rfl (wp_iload_n dX9_read_16 rfl ?_)
          refine wn_icmp_gt dX9_read_17 rfl (by omega) (by omega) (fun c17 => absurd c17 (by omega)) (fun c17 => ?_)
          refine wp_iload dX9_read_20 rfl (wp_iload_n dX9_read_22 rfl ?_)
          refine wn_icmp_ge dX9_read_23 rfl (by omega) (by omega) (fun c23 => absurd c23 (by omega)) (fun c23 => ?_)
          refine wp_iload dX9_read_26 rfl (wp_aload_n dX9_read_28 rfl rfl (wp_alen (v := nI 260) dX9_read_29 (xsh hX sh_2) ⟨by decide, by decide⟩ rfl ?_))
          refine wn_icmp_ge dX9_read_30 rfl (by omega) (by omega) (fun c30 => absurd c30 (by omega)) (fun c30 => ?_)
          refine wp_aload_n dX9_read_33 rfl rfl (wp_iload dX9_read_34 rfl (wn_caload dX9_read_36 (xsh hX sh_2) rfl (by omega) (by decide) hch (wp_goto dX9_read_37 rfl (wp_istore dX9_read_42 ⟨Nat.le_of_ble_eq_true rfl, Or.inr rfl⟩ rfl (wp_iload dX9_read_44 rfl (wp_is1 dX9_read_46 k8_26 q_X11_isSmall (by decide) (Nat.le_of_ble_eq_true rfl) gs ?_))))))
          refine wb_if_eq dX9_read_49 rfl (fun c49 => ?_) (fun c49 => absurd c49 (by rw [hs]; decide))
          refine wp_iload dX9_read_97 rfl (wp_bipush (v := nI 32) dX9_read_99 rfl ?_)
          refine wn_icmp_ne dX9_read_101 rfl (by omega) (by omega) (fun c101 => ?_) (fun c101 => absurd c101 (by omega))
          exact wp_iconst (v := nI 0) dX9_read_123 rfl (wb_ret dX9_read_124 rfl rfl ⟨false, rfl, rf, fun _ => rfl, fun l hl => (by rw [EX] at hl; cases hl)⟩)
theorem c_wread {a b c e n most : Nat} {t : Nat → Nat} (d : Nat) (hw : xWo a b c e) (hmo : most ≤ 12) (hn : n ≤ 260) {S : xS} (hX : XC S) (h0 : S.2.1 c 0 = nI 0) (hT : ∀ k, k < n → t k < 256 ∧ S.2.1 2 k = nI (t k)) : ∃ bb S', xcall false (d + 1) j_X9_read [.ref a, .ref 2, .int (nI n), .int (nI most)] S (some (.int (xB bb))) S' ∧ xFl (fun i k => i = b ∨ (i = c ∧ 1 ≤ k) ∨ (i = a ∧ k = 3)) S S' ∧ (xwsp t n most n [] [] = none → bb = false) ∧ (∀ l, xwsp t n most n [] [] = some l → bb = true ∧ S'.2.1 a 3 = nI l.length ∧ xWL b c S' l) := by
  have hwu := hw
  unfold xWo at hwu
  obtain ⟨ha, hb, hc, he, rb, rc, re⟩ := hw.sh hX
  have F0 : xFl (fun i k => i = a ∧ k = 3) S (xSI S a 3 (nI 0)) := (xFl.rf S).SI ⟨rfl, rfl⟩
  have key : ∃ r S', xcall false (d + 1) j_X9_read [.ref a, .ref 2, .int (nI n), .int (nI most)] S r S' ∧ (∃ bb, r = some (.int (xB bb)) ∧ xFl (fun i k => i = b ∨ (i = c ∧ 1 ≤ k) ∨ (i = a ∧ k = 3)) (xSI S a 3 (nI 0)) S' ∧ (xwsp t n most n [] [] = none → bb = false) ∧ (∀ l, xwsp t n most n [] [] = some l → bb = true ∧ S'.2.1 a 3 = nI l.length ∧ xWL b c S' l)) := by
    refine xcall_some (ls := [.ref a, .ref 2, .int (nI n), .int (nI most), .float 0, .float 0, .float 0, .float 0]) q_X9_read (by decide) rfl (Nat.le_of_ble_eq_true rfl) rfl ?_
    exact wp_iconst (v := nI 0) dX9_read_0 rfl (wp_istore dX9_read_1 ⟨Nat.le_of_ble_eq_true rfl, Or.inr rfl⟩ rfl (wp_iconst (v := nI 0) dX9_read_3 rfl (wp_istore dX9_read_4 ⟨Nat.le_of_ble_eq_true rfl, Or.inr rfl⟩ rfl (wp_aload_n dX9_read_6 rfl rfl (wp_iconst (v := nI 0) dX9_read_7 rfl (p8_22 dX9_read_8 ha (wp_iconst (v := nI 0) dX9_read_11 rfl (wp_istore dX9_read_12 ⟨Nat.le_of_ble_eq_true rfl, Or.inr rfl⟩ rfl (wr_loop d hw hmo hn n 0 [] [] (xSI S a 3 (nI 0)) _ (by omega) (F0.XC hX) (xI_same _ _ _ _) (fun k hk => absurd hk (Nat.not_lt_zero k)) ⟨fun q hq => (by have : q = 0 := Nat.le_zero.mp hq; subst this; exact xi h0 (Or.inl (by omega))), fun q k hq => absurd hq (Nat.not_lt_zero q)⟩ (fun x hx => by cases hx) (by decide) (fun x hx => by cases hx) ⟨fun q => absurd rfl q, Nat.zero_le _, fun k hk => ⟨(hT k hk).1, F0.i (hT k hk).2 (by omega)⟩⟩)))))))))
  obtain ⟨r, S', g, bb, rfl, z1, z2, z3⟩ := key
  exact ⟨bb, S', g, (F0.mono (fun i k h => Or.inr (Or.inr h))).tt z1, z2, z3⟩
