/-! TOKENS of the class: cell 3 over the bytes in cell 2 -/
/-- the text that the tokens go over -/
def xTx (S : xS) (n : Nat) (t : Nat → Nat) : Prop := S.2.2.1 3 0 = some 2 ∧ S.2.1 3 1 = nI n ∧ n ≤ 260 ∧ ∀ k, k < n → t k < 256 ∧ S.2.1 2 k = nI (t k)
/-- the token behind p is the one that stands -/
def xTC (S : xS) (n : Nat) (t : Nat → Nat) (p : Nat) : Prop := p ≤ n ∧ S.2.1 3 2 = nI (xts t n p) ∧ S.2.1 3 3 = nI (xta t n p) ∧ S.2.1 3 4 = nI (xtk t n p)
theorem xTx.fr {S S' : xS} {n : Nat} {t : Nat → Nat} {P : Nat → Nat → Prop} (h : xTx S n t) (hf : xFl P S S') (h1 : ¬ P 3 1) (h2 : ∀ k, ¬ P 2 k) : xTx S' n t :=
  ⟨hf.r h.1, hf.i h.2.1 h1, h.2.2.1, fun k hk => ⟨(h.2.2.2 k hk).1, hf.i (h.2.2.2 k hk).2 (h2 k)⟩⟩
theorem xTC.fr {S S' : xS} {n : Nat} {t : Nat → Nat} {p : Nat} {P : Nat → Nat → Prop} (h : xTC S n t p) (hf : xFl P S S') (h2 : ¬ P 3 2) (h3 : ¬ P 3 3) (h4 : ¬ P 3 4) : xTC S' n t p :=
  ⟨h.1, hf.i h.2.1 h2, hf.i h.2.2.1 h3, hf.i h.2.2.2 h4⟩
theorem c_kindOfRun {l n : Nat} (hl : l < 2 ^ 31) (hn : n < 2 ^ 31) (d : Nat) (S : xS) : xcall false d j_X7_kindOfRun [.int (nI l), .int (nI n)] S (some (.int (nI (if l = n ∧ n ≤ 12 then 1 else if l = 0 ∧ n = 1 then 2 else 4)))) S := by
  refine xcall_intro (ls := [.int (nI l), .int (nI n)]) q_X7_kindOfRun (by decide) rfl (Nat.le_of_ble_eq_true rfl) rfl ?_
  refine wp_iload_n dX7_kindOfRun_0 rfl (wp_iload_n dX7_kindOfRun_1 rfl ?_)
  refine wn_icmp_ne dX7_kindOfRun_2 rfl (by omega) (by omega) (fun c2 => ?_) (fun c2 => ?_)
  · refine wp_iload_n dX7_kindOfRun_13 rfl ?_
    refine wn_if_ne dX7_kindOfRun_14 rfl (by omega) (fun c14 => ?_) (fun c14 => ?_)
    · exact wp_iconst (v := nI 4) dX7_kindOfRun_26 rfl (wp_ireturn dX7_kindOfRun_27 rfl rfl ⟨xret (by split <;> (try split) <;> omega), rfl⟩)
    · refine wp_iload_n dX7_kindOfRun_17 rfl (wp_iconst (v := nI 1) dX7_kindOfRun_18 rfl ?_)
      refine wn_icmp_ne dX7_kindOfRun_19 rfl (by omega) (by omega) (fun c19 => ?_) (fun c19 => ?_)
      · exact wp_iconst (v := nI 4) dX7_kindOfRun_26 rfl (wp_ireturn dX7_kindOfRun_27 rfl rfl ⟨xret (by split <;> (try split) <;> omega), rfl⟩)
      · exact wp_iconst (v := nI 2) dX7_kindOfRun_22 rfl (wp_goto dX7_kindOfRun_23 rfl (wp_ireturn dX7_kindOfRun_27 rfl rfl ⟨xret (by split <;> (try split) <;> omega), rfl⟩))
  · refine wp_iload_n dX7_kindOfRun_5 rfl (wp_bipush (v := nI 12) dX7_kindOfRun_6 rfl ?_)
    refine wn_icmp_gt dX7_kindOfRun_8 rfl (by omega) (by omega) (fun c8 => ?_) (fun c8 => ?_)
    · refine wp_iload_n dX7_kindOfRun_13 rfl ?_
      refine wn_if_ne dX7_kindOfRun_14 rfl (by omega) (fun c14 => ?_) (fun c14 => ?_)
      · exact wp_iconst (v := nI 4) dX7_kindOfRun_26 rfl (wp_ireturn dX7_kindOfRun_27 rfl rfl ⟨xret (by split <;> (try split) <;> omega), rfl⟩)
      · refine wp_iload_n dX7_kindOfRun_17 rfl (wp_iconst (v := nI 1) dX7_kindOfRun_18 rfl ?_)
        refine wn_icmp_ne dX7_kindOfRun_19 rfl (by omega) (by omega) (fun c19 => ?_) (fun c19 => ?_)
        · exact wp_iconst (v := nI 4) dX7_kindOfRun_26 rfl (wp_ireturn dX7_kindOfRun_27 rfl rfl ⟨xret (by split <;> (try split) <;> omega), rfl⟩)
        · exact wp_iconst (v := nI 2) dX7_kindOfRun_22 rfl (wp_goto dX7_kindOfRun_23 rfl (wp_ireturn dX7_kindOfRun_27 rfl rfl ⟨xret (by split <;> (try split) <;> omega), rfl⟩))
    · exact wp_iconst (v := nI 1) dX7_kindOfRun_11 rfl (wp_ireturn dX7_kindOfRun_12 rfl rfl ⟨by rw [if_pos (by omega)], rfl⟩)
theorem step_skip {S : xS} {n : Nat} {t : Nat → Nat} {d : Nat} {Q : Option Value → xS → Prop} (hX : XC S) (hT : xTx S n t) : ∀ (j i : Nat), i + j = n → Wp false (d + 1) 6 cX7_step none false 41 [.ref 3, .int (nI (xskip t j i)), .float 0] [] S Q → Wp false (d + 1) 6 cX7_step none false 5 [.ref 3, .int (nI i), .float 0] [] S Q := by
  obtain ⟨hr, hn, hle, hb⟩ := hT
  intro j
  induction j with
  | zero =>
    intro i hi k
    refine wp_iload_n dX7_step_5 rfl (wp_aload_n dX7_step_6 rfl rfl (gv6_21 dX7_step_7 (xsh hX sh_3) hn ?_))
    refine wn_icmp_ge dX7_step_10 rfl (by omega) (by omega) (fun c10 => ?_) (fun c10 => absurd c10 (by omega))
    exact k
  | succ j ih =>
    intro i hi k
    obtain ⟨hc, hv⟩ := hb i (by omega)
    refine wp_iload_n dX7_step_5 rfl (wp_aload_n dX7_step_6 rfl rfl (gv6_21 dX7_step_7 (xsh hX sh_3) hn ?_))
    refine wn_icmp_ge dX7_step_10 rfl (by omega) (by omega) (fun c10 => absurd c10 (by omega)) (fun c10 => ?_)
    refine wp_aload_n dX7_step_13 rfl rfl (g6_9 dX7_step_14 (xsh hX sh_3) hr (wp_iload_n dX7_step_17 rfl (wn_caload dX7_step_18 (xsh hX sh_2) rfl (by omega) (by decide) hv (wp_bipush (v := nI 32) dX7_step_19 rfl ?_))))
    refine wn_icmp_eq dX7_step_21 rfl (by omega) (by omega) (fun c21 => ?_) (fun c21 => ?_)
    · exact wp_iinc dX7_step_35 rfl (nI_1 _) ⟨Nat.le_of_ble_eq_true rfl, Or.inr rfl⟩ rfl (wp_goto dX7_step_38 rfl (ih (i + 1) (by omega) (wp_locals (by rw [xskip, if_pos (by omega)]) k)))
    · refine wp_aload_n dX7_step_24 rfl rfl (g6_9 dX7_step_25 (xsh hX sh_3) hr (wp_iload_n dX7_step_28 rfl (wn_caload dX7_step_29 (xsh hX sh_2) rfl (by omega) (by decide) hv (wp_bipush (v := nI 10) dX7_step_30 rfl ?_))))
      refine wn_icmp_ne dX7_step_32 rfl (by omega) (by omega) (fun c32 => ?_) (fun c32 => ?_)
      · exact wp_locals (by rw [xskip, if_neg (by omega)]) k
      · exact wp_iinc dX7_step_35 rfl (nI_1 _) ⟨Nat.le_of_ble_eq_true rfl, Or.inr rfl⟩ rfl (wp_goto dX7_step_38 rfl (ih (i + 1) (by omega) (wp_locals (by rw [xskip, if_pos (by omega)]) k)))
theorem step_run {S : xS} {n : Nat} {t : Nat → Nat} {d : Nat} {Q : Option Value → xS → Prop} (hX : XC S) (hT : xTx S n t) : ∀ (j i c : Nat), i + j = n → c ≤ i → Wp false (d + 1) 6 cX7_step none false 101 [.ref 3, .int (nI (xrunE t j i)), .int (nI (c + xlets t j i))] [] S Q → Wp false (d + 1) 6 cX7_step none false 48 [.ref 3, .int (nI i), .int (nI c)] [] S Q := by
  obtain ⟨hr, hn, hle, hb⟩ := hT
  intro j
  induction j with
  | zero =>
    intro i c hi hci k
    refine wp_iload_n dX7_step_48 rfl (wp_aload_n dX7_step_49 rfl rfl (gv6_21 dX7_step_50 (xsh hX sh_3) hn ?_))
    refine wn_icmp_ge dX7_step_53 rfl (by omega) (by omega) (fun c53 => ?_) (fun c53 => absurd c53 (by omega))
    exact k
  | succ j ih =>
    intro i c hi hci k
    obtain ⟨hc, hv⟩ := hb i (by omega)
    have e0 : xwc (t i) = (xsm (t i) || xdg (t i)) := rfl
    have tl (hw : xwc (t i) = true) : Wp false (d + 1) 6 cX7_step none false 80 [.ref 3, .int (nI i), .int (nI c)] [] S Q := by
      refine wp_aload_n dX7_step_80 rfl rfl (g6_9 dX7_step_81 (xsh hX sh_3) hr (wp_iload_n dX7_step_84 rfl (wn_caload dX7_step_85 (xsh hX sh_2) rfl (by omega) (by decide) hv (wp_is1 dX7_step_86 k6_37 q_X11_isSmall (by decide) (Nat.le_of_ble_eq_true rfl) (c_isSmall (by omega) d S) ?_))))
      refine wb_if_eq dX7_step_89 rfl (fun c89 => ?_) (fun c89 => ?_)
      · exact wp_iinc dX7_step_95 rfl (nI_1 _) ⟨Nat.le_of_ble_eq_true rfl, Or.inr rfl⟩ rfl (wp_goto dX7_step_98 rfl (ih (i + 1) c (by omega) (by omega) (wp_locals (by rw [xrunE, xlets, if_pos hw, if_pos hw, if_neg (by rw [c89]; decide), Nat.zero_add]) k)))
      · exact wp_iinc dX7_step_92 rfl (nI_1 _) ⟨Nat.le_of_ble_eq_true rfl, Or.inr rfl⟩ rfl (wp_iinc dX7_step_95 rfl (nI_1 _) ⟨Nat.le_of_ble_eq_true rfl, Or.inr rfl⟩ rfl (wp_goto dX7_step_98 rfl (ih (i + 1) (c + 1) (by omega) (by omega) (wp_locals (by rw [xrunE, xlets, if_pos hw, if_pos hw, if_pos c89, Nat.add_assoc]) k))))
    refine wp_iload_n dX7_step_48 rfl (wp_aload_n dX7_step_49 rfl rfl (gv6_21 dX7_step_50 (xsh hX sh_3) hn ?_))
    refine wn_icmp_ge dX7_step_53 rfl (by omega) (by omega) (fun c53 => absurd c53 (by omega)) (fun c53 => ?_)
    refine wp_aload_n dX7_step_56 rfl rfl (g6_9 dX7_step_57 (xsh hX sh_3) hr (wp_iload_n dX7_step_60 rfl (wn_caload dX7_step_61 (xsh hX sh_2) rfl (by omega) (by decide) hv (wp_is1 dX7_step_62 k6_37 q_X11_isSmall (by decide) (Nat.le_of_ble_eq_true rfl) (c_isSmall (by omega) d S) ?_))))
    refine wb_if_ne dX7_step_65 rfl (fun c65 => ?_) (fun c65 => ?_)
    · exact tl (by rw [e0, c65]; rfl)
    · refine wp_aload_n dX7_step_68 rfl rfl (g6_9 dX7_step_69 (xsh hX sh_3) hr (wp_iload_n dX7_step_72 rfl (wn_caload dX7_step_73 (xsh hX sh_2) rfl (by omega) (by decide) hv (wp_is1 dX7_step_74 k6_41 q_X11_isDigit (by decide) (Nat.le_of_ble_eq_true rfl) (c_isDigit (by omega) d S) ?_))))
      refine wb_if_eq dX7_step_77 rfl (fun c77 => ?_) (fun c77 => ?_)
      · exact wp_locals (by rw [xrunE, xlets, if_neg (by rw [e0, c65, c77]; decide), if_neg (by rw [e0, c65, c77]; decide)]; rfl) k
      · exact tl (by rw [e0, c65, c77]; rfl)
theorem c_step (d : Nat) {S : xS} {n p : Nat} {t : Nat → Nat} (hX : XC S) (hT : xTx S n t) (hp : S.2.1 3 3 = nI p) (hpn : p ≤ n) : ∃ S', xcall false (d + 1) j_X7_step [.ref 3] S none S' ∧ xFl (fun a k => a = 3 ∧ (k = 2 ∨ k = 3 ∨ k = 4)) S S' ∧ xTC S' n t p := by
  have hT0 := hT
  obtain ⟨hr, hn, hle, hb⟩ := hT
  have hs := xts_b t hpn
  have hl := xlets_b t (n - xts t n p) (xts t n p)
  have hl2 : xts t n p + xtl t n p ≤ xte t n p := hl
  have X1 : XC (xSI S 3 2 (nI (xts t n p))) := hX
  have T1 : xTx (xSI S 3 2 (nI (xts t n p))) n t := hT0
  have F1 : xFl (fun a k => a = 3 ∧ (k = 2 ∨ k = 3 ∨ k = 4)) S (xSI S 3 2 (nI (xts t n p))) := (xFl.rf S).SI ⟨rfl, Or.inl rfl⟩
  have A : ∀ (x y : Nat), x = xta t n p → y = xtk t n p → xTC (xSI (xSI (xSI S 3 2 (nI (xts t n p))) 3 3 (nI x)) 3 4 (nI y)) n t p := by
    intro x y hx hy
    refine ⟨hpn, ?_, ?_, ?_⟩
    · rw [xI_ne _ _ (Or.inr (by decide)), xI_ne _ _ (Or.inr (by decide)), xI_same]
    · rw [xI_ne _ _ (Or.inr (by decide)), xI_same, hx]
    · rw [xI_same, hy]
  have B : ∀ (w x y : Nat), x = xta t n p → y = xtk t n p → xTC (xSI (xSI (xSI (xSI S 3 2 (nI (xts t n p))) 3 3 (nI w)) 3 4 (nI y)) 3 3 (nI x)) n t p := by
    intro w x y hx hy
    refine ⟨hpn, ?_, ?_, ?_⟩
    · rw [xI_ne _ _ (Or.inr (by decide)), xI_ne _ _ (Or.inr (by decide)), xI_ne _ _ (Or.inr (by decide)), xI_same]
    · rw [xI_same, hx]
    · rw [xI_ne _ _ (Or.inr (by decide)), xI_same, hy]
  obtain ⟨r, S', h1, h2, h3⟩ := xcall_some (al := false) (d := d + 1) (ls := [.ref 3, .float 0, .float 0]) (S := S) (as := [.ref 3]) q_X7_step (by decide) rfl (Nat.le_of_ble_eq_true rfl) rfl
    (P := fun r S' => r = none ∧ xFl (fun a k => a = 3 ∧ (k = 2 ∨ k = 3 ∨ k = 4)) S S' ∧ xTC S' n t p) (by
      have t101 : Wp false (d + 1) 6 cX7_step none false 101 [.ref 3, .int (nI (xte t n p)), .int (nI (xtl t n p))] [] (xSI S 3 2 (nI (xts t n p))) (fun r S' => r = none ∧ xFl (fun a k => a = 3 ∧ (k = 2 ∨ k = 3 ∨ k = 4)) S S' ∧ xTC S' n t p) := by
        refine wp_aload_n dX7_step_101 rfl rfl (wp_iload_n dX7_step_102 rfl (p6_25 dX7_step_103 (xsh X1 sh_3) (wp_iload_n dX7_step_106 rfl (wp_aload_n dX7_step_107 rfl rfl (gv6_34 dX7_step_108 (xsh X1 sh_3) (xi (xI_same _ _ _ _) (Or.inr (by decide))) ?_)))))
        refine wn_icmp_le dX7_step_111 rfl (by omega) (by omega) (fun c111 => ?_) (fun c111 => ?_)
        · refine wp_iload_n dX7_step_131 rfl (wp_aload_n dX7_step_132 rfl rfl (gv6_21 dX7_step_133 (xsh X1 sh_3) (xi hn (Or.inr (by decide))) ?_))
          refine wn_icmp_lt dX7_step_136 rfl (by omega) (by omega) (fun c136 => ?_) (fun c136 => ?_)
          · have ee : xte t n p = xts t n p := by omega
            rw [ee]
            obtain ⟨hc, hv⟩ := hb (xts t n p) (by omega)
            refine wp_aload_n dX7_step_147 rfl rfl (wp_aload_n dX7_step_148 rfl rfl (g6_9 dX7_step_149 (xsh X1 sh_3) hr (wp_iload_n dX7_step_152 rfl (wn_caload dX7_step_153 (xsh X1 sh_2) rfl (by omega) (by decide) hv (wp_bipush (v := nI 59) dX7_step_154 rfl ?_)))))
            refine wn_icmp_ne dX7_step_156 rfl (by omega) (by omega) (fun c156 => ?_) (fun c156 => ?_)
            · exact wp_iconst (v := nI 4) dX7_step_163 rfl (p6_47 dX7_step_164 (xsh X1 sh_3) (wp_aload_n dX7_step_167 rfl rfl (wp_iload_n dX7_step_168 rfl (wp_iconst (v := nI 1) dX7_step_169 rfl (wv_iadd dX7_step_170 (nI_add _ _) (p6_25 dX7_step_171 (xsh X1 sh_3) (wp_return dX7_step_174 rfl ⟨rfl, ((F1.SI (Or.inr (Or.inl rfl) |> fun q => ⟨rfl, q⟩)).SI ⟨rfl, Or.inr (Or.inr rfl)⟩).SI ⟨rfl, Or.inr (Or.inl rfl)⟩, B _ _ _ (by unfold xta; rw [if_neg (by omega), if_neg (by omega)]) (by unfold xtk; rw [if_neg (by omega), if_neg (by omega), if_neg c156])⟩)))))))
            · exact wp_iconst (v := nI 3) dX7_step_159 rfl (wp_goto dX7_step_160 rfl (p6_47 dX7_step_164 (xsh X1 sh_3) (wp_aload_n dX7_step_167 rfl rfl (wp_iload_n dX7_step_168 rfl (wp_iconst (v := nI 1) dX7_step_169 rfl (wv_iadd dX7_step_170 (nI_add _ _) (p6_25 dX7_step_171 (xsh X1 sh_3) (wp_return dX7_step_174 rfl ⟨rfl, ((F1.SI (Or.inr (Or.inl rfl) |> fun q => ⟨rfl, q⟩)).SI ⟨rfl, Or.inr (Or.inr rfl)⟩).SI ⟨rfl, Or.inr (Or.inl rfl)⟩, B _ _ _ (by unfold xta; rw [if_neg (by omega), if_neg (by omega)]) (by unfold xtk; rw [if_neg (by omega), if_neg (by omega), if_pos c156])⟩))))))))
          · exact wp_aload_n dX7_step_139 rfl rfl (wp_iconst (v := nI 0) dX7_step_140 rfl (p6_47 dX7_step_141 (xsh X1 sh_3) (wp_goto dX7_step_144 rfl (wp_return dX7_step_174 rfl ⟨rfl, (F1.SI (Or.inr (Or.inl rfl) |> fun q => ⟨rfl, q⟩)).SI ⟨rfl, Or.inr (Or.inr rfl)⟩, A _ _ (by unfold xta; rw [if_neg (by omega), if_pos (by omega)]; omega) (by unfold xtk; rw [if_neg (by omega), if_pos (by omega)])⟩))))
        · exact wp_aload_n dX7_step_114 rfl rfl (wp_iload_n dX7_step_115 rfl (wp_iload_n dX7_step_116 rfl (wp_aload_n dX7_step_117 rfl rfl (gv6_34 dX7_step_118 (xsh X1 sh_3) (xi (xI_same _ _ _ _) (Or.inr (by decide))) (wv_isub dX7_step_121 (pk_sub (by omega)) (wp_is2 dX7_step_122 k6_44 q_X7_kindOfRun (by decide) (Nat.le_of_ble_eq_true rfl) (c_kindOfRun (by omega) (by omega) d _) (p6_47 dX7_step_125 (xsh X1 sh_3) (wp_goto dX7_step_128 rfl (wp_return dX7_step_174 rfl ⟨rfl, (F1.SI (Or.inr (Or.inl rfl) |> fun q => ⟨rfl, q⟩)).SI ⟨rfl, Or.inr (Or.inr rfl)⟩, A _ _ (by unfold xta; rw [if_pos c111]) (by unfold xtk; rw [if_pos c111])⟩)))))))))
      have t41 : Wp false (d + 1) 6 cX7_step none false 41 [.ref 3, .int (nI (xts t n p)), .float 0] [] S (fun r S' => r = none ∧ xFl (fun a k => a = 3 ∧ (k = 2 ∨ k = 3 ∨ k = 4)) S S' ∧ xTC S' n t p) := by
        refine wp_aload_n dX7_step_41 rfl rfl (wp_iload_n dX7_step_42 rfl (p6_34 dX7_step_43 (xsh hX sh_3) (wp_iconst (v := nI 0) dX7_step_46 rfl (wp_istore_n dX7_step_47 ⟨Nat.le_of_ble_eq_true rfl, Or.inr rfl⟩ rfl ?_))))
        refine step_run X1 T1 (n - xts t n p) (xts t n p) 0 (by omega) (Nat.zero_le _) ?_
        rw [Nat.zero_add]
        have e6 : xrunE t (n - xts t n p) (xts t n p) = xte t n p := rfl
        have e7 : xlets t (n - xts t n p) (xts t n p) = xtl t n p := rfl
        rw [e6, e7]
        exact t101
      refine wp_aload_n dX7_step_0 rfl rfl (gv6_25 dX7_step_1 (xsh hX sh_3) hp (wp_istore_n dX7_step_4 ⟨Nat.le_of_ble_eq_true rfl, Or.inr rfl⟩ rfl ?_))
      refine step_skip hX hT0 (n - p) p (by omega) ?_
      have e5 : xskip t (n - p) p = xts t n p := rfl
      rw [e5]
      exact t41)
  subst h2
  exact ⟨S', h1, h3⟩
