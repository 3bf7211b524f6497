/-! rhyme of the reference, whole -/
def xrfin (L : List xLn) : Except (Nat × Nat) (List xLn) := if xsnd L = false then .error (3, 0) else .ok L
theorem xra_end {t : Nat → Nat} {m s tm st : Nat} {big : Bool} {D : List xLn} {I : List xIt} {o : xIt} (hb : big = false) (hs : 4 ≤ s) : xra t m big 0 (s, D, tm, st, I, o) = xrfin (D ++ [(tm, st, I ++ [o])]) := by
  unfold xra xrfin
  rw [if_neg (by rw [hb]; simp; omega)]
theorem mrl {n s d : Nat} {t : Nat → Nat} {x3 x4 : Value} {XX : Except (Nat × Nat) (List xLn)} {Q : Option Value → xS → Prop} : ∀ (j p : Nat) (D : List xLn) (S : xS), D.length + j = 16 → 1 ≤ j → xra t (min n 240) (decide (min n 240 < n)) (min n 240 - p) (0, D, 1, 0, [], (0, 0, 0)) = XX → p ≤ min n 240 → XC S → xTxM S n t → S.2.1 187 4 = nI p → xMA S (D.flatMap xmit) → xMLn S D → 2 * (D.flatMap xmit).length ≤ p → (∀ x ∈ D.flatMap xmit, x.1 ≤ 4) → S.2.1 187 9 = nI 0 → (∀ e z S', XX = .error (e, z) → xFl xFL2 S S' → S'.2.1 187 9 = nI e → S'.2.1 187 10 = nI z → Q (some (.int (-1 - nI z))) S') → (∀ L S', XX = xrfin L → n ≤ 240 → L.length ≤ 16 → (∀ x ∈ L.flatMap xmit, x.1 ≤ 4) → (L.flatMap xmit).length ≤ 121 → xFl xFL2 S S' → xMA S' (L.flatMap xmit) → xMLn S' L → S'.2.1 187 9 = nI 0 → Wp false (d + 4) 11 cX12_rhyme (some .int) false 160 [.ref 187, .int (nI s), .int (nI 0), x3, x4] [] S' Q) → Wp false (d + 4) 11 cX12_rhyme (some .int) false 40 [.ref 187, .int (nI s), .int (nI 1), x3, x4] [] S Q := by
  intro j
  induction j with
  | zero => intro p D S hj h1; omega
  | succ j ih =>
    intro p D S hj hj1 hX0 hpm hX hT hp hA hL h2 hk h9 ke ko
    have hle := hT.2.1
    obtain ⟨b, S1, gl, f1, x1, x2⟩ := m_line d hX hT hp hpm (by omega) hA hL h2
    have X1 := f1.XC hX
    have T1 : xTxM S1 n t := hT.fr f1 (by unfold xFL2; omega) (fun k => by unfold xFL2; omega)
    have hs1 := T1.1
    cases b with
    | false =>
      obtain ⟨e, z, hE, c9, c10⟩ := x1 rfl
      have kk := ke e z S1 (hX0.symm.trans hE) f1 c9 c10
      refine wp_iload_n dX12_rhyme_40 rfl ?_
      refine wn_if_eq dX12_rhyme_41 rfl (by omega) (fun c41 => absurd c41 (by omega)) (fun c41 => ?_)
      refine wp_aload_n dX12_rhyme_44 rfl rfl (wp_iv1 dX12_rhyme_45 k11_201 q_X12_line (by decide) (xsh hX sh_187) (by decide) (Nat.le_of_ble_eq_true rfl) gl ?_)
      refine wb_if_ne dX12_rhyme_48 rfl (fun c48 => absurd c48 (by decide)) (fun c48 => ?_)
      exact wp_iconst (v := -1) dX12_rhyme_51 rfl (wp_aload_n dX12_rhyme_52 rfl rfl (gv11_54 dX12_rhyme_53 (xsh X1 sh_187) c10 (wv_isub dX12_rhyme_56 rfl (wp_ireturn dX12_rhyme_57 rfl rfl kk))))
    | true =>
      obtain ⟨tm, st, I, o, p', hx, hpp, hpm2, htm, hI4, w4, hst, c4, c9', hn2, m1, ln1⟩ := x2 rfl
      have c9 : S1.2.1 187 9 = nI 0 := c9'.trans h9
      have hx2 := hX0.symm.trans hx
      have hll := xlen1 D (tm, st, I ++ [o])
      have h40 : S1.2.1 187 40 = nI (D.length + 1) := by rw [← hll]; exact ln1.1
      have hk2 : ∀ x ∈ (D ++ [(tm, st, I ++ [o])]).flatMap xmit, x.1 ≤ 4 := by
        intro x hx3
        rw [xflat_snoc] at hx3
        exact (List.mem_append.mp hx3).elim (hk x) (hI4 x)
      have gb := m_isBeyond (d + 3) X1 T1 c4 hpm2
      have F2 : xFl xFL2 S (xSI S1 187 4 (nI (p' + 1))) := f1.SI (Or.inl ⟨rfl, by omega⟩)
      have F3 : xFl (fun i k => i = 187 ∧ k = 4) S1 (xSI S1 187 4 (nI (p' + 1))) := (xFl.rf S1).SI ⟨rfl, rfl⟩
      have m2 := m1.fr F3 (fun i k h => by omega)
      have ln2 := ln1.fr F3 (fun i k h => by omega)
      have q9 : (xSI S1 187 4 (nI (p' + 1))).2.1 187 9 = nI 0 := F3.i c9 (by omega)
      have fin (hpe : p' = min n 240) (hnb : n ≤ 240) : Wp false (d + 4) 11 cX12_rhyme (some .int) false 160 [.ref 187, .int (nI s), .int (nI 0), x3, x4] [] (xSI S1 187 4 (nI (p' + 1))) Q := by
        refine ko (D ++ [(tm, st, I ++ [o])]) _ ?_ hnb (by omega) hk2 (by omega) F2 m2 ln2 q9
        rw [hx2, hpe, Nat.sub_self]
        exact xra_end (decide_eq_false (by omega)) (by split <;> decide)
      have bad (e : Nat) (EX : XX = .error (e, p')) : Q (some (.int (-1 - nI p'))) (xSI (xSI S1 187 9 (nI e)) 187 10 (nI p')) :=
        ke e p' _ EX ((f1.SI (Or.inl ⟨rfl, by omega⟩)).SI (Or.inl ⟨rfl, by omega⟩)) (xi (xI_same _ _ _ _) (Or.inr (by decide))) (xI_same _ _ _ _)
      have gbad := m_bad (d + 2) X1 T1 c4 hpm2
      rcases Nat.lt_or_ge p' (min n 240) with hl | hg
      · have n4 : o.1 ≠ 4 := fun w => by have := (w4 w).1; omega
        rw [if_neg n4] at hx2
        have hn32 := hst n4 hl
        rw [show decide (240 < n ∧ 240 ≤ p') = false from decide_eq_false (by omega)] at gb
        have gp := m_peek (d + 3) X1 T1 c4 (by omega)
        have hc := (hT.2.2 p' (by omega)).1
        rcases Decidable.em (t p' = 47) with e47 | e47
        · rcases Nat.lt_or_ge (D.length + 1) 16 with hd | hd
          · have hx3 : xra t (min n 240) (decide (min n 240 < n)) (min n 240 - (p' + 1)) (0, (D ++ [(tm, st, I ++ [o])]), 1, 0, [], (0, 0, 0)) = XX := by
              rw [hx2]
              refine (xra_step hl ?_).symm
              unfold xst xstb
              rw [if_neg (by decide), if_neg (by decide), if_neg (by decide), if_neg (by decide), if_neg (by decide), if_pos rfl, if_neg hn32, if_pos e47, if_neg (by omega)]
            refine wp_iload_n dX12_rhyme_40 rfl ?_
            refine wn_if_eq dX12_rhyme_41 rfl (by omega) (fun c41 => absurd c41 (by omega)) (fun c41 => ?_)
            refine wp_aload_n dX12_rhyme_44 rfl rfl (wp_iv1 dX12_rhyme_45 k11_201 q_X12_line (by decide) (xsh hX sh_187) (by decide) (Nat.le_of_ble_eq_true rfl) gl ?_)
            refine wb_if_ne dX12_rhyme_48 rfl (fun c48 => ?_) (fun c48 => absurd c48 (by decide))
            refine wp_aload_n dX12_rhyme_58 rfl rfl (wp_iv1 dX12_rhyme_59 k11_192 q_X12_isBeyond (by decide) (xsh X1 sh_187) (by decide) (Nat.le_of_ble_eq_true rfl) gb ?_)
            refine wb_if_ne dX12_rhyme_62 rfl (fun c62 => absurd c62 (by decide)) (fun c62 => ?_)
            refine wp_aload_n dX12_rhyme_65 rfl rfl (wp_iv1 dX12_rhyme_66 k11_24 q_X12_peek (by decide) (xsh X1 sh_187) (by decide) (Nat.le_of_ble_eq_true rfl) gp (wp_bipush (v := nI 47) dX12_rhyme_69 rfl ?_))
            refine wn_icmp_ne dX12_rhyme_71 rfl (by omega) (by omega) (fun c71 => absurd c71 (by omega)) (fun c71 => ?_)
            refine wp_iconst (v := nI 1) dX12_rhyme_74 rfl (wp_goto dX12_rhyme_75 rfl (wp_istore_n dX12_rhyme_79 ⟨Nat.le_of_ble_eq_true rfl, Or.inr rfl⟩ rfl (wp_iload_n dX12_rhyme_80 rfl ?_)))
            refine wn_if_eq dX12_rhyme_81 rfl (by omega) (fun c81 => absurd c81 (by omega)) (fun c81 => ?_)
            refine wp_aload_n dX12_rhyme_84 rfl rfl (gv11_198 dX12_rhyme_85 (xsh X1 sh_187) h40 (wp_bipush (v := nI 16) dX12_rhyme_88 rfl ?_))
            refine wn_icmp_ne dX12_rhyme_90 rfl (by omega) (by omega) (fun c90 => ?_) (fun c90 => absurd c90 (by omega))
            refine wp_iload_n dX12_rhyme_106 rfl ?_
            refine wn_if_ne dX12_rhyme_107 rfl (by omega) (fun c107 => ?_) (fun c107 => absurd c107 (by omega))
            refine wp_aload_n dX12_rhyme_133 rfl rfl (gv11_51 dX12_rhyme_134 (xsh X1 sh_187) c9 ?_)
            refine wn_if_eq dX12_rhyme_137 rfl (by omega) (fun c137 => ?_) (fun c137 => absurd c137 (by omega))
            exact wp_aload_n dX12_rhyme_147 rfl rfl (wp_dup dX12_rhyme_148 rfl (gv11_21 dX12_rhyme_149 (xsh X1 sh_187) c4 (wp_iconst (v := nI 1) dX12_rhyme_152 rfl (wv_iadd dX12_rhyme_153 (nI_add _ _) (p11_21 dX12_rhyme_154 (xsh X1 sh_187) (wp_goto dX12_rhyme_157 rfl (ih (p' + 1) (D ++ [(tm, st, I ++ [o])]) _ (by omega) (by omega) hx3 (by omega) (F3.XC X1) (T1.fr F3 (by omega) (fun k => by omega)) (xI_same _ _ _ _) m2 ln2 (by omega) hk2 q9 (fun e z S' a1 a2 a3 a4 => ke e z S' a1 (F2.tt a2) a3 a4) (fun L S' a1 a2 a3 a4 a5 a6 a7 a8 a9 => ko L S' a1 a2 a3 a4 a5 (F2.tt a6) a7 a8 a9))))))))
          · have EX : XX = .error (2, p') := by
              rw [hx2]
              refine xra_err hl ?_
              unfold xst xstb
              rw [if_neg (by decide), if_neg (by decide), if_neg (by decide), if_neg (by decide), if_neg (by decide), if_pos rfl, if_neg hn32, if_pos e47, if_pos hd]
            have kk := bad 2 EX
            have gw := m_wrong 2 p' (d + 3) X1
            have k9 : (xSI (xSI S1 187 9 (nI 2)) 187 10 (nI p')).2.1 187 9 = nI 2 := xi (xI_same _ _ _ _) (Or.inr (by decide))
            have k10 : (xSI (xSI S1 187 9 (nI 2)) 187 10 (nI p')).2.1 187 10 = nI p' := xI_same _ _ _ _
            refine wp_iload_n dX12_rhyme_40 rfl ?_
            refine wn_if_eq dX12_rhyme_41 rfl (by omega) (fun c41 => absurd c41 (by omega)) (fun c41 => ?_)
            refine wp_aload_n dX12_rhyme_44 rfl rfl (wp_iv1 dX12_rhyme_45 k11_201 q_X12_line (by decide) (xsh hX sh_187) (by decide) (Nat.le_of_ble_eq_true rfl) gl ?_)
            refine wb_if_ne dX12_rhyme_48 rfl (fun c48 => ?_) (fun c48 => absurd c48 (by decide))
            refine wp_aload_n dX12_rhyme_58 rfl rfl (wp_iv1 dX12_rhyme_59 k11_192 q_X12_isBeyond (by decide) (xsh X1 sh_187) (by decide) (Nat.le_of_ble_eq_true rfl) gb ?_)
            refine wb_if_ne dX12_rhyme_62 rfl (fun c62 => absurd c62 (by decide)) (fun c62 => ?_)
            refine wp_aload_n dX12_rhyme_65 rfl rfl (wp_iv1 dX12_rhyme_66 k11_24 q_X12_peek (by decide) (xsh X1 sh_187) (by decide) (Nat.le_of_ble_eq_true rfl) gp (wp_bipush (v := nI 47) dX12_rhyme_69 rfl ?_))
            refine wn_icmp_ne dX12_rhyme_71 rfl (by omega) (by omega) (fun c71 => absurd c71 (by omega)) (fun c71 => ?_)
            refine wp_iconst (v := nI 1) dX12_rhyme_74 rfl (wp_goto dX12_rhyme_75 rfl (wp_istore_n dX12_rhyme_79 ⟨Nat.le_of_ble_eq_true rfl, Or.inr rfl⟩ rfl (wp_iload_n dX12_rhyme_80 rfl ?_)))
            refine wn_if_eq dX12_rhyme_81 rfl (by omega) (fun c81 => absurd c81 (by omega)) (fun c81 => ?_)
            refine wp_aload_n dX12_rhyme_84 rfl rfl (gv11_198 dX12_rhyme_85 (xsh X1 sh_187) h40 (wp_bipush (v := nI 16) dX12_rhyme_88 rfl ?_))
            refine wn_icmp_ne dX12_rhyme_90 rfl (by omega) (by omega) (fun c90 => absurd c90 (by omega)) (fun c90 => ?_)
            refine wp_aload_n dX12_rhyme_93 rfl rfl (wp_iconst (v := nI 2) dX12_rhyme_94 rfl (wp_aload_n dX12_rhyme_95 rfl rfl (gv11_21 dX12_rhyme_96 (xsh X1 sh_187) c4 (wp_iv3 dX12_rhyme_99 k11_57 q_X12_wrong (by decide) (xsh X1 sh_187) (by decide) (Nat.le_of_ble_eq_true rfl) gw (wp_pop dX12_rhyme_102 rfl (wp_goto dX12_rhyme_103 rfl (wp_aload_n dX12_rhyme_133 rfl rfl (gv11_51 dX12_rhyme_134 (xsh X1 sh_187) k9 ?_))))))))
            refine wn_if_eq dX12_rhyme_137 rfl (by omega) (fun c137 => absurd c137 (by omega)) (fun c137 => ?_)
            exact wp_iconst (v := -1) dX12_rhyme_140 rfl (wp_aload_n dX12_rhyme_141 rfl rfl (gv11_54 dX12_rhyme_142 (xsh X1 sh_187) k10 (wv_isub dX12_rhyme_145 rfl (wp_ireturn dX12_rhyme_146 rfl rfl kk))))
        · have EX : XX = .error (1, p') := by
            rw [hx2]
            refine xra_err hl ?_
            unfold xst xstb
            rw [if_neg (by decide), if_neg (by decide), if_neg (by decide), if_neg (by decide), if_neg (by decide), if_pos rfl, if_neg hn32, if_neg e47]
          have kk := bad 1 EX
          have k9 : (xSI (xSI S1 187 9 (nI 1)) 187 10 (nI p')).2.1 187 9 = nI 1 := xi (xI_same _ _ _ _) (Or.inr (by decide))
          have k10 : (xSI (xSI S1 187 9 (nI 1)) 187 10 (nI p')).2.1 187 10 = nI p' := xI_same _ _ _ _
          refine wp_iload_n dX12_rhyme_40 rfl ?_
          refine wn_if_eq dX12_rhyme_41 rfl (by omega) (fun c41 => absurd c41 (by omega)) (fun c41 => ?_)
          refine wp_aload_n dX12_rhyme_44 rfl rfl (wp_iv1 dX12_rhyme_45 k11_201 q_X12_line (by decide) (xsh hX sh_187) (by decide) (Nat.le_of_ble_eq_true rfl) gl ?_)
          refine wb_if_ne dX12_rhyme_48 rfl (fun c48 => ?_) (fun c48 => absurd c48 (by decide))
          refine wp_aload_n dX12_rhyme_58 rfl rfl (wp_iv1 dX12_rhyme_59 k11_192 q_X12_isBeyond (by decide) (xsh X1 sh_187) (by decide) (Nat.le_of_ble_eq_true rfl) gb ?_)
          refine wb_if_ne dX12_rhyme_62 rfl (fun c62 => absurd c62 (by decide)) (fun c62 => ?_)
          refine wp_aload_n dX12_rhyme_65 rfl rfl (wp_iv1 dX12_rhyme_66 k11_24 q_X12_peek (by decide) (xsh X1 sh_187) (by decide) (Nat.le_of_ble_eq_true rfl) gp (wp_bipush (v := nI 47) dX12_rhyme_69 rfl ?_))
          refine wn_icmp_ne dX12_rhyme_71 rfl (by omega) (by omega) (fun c71 => ?_) (fun c71 => absurd c71 (by omega))
          refine wp_iconst (v := nI 0) dX12_rhyme_78 rfl (wp_istore_n dX12_rhyme_79 ⟨Nat.le_of_ble_eq_true rfl, Or.inr rfl⟩ rfl (wp_iload_n dX12_rhyme_80 rfl ?_))
          refine wn_if_eq dX12_rhyme_81 rfl (by omega) (fun c81 => ?_) (fun c81 => absurd c81 (by omega))
          refine wp_iload_n dX12_rhyme_106 rfl ?_
          refine wn_if_ne dX12_rhyme_107 rfl (by omega) (fun c107 => absurd c107 (by omega)) (fun c107 => ?_)
          refine wp_aload_n dX12_rhyme_110 rfl rfl (wp_iv1 dX12_rhyme_111 k11_192 q_X12_isBeyond (by decide) (xsh X1 sh_187) (by decide) (Nat.le_of_ble_eq_true rfl) gb ?_)
          refine wb_if_ne dX12_rhyme_114 rfl (fun c114 => absurd c114 (by decide)) (fun c114 => ?_)
          refine wp_aload_n dX12_rhyme_117 rfl rfl (gv11_21 dX12_rhyme_118 (xsh X1 sh_187) c4 (wp_aload_n dX12_rhyme_121 rfl rfl (gv11_18 dX12_rhyme_122 (xsh X1 sh_187) hs1 ?_)))
          refine wn_icmp_ge dX12_rhyme_125 rfl (by omega) (by omega) (fun c125 => absurd c125 (by omega)) (fun c125 => ?_)
          refine wp_aload_n dX12_rhyme_128 rfl rfl (wp_iv1 dX12_rhyme_129 k11_204 q_X12_bad (by decide) (xsh X1 sh_187) (by decide) (Nat.le_of_ble_eq_true rfl) gbad (wp_pop dX12_rhyme_132 rfl (wp_aload_n dX12_rhyme_133 rfl rfl (gv11_51 dX12_rhyme_134 (xsh X1 sh_187) k9 ?_))))
          refine wn_if_eq dX12_rhyme_137 rfl (by omega) (fun c137 => absurd c137 (by omega)) (fun c137 => ?_)
          exact wp_iconst (v := -1) dX12_rhyme_140 rfl (wp_aload_n dX12_rhyme_141 rfl rfl (gv11_54 dX12_rhyme_142 (xsh X1 sh_187) k10 (wv_isub dX12_rhyme_145 rfl (wp_ireturn dX12_rhyme_146 rfl rfl kk))))
      · have hpe : p' = min n 240 := by omega
        rcases Nat.lt_or_ge 240 n with hb | hb
        · have n4 : o.1 ≠ 4 := fun w => by have := (w4 w).2; omega
          have EX : XX = .error (1, p') := by
            rw [hx2, hpe, Nat.sub_self]
            unfold xra
            rw [if_pos (Or.inl (decide_eq_true (by omega)))]
          have kk := bad 1 EX
          have k9 : (xSI (xSI S1 187 9 (nI 1)) 187 10 (nI p')).2.1 187 9 = nI 1 := xi (xI_same _ _ _ _) (Or.inr (by decide))
          have k10 : (xSI (xSI S1 187 9 (nI 1)) 187 10 (nI p')).2.1 187 10 = nI p' := xI_same _ _ _ _
          rw [show decide (240 < n ∧ 240 ≤ p') = true from decide_eq_true (by omega)] at gb
          refine wp_iload_n dX12_rhyme_40 rfl ?_
          refine wn_if_eq dX12_rhyme_41 rfl (by omega) (fun c41 => absurd c41 (by omega)) (fun c41 => ?_)
          refine wp_aload_n dX12_rhyme_44 rfl rfl (wp_iv1 dX12_rhyme_45 k11_201 q_X12_line (by decide) (xsh hX sh_187) (by decide) (Nat.le_of_ble_eq_true rfl) gl ?_)
          refine wb_if_ne dX12_rhyme_48 rfl (fun c48 => ?_) (fun c48 => absurd c48 (by decide))
          refine wp_aload_n dX12_rhyme_58 rfl rfl (wp_iv1 dX12_rhyme_59 k11_192 q_X12_isBeyond (by decide) (xsh X1 sh_187) (by decide) (Nat.le_of_ble_eq_true rfl) gb ?_)
          refine wb_if_ne dX12_rhyme_62 rfl (fun c62 => ?_) (fun c62 => absurd c62 (by decide))
          refine wp_iconst (v := nI 0) dX12_rhyme_78 rfl (wp_istore_n dX12_rhyme_79 ⟨Nat.le_of_ble_eq_true rfl, Or.inr rfl⟩ rfl (wp_iload_n dX12_rhyme_80 rfl ?_))
          refine wn_if_eq dX12_rhyme_81 rfl (by omega) (fun c81 => ?_) (fun c81 => absurd c81 (by omega))
          refine wp_iload_n dX12_rhyme_106 rfl ?_
          refine wn_if_ne dX12_rhyme_107 rfl (by omega) (fun c107 => absurd c107 (by omega)) (fun c107 => ?_)
          refine wp_aload_n dX12_rhyme_110 rfl rfl (wp_iv1 dX12_rhyme_111 k11_192 q_X12_isBeyond (by decide) (xsh X1 sh_187) (by decide) (Nat.le_of_ble_eq_true rfl) gb ?_)
          refine wb_if_ne dX12_rhyme_114 rfl (fun c114 => ?_) (fun c114 => absurd c114 (by decide))
          refine wp_aload_n dX12_rhyme_128 rfl rfl (wp_iv1 dX12_rhyme_129 k11_204 q_X12_bad (by decide) (xsh X1 sh_187) (by decide) (Nat.le_of_ble_eq_true rfl) gbad (wp_pop dX12_rhyme_132 rfl (wp_aload_n dX12_rhyme_133 rfl rfl (gv11_51 dX12_rhyme_134 (xsh X1 sh_187) k9 ?_))))
          refine wn_if_eq dX12_rhyme_137 rfl (by omega) (fun c137 => absurd c137 (by omega)) (fun c137 => ?_)
          exact wp_iconst (v := -1) dX12_rhyme_140 rfl (wp_aload_n dX12_rhyme_141 rfl rfl (gv11_54 dX12_rhyme_142 (xsh X1 sh_187) k10 (wv_isub dX12_rhyme_145 rfl (wp_ireturn dX12_rhyme_146 rfl rfl kk))))
        · rw [show decide (240 < n ∧ 240 ≤ p') = false from decide_eq_false (by omega)] at gb
          have gp := m_peek_e (d + 3) X1 T1 c4 (by omega) (by omega)
          have kk := fin hpe hb
          refine wp_iload_n dX12_rhyme_40 rfl ?_
          refine wn_if_eq dX12_rhyme_41 rfl (by omega) (fun c41 => absurd c41 (by omega)) (fun c41 => ?_)
          refine wp_aload_n dX12_rhyme_44 rfl rfl (wp_iv1 dX12_rhyme_45 k11_201 q_X12_line (by decide) (xsh hX sh_187) (by decide) (Nat.le_of_ble_eq_true rfl) gl ?_)
          refine wb_if_ne dX12_rhyme_48 rfl (fun c48 => ?_) (fun c48 => absurd c48 (by decide))
          refine wp_aload_n dX12_rhyme_58 rfl rfl (wp_iv1 dX12_rhyme_59 k11_192 q_X12_isBeyond (by decide) (xsh X1 sh_187) (by decide) (Nat.le_of_ble_eq_true rfl) gb ?_)
          refine wb_if_ne dX12_rhyme_62 rfl (fun c62 => absurd c62 (by decide)) (fun c62 => ?_)
          refine wp_aload_n dX12_rhyme_65 rfl rfl (wp_iv1 dX12_rhyme_66 k11_24 q_X12_peek (by decide) (xsh X1 sh_187) (by decide) (Nat.le_of_ble_eq_true rfl) gp (wp_bipush (v := nI 47) dX12_rhyme_69 rfl ?_))
          refine wp_icmp_ne dX12_rhyme_71 rfl (fun c71 => ?_) (fun c71 => absurd c71 (by decide))
          refine wp_iconst (v := nI 0) dX12_rhyme_78 rfl (wp_istore_n dX12_rhyme_79 ⟨Nat.le_of_ble_eq_true rfl, Or.inr rfl⟩ rfl (wp_iload_n dX12_rhyme_80 rfl ?_))
          refine wn_if_eq dX12_rhyme_81 rfl (by omega) (fun c81 => ?_) (fun c81 => absurd c81 (by omega))
          refine wp_iload_n dX12_rhyme_106 rfl ?_
          refine wn_if_ne dX12_rhyme_107 rfl (by omega) (fun c107 => absurd c107 (by omega)) (fun c107 => ?_)
          refine wp_aload_n dX12_rhyme_110 rfl rfl (wp_iv1 dX12_rhyme_111 k11_192 q_X12_isBeyond (by decide) (xsh X1 sh_187) (by decide) (Nat.le_of_ble_eq_true rfl) gb ?_)
          refine wb_if_ne dX12_rhyme_114 rfl (fun c114 => absurd c114 (by decide)) (fun c114 => ?_)
          refine wp_aload_n dX12_rhyme_117 rfl rfl (gv11_21 dX12_rhyme_118 (xsh X1 sh_187) c4 (wp_aload_n dX12_rhyme_121 rfl rfl (gv11_18 dX12_rhyme_122 (xsh X1 sh_187) hs1 ?_)))
          refine wn_icmp_ge dX12_rhyme_125 rfl (by omega) (by omega) (fun c125 => ?_) (fun c125 => absurd c125 (by omega))
          refine wp_aload_n dX12_rhyme_133 rfl rfl (gv11_51 dX12_rhyme_134 (xsh X1 sh_187) c9 ?_)
          refine wn_if_eq dX12_rhyme_137 rfl (by omega) (fun c137 => ?_) (fun c137 => absurd c137 (by omega))
          refine wp_aload_n dX12_rhyme_147 rfl rfl (wp_dup dX12_rhyme_148 rfl (gv11_21 dX12_rhyme_149 (xsh X1 sh_187) c4 (wp_iconst (v := nI 1) dX12_rhyme_152 rfl (wv_iadd dX12_rhyme_153 (nI_add _ _) (p11_21 dX12_rhyme_154 (xsh X1 sh_187) (wp_goto dX12_rhyme_157 rfl ?_))))))
          refine wp_locals (ls' := [.ref 187, .int (nI s), .int (nI 0), x3, x4]) rfl ?_
          refine wp_iload_n dX12_rhyme_40 rfl ?_
          refine wn_if_eq dX12_rhyme_41 rfl (by omega) (fun c41 => ?_) (fun c41 => absurd c41 (by omega))
          exact kk
def xFRe (i k : Nat) : Prop := (i = 187 ∧ (k = 0 ∨ k = 2 ∨ k = 3 ∨ k = 4 ∨ k = 9 ∨ k = 10 ∨ k = 39 ∨ k = 40)) ∨ ((i = 198 ∨ i = 199 ∨ i = 200) ∧ 732 ≤ k) ∨ (i = 201 ∧ 102 ≤ k) ∨ (i = 202 ∧ 96 ≤ k)
def xFRs (s i k : Nat) : Prop := (i = 195 ∧ 260 + 240 * s ≤ k ∧ k < 260 + 240 * s + 240) ∨ ((i = 198 ∨ i = 199 ∨ i = 200) ∧ 122 * s ≤ k ∧ k < 122 * s + 122) ∨ (i = 201 ∧ 17 * s ≤ k ∧ k < 17 * s + 17) ∨ (i = 202 ∧ 16 * s ≤ k ∧ k < 16 * s + 16) ∨ ((i = 203 ∨ i = 204) ∧ k = s)
theorem xFL2_e (i k : Nat) (h : xFL2 i k) : xFRe i k := by unfold xFL2 at h; unfold xFRe; omega
def xRP (s n : Nat) (t : Nat → Nat) (S S' : xS) (k : Int32) : Prop := S'.2.1 187 0 = nI 0 ∧ S'.2.1 187 2 = nI 0 ∧ (∀ e z, xrhy t n = .error (e, z) → k = -1 - nI z ∧ S'.2.1 187 9 = nI e ∧ xFl xFRe S S') ∧ (∀ L, xrhy t n = .ok L → k = nI L.length ∧ S'.2.1 187 9 = nI 0 ∧ xFl (fun i k => xFRe i k ∨ xFRs s i k) S S' ∧ xRM s S' n t L ∧ S'.2.1 204 s = nI 0 ∧ n ≤ 240 ∧ L.length ≤ 16 ∧ (L.flatMap xmit).length ≤ 121)
theorem m_rhyme {n s : Nat} {t : Nat → Nat} (d : Nat) {S : xS} (hX : XC S) (hs6 : s < 6) (hn : S.2.1 187 2 = nI n) (hle : n ≤ 260) (hb : ∀ k, k < n → t k < 256 ∧ S.2.1 188 k = xby (t k)) : ∃ k S', xcall false (d + 4) j_X12_rhyme [.ref 187, .int (nI s)] S (some (.int k)) S' ∧ xRP s n t S S' k := by
  have gt := m_taken (d + 3) (S := xSI S 187 0 (nI 0)) hX (xi hn (Or.inr (by decide)))
  have FB : xFl xFRe S (xSI (xSI (xSI (xSI (xSI (xSI (xSI (S) 187 0 (nI 0)) 187 3 (nI n)) 187 2 (nI 0)) 187 4 (nI 0)) 187 9 (nI 0)) 187 39 (nI 0)) 187 40 (nI 0)) := ((((((((xFl.rf S)).SI (a := 187) (k := 0) (Or.inl ⟨rfl, by omega⟩)).SI (a := 187) (k := 3) (Or.inl ⟨rfl, by omega⟩)).SI (a := 187) (k := 2) (Or.inl ⟨rfl, by omega⟩)).SI (a := 187) (k := 4) (Or.inl ⟨rfl, by omega⟩)).SI (a := 187) (k := 9) (Or.inl ⟨rfl, by omega⟩)).SI (a := 187) (k := 39) (Or.inl ⟨rfl, by omega⟩)).SI (a := 187) (k := 40) (Or.inl ⟨rfl, by omega⟩)
  have b0 : (xSI (xSI (xSI (xSI (xSI (xSI (xSI (S) 187 0 (nI 0)) 187 3 (nI n)) 187 2 (nI 0)) 187 4 (nI 0)) 187 9 (nI 0)) 187 39 (nI 0)) 187 40 (nI 0)).2.1 187 0 = nI 0 := rfl
  have b2 : (xSI (xSI (xSI (xSI (xSI (xSI (xSI (S) 187 0 (nI 0)) 187 3 (nI n)) 187 2 (nI 0)) 187 4 (nI 0)) 187 9 (nI 0)) 187 39 (nI 0)) 187 40 (nI 0)).2.1 187 2 = nI 0 := rfl
  have b3 : (xSI (xSI (xSI (xSI (xSI (xSI (xSI (S) 187 0 (nI 0)) 187 3 (nI n)) 187 2 (nI 0)) 187 4 (nI 0)) 187 9 (nI 0)) 187 39 (nI 0)) 187 40 (nI 0)).2.1 187 3 = nI n := rfl
  have b4 : (xSI (xSI (xSI (xSI (xSI (xSI (xSI (S) 187 0 (nI 0)) 187 3 (nI n)) 187 2 (nI 0)) 187 4 (nI 0)) 187 9 (nI 0)) 187 39 (nI 0)) 187 40 (nI 0)).2.1 187 4 = nI 0 := rfl
  have b9 : (xSI (xSI (xSI (xSI (xSI (xSI (xSI (S) 187 0 (nI 0)) 187 3 (nI n)) 187 2 (nI 0)) 187 4 (nI 0)) 187 9 (nI 0)) 187 39 (nI 0)) 187 40 (nI 0)).2.1 187 9 = nI 0 := rfl
  have b39 : (xSI (xSI (xSI (xSI (xSI (xSI (xSI (S) 187 0 (nI 0)) 187 3 (nI n)) 187 2 (nI 0)) 187 4 (nI 0)) 187 9 (nI 0)) 187 39 (nI 0)) 187 40 (nI 0)).2.1 187 39 = nI 0 := rfl
  have b40 : (xSI (xSI (xSI (xSI (xSI (xSI (xSI (S) 187 0 (nI 0)) 187 3 (nI n)) 187 2 (nI 0)) 187 4 (nI 0)) 187 9 (nI 0)) 187 39 (nI 0)) 187 40 (nI 0)).2.1 187 40 = nI 0 := rfl
  have XB := FB.XC hX
  have TB : xTxM (xSI (xSI (xSI (xSI (xSI (xSI (xSI (S) 187 0 (nI 0)) 187 3 (nI n)) 187 2 (nI 0)) 187 4 (nI 0)) 187 9 (nI 0)) 187 39 (nI 0)) 187 40 (nI 0)) n t := ⟨b3, hle, fun k hk => ⟨(hb k hk).1, FB.i (hb k hk).2 (by unfold xFRe; omega)⟩⟩
  suffices key : ∃ r S', xcall false (d + 4) j_X12_rhyme [.ref 187, .int (nI s)] S r S' ∧ ∃ k, r = some (.int k) ∧ xRP s n t S S' k by
    obtain ⟨r, S', g, k, rfl, z⟩ := key
    exact ⟨k, S', g, z⟩
  refine xcall_some (ls := [.ref 187, .int (nI s), .float 0, .float 0, .float 0]) q_X12_rhyme (by decide) rfl (Nat.le_of_ble_eq_true rfl) rfl ?_
  refine wp_aload_n dX12_rhyme_0 rfl rfl (wp_iconst (v := nI 0) dX12_rhyme_1 rfl (p11_1 dX12_rhyme_2 (xsh hX sh_187) (wp_aload_n dX12_rhyme_5 rfl rfl (wp_iv1 dX12_rhyme_6 k11_69 q_X12_taken (by decide) (xsh hX sh_187) (by decide) (Nat.le_of_ble_eq_true rfl) gt (wp_iload_n dX12_rhyme_9 rfl ?_)))))
  refine wn_if_lt dX12_rhyme_10 rfl (by omega) ?_
  refine wp_iload_n dX12_rhyme_13 rfl (wp_bipush (v := nI 6) dX12_rhyme_14 rfl ?_)
  refine wn_icmp_lt dX12_rhyme_16 rfl (by omega) (by omega) (fun c16 => ?_) (fun c16 => absurd c16 (by omega))
  refine wp_aload_n dX12_rhyme_23 rfl rfl (wp_iconst (v := nI 0) dX12_rhyme_24 rfl (p11_51 dX12_rhyme_25 (xsh hX sh_187) (wp_aload_n dX12_rhyme_28 rfl rfl (wp_iconst (v := nI 0) dX12_rhyme_29 rfl (p11_195 dX12_rhyme_30 (xsh hX sh_187) (wp_aload_n dX12_rhyme_33 rfl rfl (wp_iconst (v := nI 0) dX12_rhyme_34 rfl (p11_198 dX12_rhyme_35 (xsh hX sh_187) (wp_iconst (v := nI 1) dX12_rhyme_38 rfl (wp_istore_n dX12_rhyme_39 ⟨Nat.le_of_ble_eq_true rfl, Or.inr rfl⟩ rfl ?_))))))))))
  generalize xSI (xSI (xSI (xSI (xSI (xSI (xSI (S) 187 0 (nI 0)) 187 3 (nI n)) 187 2 (nI 0)) 187 4 (nI 0)) 187 9 (nI 0)) 187 39 (nI 0)) 187 40 (nI 0) = SB at FB b0 b2 b3 b4 b9 b39 b40 XB TB
  refine mrl (XX := xrhy t n) 16 0 [] SB rfl (by decide) rfl (Nat.zero_le _) XB TB b4 ⟨b39, fun i hi => absurd hi (Nat.not_lt_zero i)⟩ ⟨b40, fun w => absurd rfl w, fun l hl => absurd hl (Nat.not_lt_zero l)⟩ (Nat.zero_le _) (fun x hx => by cases hx) b9 (fun e z S1 hE fl c9 c10 => ?_) (fun L S1 hE hn240 hL16 hk hMl fl hM hLn c9 => ?_)
  · refine ⟨_, rfl, fl.i b0 (by unfold xFL2; omega), fl.i b2 (by unfold xFL2; omega), fun e' z' h => ?_, fun L h => (by rw [hE] at h; cases h)⟩
    rw [hE] at h
    cases h
    exact ⟨rfl, c9, FB.tt (fl.mono xFL2_e)⟩
  · have f1 : xFl xFRe S S1 := FB.tt (fl.mono xFL2_e)
    have q0 : S1.2.1 187 0 = nI 0 := fl.i b0 (by unfold xFL2; omega)
    have q2 : S1.2.1 187 2 = nI 0 := fl.i b2 (by unfold xFL2; omega)
    have T1 : xTxM S1 n t := TB.fr fl (by unfold xFL2; omega) (fun k => by unfold xFL2; omega)
    have X1 := fl.XC XB
    have h39 := hM.1
    refine wp_iconst (v := nI 0) dX12_rhyme_160 rfl (wp_istore_n dX12_rhyme_161 ⟨Nat.le_of_ble_eq_true rfl, Or.inr rfl⟩ rfl (wp_iconst (v := nI 0) dX12_rhyme_162 rfl (wp_istore dX12_rhyme_163 ⟨Nat.le_of_ble_eq_true rfl, Or.inr rfl⟩ rfl ?_)))
    refine ra_any X1 hM hMl hk ?_ (L.flatMap xmit).length 0 false (by omega) rfl
    cases hsn : (L.flatMap xmit).any xkz with
    | false =>
      have EX : xrhy t n = .error (3, 0) := by rw [hE]; unfold xrfin; rw [xsnd_flat, hsn, if_pos rfl]
      have gw := m_wrong 3 0 (d + 3) X1
      have W : xFl (fun i k => i = 187 ∧ (k = 9 ∨ k = 10)) S1 (xSI (xSI S1 187 9 (nI 3)) 187 10 (nI 0)) := ((xFl.rf S1).SI ⟨rfl, Or.inl rfl⟩).SI ⟨rfl, Or.inr rfl⟩
      have out : xRP s n t S (xSI (xSI S1 187 9 (nI 3)) 187 10 (nI 0)) (-1) := ⟨W.i q0 (by omega), W.i q2 (by omega), fun e z h => (by rw [EX] at h; cases h; exact ⟨by decide, xi (xI_same _ _ _ _) (Or.inr (by decide)), f1.tt (W.mono (fun i k h => Or.inl ⟨h.1, by omega⟩))⟩), fun L h => (by rw [EX] at h; cases h)⟩
      refine wp_iload_n dX12_rhyme_234 rfl ?_
      refine wb_if_ne dX12_rhyme_235 rfl (fun c235 => absurd c235 (by decide)) (fun c235 => ?_)
      exact wp_aload_n dX12_rhyme_238 rfl rfl (wp_iconst (v := nI 3) dX12_rhyme_239 rfl (wp_iconst (v := nI 0) dX12_rhyme_240 rfl (wp_iv3 dX12_rhyme_241 k11_57 q_X12_wrong (by decide) (xsh X1 sh_187) (by decide) (Nat.le_of_ble_eq_true rfl) gw (wp_pop dX12_rhyme_244 rfl (wp_iconst (v := -1) dX12_rhyme_245 rfl (wp_ireturn dX12_rhyme_246 rfl rfl ⟨_, rfl, out⟩))))))
    | true =>
      have EX : xrhy t n = .ok L := by rw [hE]; unfold xrfin; rw [xsnd_flat, hsn, if_neg (by decide)]
      refine wp_iload_n dX12_rhyme_234 rfl ?_
      refine wb_if_ne dX12_rhyme_235 rfl (fun c235 => ?_) (fun c235 => absurd c235 (by decide))
      refine wp_iconst (v := nI 0) dX12_rhyme_247 rfl (wp_istore dX12_rhyme_248 ⟨Nat.le_of_ble_eq_true rfl, Or.inr rfl⟩ rfl ?_)
      refine ra_text hs6 hn240 n 0 S1 (by omega) X1 T1 (fun k hk => absurd hk (Nat.not_lt_zero k)) (fun S2 f2 t2 => ?_)
      have X2 := f2.XC X1
      have M2 : xMA S2 (L.flatMap xmit) := hM.fr f2 (fun i k h => by omega)
      have L2 : xMLn S2 L := hLn.fr f2 (fun i k h => by omega)
      refine wp_iconst (v := nI 0) dX12_rhyme_289 rfl (wp_istore dX12_rhyme_290 ⟨Nat.le_of_ble_eq_true rfl, Or.inr rfl⟩ rfl ?_)
      refine ra_items hs6 hMl (L.flatMap xmit).length 0 S2 (by omega) X2 M2 (fun k hk => absurd hk (Nat.not_lt_zero k)) (fun S3 f3 i3 => ?_)
      have X3 := f3.XC X2
      have hne : L ≠ [] := fun w => by rw [w] at hsn; cases hsn
      have L3 : xMLn S3 L := ⟨f3.i L2.1 (by omega), fun w l hl => f3.i (L2.2.1 w l hl) (by omega), fun l hl => f3.i (L2.2.2 l hl) (by omega)⟩
      refine wp_iconst (v := nI 0) dX12_rhyme_386 rfl (wp_istore dX12_rhyme_387 ⟨Nat.le_of_ble_eq_true rfl, Or.inr rfl⟩ rfl ?_)
      refine ra_lf (f := fun k => xof xmit L k) hs6 hL16 (L.length + 1) 0 S3 (by omega) X3 L3.1 (fun k hk => L3.2.1 hne k hk) (fun k hk => absurd hk (Nat.not_lt_zero k)) (fun S4 f4 l4 => ?_)
      have X4 := f4.XC X3
      refine wp_iconst (v := nI 0) dX12_rhyme_426 rfl (wp_istore dX12_rhyme_427 ⟨Nat.le_of_ble_eq_true rfl, Or.inr rfl⟩ rfl ?_)
      refine ra_tm (f := fun k => (L.getD k (0, 0, [])).1) hs6 hL16 L.length 0 S4 (by omega) X4 (f4.i L3.1 (by omega)) (fun k hk => f4.i (L3.2.2 k hk) (by omega)) (fun k hk => absurd hk (Nat.not_lt_zero k)) (fun S5 f5 t5 => ?_)
      have X5 := f5.XC X4
      have h40 : S5.2.1 187 40 = nI L.length := f5.i (f4.i L3.1 (by omega)) (by omega)
      have F6 : xFl (fun i k => (i = 203 ∨ i = 204) ∧ k = s) S5 (xSI (xSI S5 203 s (nI L.length)) 204 s (nI 0)) := ((xFl.rf S5).SI ⟨Or.inl rfl, rfl⟩).SI ⟨Or.inr rfl, rfl⟩
      have G2 : xFl (xFRs s) S1 S2 := f2.mono (fun i k h => Or.inl h)
      have G3 : xFl (xFRs s) S1 S3 := G2.tt (f3.mono (fun i k h => Or.inr (Or.inl h)))
      have G4 : xFl (xFRs s) S1 S4 := G3.tt (f4.mono (fun i k h => Or.inr (Or.inr (Or.inl h))))
      have G5 : xFl (xFRs s) S1 S5 := G4.tt (f5.mono (fun i k h => Or.inr (Or.inr (Or.inr (Or.inl h)))))
      have G6 : xFl (xFRs s) S1 (xSI (xSI S5 203 s (nI L.length)) 204 s (nI 0)) := G5.tt (F6.mono (fun i k h => Or.inr (Or.inr (Or.inr (Or.inr h)))))
      have n187 : ∀ k, ¬ xFRs s 187 k := fun k => by unfold xFRs; omega
      have RM : xRM s (xSI (xSI S5 203 s (nI L.length)) 204 s (nI 0)) n t L := by
        refine ⟨fun k hk => F6.i (f5.i (f4.i (f3.i (t2 k hk) (by omega)) (by omega)) (by omega)) (by omega), fun i hi => ?_, fun l hl => F6.i (f5.i (l4 l hl) (by omega)) (by omega), fun l hl => F6.i (t5 l hl) (by omega), xi (xI_same _ _ _ _) (Or.inl (by decide))⟩
        obtain ⟨z1, z2, z3⟩ := i3 i hi
        exact ⟨F6.i (f5.i (f4.i z1 (by omega)) (by omega)) (by omega), F6.i (f5.i (f4.i z2 (by omega)) (by omega)) (by omega), F6.i (f5.i (f4.i z3 (by omega)) (by omega)) (by omega)⟩
      have out : xRP s n t S (xSI (xSI S5 203 s (nI L.length)) 204 s (nI 0)) (nI L.length) := by
        refine ⟨G6.i q0 (n187 0), G6.i q2 (n187 2), fun e z h => (by rw [EX] at h; cases h), fun L' h => ?_⟩
        rw [EX] at h
        cases h
        exact ⟨rfl, G6.i c9 (n187 9), (f1.mono (fun i k h => Or.inl h)).tt (G6.mono (fun i k h => Or.inr h)), RM, xI_same _ _ _ _, hn240, hL16, hMl⟩
      have h40b : (xSI (xSI S5 203 s (nI L.length)) 204 s (nI 0)).2.1 187 40 = nI L.length := F6.i h40 (by omega)
      exact wp_aload_n dX12_rhyme_466 rfl rfl (g11_222 dX12_rhyme_467 (xsh X5 sh_187) (xrr X5 r187_37) (wp_iload_n dX12_rhyme_470 rfl (wp_aload_n dX12_rhyme_471 rfl rfl (gv11_198 dX12_rhyme_472 (xsh X5 sh_187) h40 (wn_iastore dX12_rhyme_475 (xsh X5 sh_203) rfl (by omega) (by decide) (wp_aload_n dX12_rhyme_476 rfl rfl (g11_225 dX12_rhyme_477 (xsh X5 sh_187) (xrr X5 r187_38) (wp_iload_n dX12_rhyme_480 rfl (wp_iconst (v := nI 0) dX12_rhyme_481 rfl (wn_iastore dX12_rhyme_482 (xsh X5 sh_204) rfl (by omega) (by decide) (wp_aload_n dX12_rhyme_483 rfl rfl (gv11_198 dX12_rhyme_484 (xsh X5 sh_187) (xi (xi h40 (Or.inl (by decide))) (Or.inl (by decide))) (wp_ireturn dX12_rhyme_487 rfl rfl ⟨_, rfl, out⟩)))))))))))))
