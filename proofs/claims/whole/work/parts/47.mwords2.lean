/-! people and answers of the reference -/
theorem xby_32 : ∀ c, c < 256 → c ≠ 32 → xby c ≠ nI 32 := by decide +kernel
def xwn : Option (List (List Nat)) → Nat
  | none => 0
  | some l => l.length
/-- words in the reference's rows -/
def xWM (part lc : Nat) (S : xS) (l : List (List Nat)) : Prop := ∀ q, q < l.length → S.2.1 lc q = nI (l.getD q []).length ∧ ∀ k, k < (l.getD q []).length → S.2.1 195 (part + 12 * q + k) = nI ((l.getD q []).getD k 0)
theorem wo_dead {n most d : Nat} {t : Nat → Nat} {S : xS} (hX : XC S) (hT : xTxM S n t) (hmo : most ≤ 12) : ∀ (j i run : Nat), i + j = n → 1 ≤ run → run ≤ 12 → Wp false (d + 1) 11 cX12_wordsOf (some .int) false 7 [.ref 187, .int (nI most), .int (nI most), .int (nI run), .int (nI i)] [] S (fun r S' => r = some (.int (nI 0)) ∧ S' = S) := by
  intro j
  induction j with
  | zero =>
    intro i run hi h1 h12
    have hs := hT.1
    have hle := hT.2.1
    have hii : i = n := by omega
    subst hii
    refine wp_iload dX12_wordsOf_7 rfl (wp_aload_n dX12_wordsOf_9 rfl rfl (gv11_18 dX12_wordsOf_10 (xsh hX sh_187) hs ?_))
    refine wn_icmp_gt dX12_wordsOf_13 rfl (by omega) (by omega) (fun c13 => absurd c13 (by omega)) (fun c13 => ?_)
    refine wp_iload dX12_wordsOf_16 rfl (wp_aload_n dX12_wordsOf_18 rfl rfl (gv11_18 dX12_wordsOf_19 (xsh hX sh_187) hs ?_))
    refine wn_icmp_ge dX12_wordsOf_22 rfl (by omega) (by omega) (fun c22 => ?_) (fun c22 => absurd c22 (by omega))
    refine wp_iload dX12_wordsOf_49 rfl (wp_aload_n dX12_wordsOf_51 rfl rfl (gv11_18 dX12_wordsOf_52 (xsh hX sh_187) hs ?_))
    refine wn_icmp_ge dX12_wordsOf_55 rfl (by omega) (by omega) (fun c55 => ?_) (fun c55 => absurd c55 (by omega))
    refine wp_iload_n dX12_wordsOf_70 rfl ?_
    refine wn_if_eq dX12_wordsOf_71 rfl (by omega) (fun c71 => absurd c71 (by omega)) (fun c71 => ?_)
    refine wp_iload_n dX12_wordsOf_74 rfl (wp_iload_n dX12_wordsOf_75 rfl ?_)
    refine wn_icmp_ne dX12_wordsOf_76 rfl (by omega) (by omega) (fun c76 => absurd c76 (by omega)) (fun c76 => ?_)
    exact wp_iconst (v := nI 0) dX12_wordsOf_79 rfl (wp_ireturn dX12_wordsOf_80 rfl rfl ⟨rfl, rfl⟩)
  | succ j ih =>
    intro i run hi h1 h12
    have hs := hT.1
    have hle := hT.2.1
    obtain ⟨hc, hb⟩ := hT.2.2 i (by omega)
    have gs := m_isSmall_by hc d S
    cases hsm : xsm (t i) with
    | true =>
      have hlo := xsm_b hsm
      have hb2 : S.2.1 188 i = nI (t i) := by rw [← xby_lo _ (by omega)]; exact hb
      rw [xby_lo _ (by omega), hsm] at gs
      refine wp_iload dX12_wordsOf_7 rfl (wp_aload_n dX12_wordsOf_9 rfl rfl (gv11_18 dX12_wordsOf_10 (xsh hX sh_187) hs ?_))
      refine wn_icmp_gt dX12_wordsOf_13 rfl (by omega) (by omega) (fun c13 => absurd c13 (by omega)) (fun c13 => ?_)
      refine wp_iload dX12_wordsOf_16 rfl (wp_aload_n dX12_wordsOf_18 rfl rfl (gv11_18 dX12_wordsOf_19 (xsh hX sh_187) hs ?_))
      refine wn_icmp_ge dX12_wordsOf_22 rfl (by omega) (by omega) (fun c22 => absurd c22 (by omega)) (fun c22 => ?_)
      refine wp_aload_n dX12_wordsOf_25 rfl rfl (g11_14 dX12_wordsOf_26 (xsh hX sh_187) (xrr hX r187_1) (wp_iload dX12_wordsOf_29 rfl (wn_baload dX12_wordsOf_31 (xsh hX sh_188) (Or.inl rfl) (by omega) (by decide) hb2 (wp_is1 dX12_wordsOf_32 k11_37 q_X12_isSmall (by decide) (Nat.le_of_ble_eq_true rfl) gs ?_))))
      refine wb_if_eq dX12_wordsOf_35 rfl (fun c35 => absurd c35 (by decide)) (fun c35 => ?_)
      refine wp_iinc dX12_wordsOf_38 rfl (nI_1 _) ⟨Nat.le_of_ble_eq_true rfl, Or.inr rfl⟩ rfl (wp_iload_n dX12_wordsOf_41 rfl (wp_bipush (v := nI 12) dX12_wordsOf_42 rfl ?_))
      refine wn_icmp_le dX12_wordsOf_44 rfl (by omega) (by omega) (fun c44 => ?_) (fun c44 => ?_)
      · exact wp_iinc dX12_wordsOf_86 rfl (nI_1 _) ⟨Nat.le_of_ble_eq_true rfl, Or.inr rfl⟩ rfl (wp_goto dX12_wordsOf_89 rfl (ih (i + 1) (run + 1) (by omega) (by omega) (by omega)))
      · exact wp_iconst (v := nI 0) dX12_wordsOf_47 rfl (wp_ireturn dX12_wordsOf_48 rfl rfl ⟨rfl, rfl⟩)
    | false =>
      rw [hsm] at gs
      rcases Decidable.em (t i = 32) with h32 | h32
      · have hb2 : S.2.1 188 i = nI 32 := by rw [hb, h32]; decide
        refine wp_iload dX12_wordsOf_7 rfl (wp_aload_n dX12_wordsOf_9 rfl rfl (gv11_18 dX12_wordsOf_10 (xsh hX sh_187) hs ?_))
        refine wn_icmp_gt dX12_wordsOf_13 rfl (by omega) (by omega) (fun c13 => absurd c13 (by omega)) (fun c13 => ?_)
        refine wp_iload dX12_wordsOf_16 rfl (wp_aload_n dX12_wordsOf_18 rfl rfl (gv11_18 dX12_wordsOf_19 (xsh hX sh_187) hs ?_))
        refine wn_icmp_ge dX12_wordsOf_22 rfl (by omega) (by omega) (fun c22 => absurd c22 (by omega)) (fun c22 => ?_)
        refine wp_aload_n dX12_wordsOf_25 rfl rfl (g11_14 dX12_wordsOf_26 (xsh hX sh_187) (xrr hX r187_1) (wp_iload dX12_wordsOf_29 rfl (wn_baload dX12_wordsOf_31 (xsh hX sh_188) (Or.inl rfl) (by omega) (by decide) hb (wp_is1 dX12_wordsOf_32 k11_37 q_X12_isSmall (by decide) (Nat.le_of_ble_eq_true rfl) gs ?_))))
        refine wb_if_eq dX12_wordsOf_35 rfl (fun c35 => ?_) (fun c35 => absurd c35 (by decide))
        refine wp_iload dX12_wordsOf_49 rfl (wp_aload_n dX12_wordsOf_51 rfl rfl (gv11_18 dX12_wordsOf_52 (xsh hX sh_187) hs ?_))
        refine wn_icmp_ge dX12_wordsOf_55 rfl (by omega) (by omega) (fun c55 => absurd c55 (by omega)) (fun c55 => ?_)
        refine wp_aload_n dX12_wordsOf_58 rfl rfl (g11_14 dX12_wordsOf_59 (xsh hX sh_187) (xrr hX r187_1) (wp_iload dX12_wordsOf_62 rfl (wn_baload dX12_wordsOf_64 (xsh hX sh_188) (Or.inl rfl) (by omega) (by decide) hb2 (wp_bipush (v := nI 32) dX12_wordsOf_65 rfl ?_))))
        refine wn_icmp_ne dX12_wordsOf_67 rfl (by omega) (by omega) (fun c67 => absurd c67 (by omega)) (fun c67 => ?_)
        refine wp_iload_n dX12_wordsOf_70 rfl ?_
        refine wn_if_eq dX12_wordsOf_71 rfl (by omega) (fun c71 => absurd c71 (by omega)) (fun c71 => ?_)
        refine wp_iload_n dX12_wordsOf_74 rfl (wp_iload_n dX12_wordsOf_75 rfl ?_)
        refine wn_icmp_ne dX12_wordsOf_76 rfl (by omega) (by omega) (fun c76 => absurd c76 (by omega)) (fun c76 => ?_)
        exact wp_iconst (v := nI 0) dX12_wordsOf_79 rfl (wp_ireturn dX12_wordsOf_80 rfl rfl ⟨rfl, rfl⟩)
      · have hne := xby_32 _ hc h32
        refine wp_iload dX12_wordsOf_7 rfl (wp_aload_n dX12_wordsOf_9 rfl rfl (gv11_18 dX12_wordsOf_10 (xsh hX sh_187) hs ?_))
        refine wn_icmp_gt dX12_wordsOf_13 rfl (by omega) (by omega) (fun c13 => absurd c13 (by omega)) (fun c13 => ?_)
        refine wp_iload dX12_wordsOf_16 rfl (wp_aload_n dX12_wordsOf_18 rfl rfl (gv11_18 dX12_wordsOf_19 (xsh hX sh_187) hs ?_))
        refine wn_icmp_ge dX12_wordsOf_22 rfl (by omega) (by omega) (fun c22 => absurd c22 (by omega)) (fun c22 => ?_)
        refine wp_aload_n dX12_wordsOf_25 rfl rfl (g11_14 dX12_wordsOf_26 (xsh hX sh_187) (xrr hX r187_1) (wp_iload dX12_wordsOf_29 rfl (wn_baload dX12_wordsOf_31 (xsh hX sh_188) (Or.inl rfl) (by omega) (by decide) hb (wp_is1 dX12_wordsOf_32 k11_37 q_X12_isSmall (by decide) (Nat.le_of_ble_eq_true rfl) gs ?_))))
        refine wb_if_eq dX12_wordsOf_35 rfl (fun c35 => ?_) (fun c35 => absurd c35 (by decide))
        refine wp_iload dX12_wordsOf_49 rfl (wp_aload_n dX12_wordsOf_51 rfl rfl (gv11_18 dX12_wordsOf_52 (xsh hX sh_187) hs ?_))
        refine wn_icmp_ge dX12_wordsOf_55 rfl (by omega) (by omega) (fun c55 => absurd c55 (by omega)) (fun c55 => ?_)
        refine wp_aload_n dX12_wordsOf_58 rfl rfl (g11_14 dX12_wordsOf_59 (xsh hX sh_187) (xrr hX r187_1) (wp_iload dX12_wordsOf_62 rfl (wn_baload dX12_wordsOf_64 (xsh hX sh_188) (Or.inl rfl) (by omega) (by decide) hb (wp_bipush (v := nI 32) dX12_wordsOf_65 rfl ?_))))
        refine wp_icmp_ne dX12_wordsOf_67 rfl (fun c67 => ?_) (fun c67 => absurd c67 hne)
        exact wp_iconst (v := nI 0) dX12_wordsOf_79 rfl (wp_ireturn dX12_wordsOf_80 rfl rfl ⟨rfl, rfl⟩)
theorem wo_loop {n most d : Nat} {t : Nat → Nat} {S : xS} (hX : XC S) (hT : xTxM S n t) (hmo : most ≤ 12) : ∀ (j i : Nat) (acc : List (List Nat)) (cur : List Nat), i + j = n → cur.length ≤ 12 → (cur ≠ [] → acc.length < most) → acc.length ≤ most → Wp false (d + 1) 11 cX12_wordsOf (some .int) false 7 [.ref 187, .int (nI most), .int (nI acc.length), .int (nI cur.length), .int (nI i)] [] S (fun r S' => r = some (.int (nI (xwn (xwsp t n most j acc cur)))) ∧ S' = S) := by
  intro j
  induction j with
  | zero =>
    intro i acc cur hi h12 hm hm2
    have hs := hT.1
    have hle := hT.2.1
    have hii : i = n := by omega
    subst hii
    rcases Nat.lt_or_ge 0 cur.length with hz | hz
    · have hne : cur ≠ [] := fun e => by rw [e] at hz; exact absurd hz (by decide)
      have hlt := hm hne
      have EX : xwsp t i most 0 acc cur = some (acc ++ [cur]) := by unfold xwsp; rw [if_neg (fun q => q.elim hne (by omega))]
      have el : xwn (some (acc ++ [cur])) = acc.length + 1 := xlen1 _ _
      rw [EX, el]
      refine wp_iload dX12_wordsOf_7 rfl (wp_aload_n dX12_wordsOf_9 rfl rfl (gv11_18 dX12_wordsOf_10 (xsh hX sh_187) hs ?_))
      refine wn_icmp_gt dX12_wordsOf_13 rfl (by omega) (by omega) (fun c13 => absurd c13 (by omega)) (fun c13 => ?_)
      refine wp_iload dX12_wordsOf_16 rfl (wp_aload_n dX12_wordsOf_18 rfl rfl (gv11_18 dX12_wordsOf_19 (xsh hX sh_187) hs ?_))
      refine wn_icmp_ge dX12_wordsOf_22 rfl (by omega) (by omega) (fun c22 => ?_) (fun c22 => absurd c22 (by omega))
      refine wp_iload dX12_wordsOf_49 rfl (wp_aload_n dX12_wordsOf_51 rfl rfl (gv11_18 dX12_wordsOf_52 (xsh hX sh_187) hs ?_))
      refine wn_icmp_ge dX12_wordsOf_55 rfl (by omega) (by omega) (fun c55 => ?_) (fun c55 => absurd c55 (by omega))
      refine wp_iload_n dX12_wordsOf_70 rfl ?_
      refine wn_if_eq dX12_wordsOf_71 rfl (by omega) (fun c71 => absurd c71 (by omega)) (fun c71 => ?_)
      refine wp_iload_n dX12_wordsOf_74 rfl (wp_iload_n dX12_wordsOf_75 rfl ?_)
      refine wn_icmp_ne dX12_wordsOf_76 rfl (by omega) (by omega) (fun c76 => ?_) (fun c76 => absurd c76 (by omega))
      refine wp_iinc dX12_wordsOf_81 rfl (nI_1 _) ⟨Nat.le_of_ble_eq_true rfl, Or.inr rfl⟩ rfl (wp_iconst (v := nI 0) dX12_wordsOf_84 rfl (wp_istore_n dX12_wordsOf_85 ⟨Nat.le_of_ble_eq_true rfl, Or.inr rfl⟩ rfl (wp_iinc dX12_wordsOf_86 rfl (nI_1 _) ⟨Nat.le_of_ble_eq_true rfl, Or.inr rfl⟩ rfl (wp_goto dX12_wordsOf_89 rfl ?_))))
      refine wp_iload dX12_wordsOf_7 rfl (wp_aload_n dX12_wordsOf_9 rfl rfl (gv11_18 dX12_wordsOf_10 (xsh hX sh_187) hs ?_))
      refine wn_icmp_gt dX12_wordsOf_13 rfl (by omega) (by omega) (fun c13 => ?_) (fun c13 => absurd c13 (by omega))
      exact wp_iload_n dX12_wordsOf_92 rfl (wp_ireturn dX12_wordsOf_93 rfl rfl ⟨rfl, rfl⟩)
    · have hne : cur = [] := List.eq_nil_of_length_eq_zero (by omega)
      have EX : xwsp t i most 0 acc cur = none := by unfold xwsp; rw [if_pos (Or.inl hne)]
      rw [EX]
      refine wp_iload dX12_wordsOf_7 rfl (wp_aload_n dX12_wordsOf_9 rfl rfl (gv11_18 dX12_wordsOf_10 (xsh hX sh_187) hs ?_))
      refine wn_icmp_gt dX12_wordsOf_13 rfl (by omega) (by omega) (fun c13 => absurd c13 (by omega)) (fun c13 => ?_)
      refine wp_iload dX12_wordsOf_16 rfl (wp_aload_n dX12_wordsOf_18 rfl rfl (gv11_18 dX12_wordsOf_19 (xsh hX sh_187) hs ?_))
      refine wn_icmp_ge dX12_wordsOf_22 rfl (by omega) (by omega) (fun c22 => ?_) (fun c22 => absurd c22 (by omega))
      refine wp_iload dX12_wordsOf_49 rfl (wp_aload_n dX12_wordsOf_51 rfl rfl (gv11_18 dX12_wordsOf_52 (xsh hX sh_187) hs ?_))
      refine wn_icmp_ge dX12_wordsOf_55 rfl (by omega) (by omega) (fun c55 => ?_) (fun c55 => absurd c55 (by omega))
      refine wp_iload_n dX12_wordsOf_70 rfl ?_
      refine wn_if_eq dX12_wordsOf_71 rfl (by omega) (fun c71 => ?_) (fun c71 => absurd c71 (by omega))
      exact wp_iconst (v := nI 0) dX12_wordsOf_79 rfl (wp_ireturn dX12_wordsOf_80 rfl rfl ⟨rfl, rfl⟩)
  | succ j ih =>
    intro i acc cur hi h12 hm hm2
    have ein : n - (j + 1) = i := by omega
    have hs := hT.1
    have hle := hT.2.1
    obtain ⟨hc, hb⟩ := hT.2.2 i (by omega)
    have gs := m_isSmall_by hc d S
    cases hsm : xsm (t i) with
    | true =>
      have hlo := xsm_b hsm
      have hb2 : S.2.1 188 i = nI (t i) := by rw [← xby_lo _ (by omega)]; exact hb
      rw [xby_lo _ (by omega), hsm] at gs
      rcases Nat.lt_or_ge cur.length 12 with q12 | q12
      · rcases Nat.lt_or_ge acc.length most with qm | qm
        · have EX : xwsp t n most (j + 1) acc cur = xwsp t n most j acc (cur ++ [t i]) := by rw [xwsp, ein, if_pos hsm, if_neg (by omega)]
          have hl := xlen1 cur (t i)
          rw [EX]
          refine wp_iload dX12_wordsOf_7 rfl (wp_aload_n dX12_wordsOf_9 rfl rfl (gv11_18 dX12_wordsOf_10 (xsh hX sh_187) hs ?_))
          refine wn_icmp_gt dX12_wordsOf_13 rfl (by omega) (by omega) (fun c13 => absurd c13 (by omega)) (fun c13 => ?_)
          refine wp_iload dX12_wordsOf_16 rfl (wp_aload_n dX12_wordsOf_18 rfl rfl (gv11_18 dX12_wordsOf_19 (xsh hX sh_187) hs ?_))
          refine wn_icmp_ge dX12_wordsOf_22 rfl (by omega) (by omega) (fun c22 => absurd c22 (by omega)) (fun c22 => ?_)
          refine wp_aload_n dX12_wordsOf_25 rfl rfl (g11_14 dX12_wordsOf_26 (xsh hX sh_187) (xrr hX r187_1) (wp_iload dX12_wordsOf_29 rfl (wn_baload dX12_wordsOf_31 (xsh hX sh_188) (Or.inl rfl) (by omega) (by decide) hb2 (wp_is1 dX12_wordsOf_32 k11_37 q_X12_isSmall (by decide) (Nat.le_of_ble_eq_true rfl) gs ?_))))
          refine wb_if_eq dX12_wordsOf_35 rfl (fun c35 => absurd c35 (by decide)) (fun c35 => ?_)
          refine wp_iinc dX12_wordsOf_38 rfl (nI_1 _) ⟨Nat.le_of_ble_eq_true rfl, Or.inr rfl⟩ rfl (wp_iload_n dX12_wordsOf_41 rfl (wp_bipush (v := nI 12) dX12_wordsOf_42 rfl ?_))
          refine wn_icmp_le dX12_wordsOf_44 rfl (by omega) (by omega) (fun c44 => ?_) (fun c44 => absurd c44 (by omega))
          refine wp_iinc dX12_wordsOf_86 rfl (nI_1 _) ⟨Nat.le_of_ble_eq_true rfl, Or.inr rfl⟩ rfl (wp_goto dX12_wordsOf_89 rfl ?_)
          have ih2 := ih (i + 1) acc (cur ++ [t i]) (by omega) (by omega) (fun _ => qm) hm2
          rw [hl] at ih2
          exact ih2
        · have EX : xwsp t n most (j + 1) acc cur = none := by rw [xwsp, ein, if_pos hsm, if_pos (Or.inr qm)]
          have hcn : cur = [] := by
            rcases Decidable.em (cur = []) with w | w
            · exact w
            · have := hm w; omega
          have hc0 : cur.length = 0 := by rw [hcn]; rfl
          have ham : acc.length = most := by omega
          rw [EX, hc0, ham]
          refine wp_iload dX12_wordsOf_7 rfl (wp_aload_n dX12_wordsOf_9 rfl rfl (gv11_18 dX12_wordsOf_10 (xsh hX sh_187) hs ?_))
          refine wn_icmp_gt dX12_wordsOf_13 rfl (by omega) (by omega) (fun c13 => absurd c13 (by omega)) (fun c13 => ?_)
          refine wp_iload dX12_wordsOf_16 rfl (wp_aload_n dX12_wordsOf_18 rfl rfl (gv11_18 dX12_wordsOf_19 (xsh hX sh_187) hs ?_))
          refine wn_icmp_ge dX12_wordsOf_22 rfl (by omega) (by omega) (fun c22 => absurd c22 (by omega)) (fun c22 => ?_)
          refine wp_aload_n dX12_wordsOf_25 rfl rfl (g11_14 dX12_wordsOf_26 (xsh hX sh_187) (xrr hX r187_1) (wp_iload dX12_wordsOf_29 rfl (wn_baload dX12_wordsOf_31 (xsh hX sh_188) (Or.inl rfl) (by omega) (by decide) hb2 (wp_is1 dX12_wordsOf_32 k11_37 q_X12_isSmall (by decide) (Nat.le_of_ble_eq_true rfl) gs ?_))))
          refine wb_if_eq dX12_wordsOf_35 rfl (fun c35 => absurd c35 (by decide)) (fun c35 => ?_)
          refine wp_iinc dX12_wordsOf_38 rfl (nI_1 _) ⟨Nat.le_of_ble_eq_true rfl, Or.inr rfl⟩ rfl (wp_iload_n dX12_wordsOf_41 rfl (wp_bipush (v := nI 12) dX12_wordsOf_42 rfl ?_))
          refine wn_icmp_le dX12_wordsOf_44 rfl (by omega) (by omega) (fun c44 => ?_) (fun c44 => absurd c44 (by omega))
          exact wp_iinc dX12_wordsOf_86 rfl (nI_1 _) ⟨Nat.le_of_ble_eq_true rfl, Or.inr rfl⟩ rfl (wp_goto dX12_wordsOf_89 rfl (wo_dead hX hT hmo j (i + 1) (0 + 1) (by omega) (by decide) (by decide)))
      · have EX : xwsp t n most (j + 1) acc cur = none := by rw [xwsp, ein, if_pos hsm, if_pos (Or.inl (by omega))]
        rw [EX]
        refine wp_iload dX12_wordsOf_7 rfl (wp_aload_n dX12_wordsOf_9 rfl rfl (gv11_18 dX12_wordsOf_10 (xsh hX sh_187) hs ?_))
        refine wn_icmp_gt dX12_wordsOf_13 rfl (by omega) (by omega) (fun c13 => absurd c13 (by omega)) (fun c13 => ?_)
        refine wp_iload dX12_wordsOf_16 rfl (wp_aload_n dX12_wordsOf_18 rfl rfl (gv11_18 dX12_wordsOf_19 (xsh hX sh_187) hs ?_))
        refine wn_icmp_ge dX12_wordsOf_22 rfl (by omega) (by omega) (fun c22 => absurd c22 (by omega)) (fun c22 => ?_)
        refine wp_aload_n dX12_wordsOf_25 rfl rfl (g11_14 dX12_wordsOf_26 (xsh hX sh_187) (xrr hX r187_1) (wp_iload dX12_wordsOf_29 rfl (wn_baload dX12_wordsOf_31 (xsh hX sh_188) (Or.inl rfl) (by omega) (by decide) hb2 (wp_is1 dX12_wordsOf_32 k11_37 q_X12_isSmall (by decide) (Nat.le_of_ble_eq_true rfl) gs ?_))))
        refine wb_if_eq dX12_wordsOf_35 rfl (fun c35 => absurd c35 (by decide)) (fun c35 => ?_)
        refine wp_iinc dX12_wordsOf_38 rfl (nI_1 _) ⟨Nat.le_of_ble_eq_true rfl, Or.inr rfl⟩ rfl (wp_iload_n dX12_wordsOf_41 rfl (wp_bipush (v := nI 12) dX12_wordsOf_42 rfl ?_))
        refine wn_icmp_le dX12_wordsOf_44 rfl (by omega) (by omega) (fun c44 => absurd c44 (by omega)) (fun c44 => ?_)
        exact wp_iconst (v := nI 0) dX12_wordsOf_47 rfl (wp_ireturn dX12_wordsOf_48 rfl rfl ⟨rfl, rfl⟩)
    | false =>
      rw [hsm] at gs
      rcases Decidable.em (t i = 32) with h32 | h32
      · have hb2 : S.2.1 188 i = nI 32 := by rw [hb, h32]; decide
        rcases Nat.lt_or_ge 0 cur.length with hz | hz
        · have hne : cur ≠ [] := fun e => by rw [e] at hz; exact absurd hz (by decide)
          have hlt := hm hne
          have EX : xwsp t n most (j + 1) acc cur = xwsp t n most j (acc ++ [cur]) [] := by rw [xwsp, ein, if_neg (by rw [hsm]; decide), if_pos ⟨h32, hne, hlt⟩]
          have hl := xlen1 acc cur
          rw [EX]
          refine wp_iload dX12_wordsOf_7 rfl (wp_aload_n dX12_wordsOf_9 rfl rfl (gv11_18 dX12_wordsOf_10 (xsh hX sh_187) hs ?_))
          refine wn_icmp_gt dX12_wordsOf_13 rfl (by omega) (by omega) (fun c13 => absurd c13 (by omega)) (fun c13 => ?_)
          refine wp_iload dX12_wordsOf_16 rfl (wp_aload_n dX12_wordsOf_18 rfl rfl (gv11_18 dX12_wordsOf_19 (xsh hX sh_187) hs ?_))
          refine wn_icmp_ge dX12_wordsOf_22 rfl (by omega) (by omega) (fun c22 => absurd c22 (by omega)) (fun c22 => ?_)
          refine wp_aload_n dX12_wordsOf_25 rfl rfl (g11_14 dX12_wordsOf_26 (xsh hX sh_187) (xrr hX r187_1) (wp_iload dX12_wordsOf_29 rfl (wn_baload dX12_wordsOf_31 (xsh hX sh_188) (Or.inl rfl) (by omega) (by decide) hb (wp_is1 dX12_wordsOf_32 k11_37 q_X12_isSmall (by decide) (Nat.le_of_ble_eq_true rfl) gs ?_))))
          refine wb_if_eq dX12_wordsOf_35 rfl (fun c35 => ?_) (fun c35 => absurd c35 (by decide))
          refine wp_iload dX12_wordsOf_49 rfl (wp_aload_n dX12_wordsOf_51 rfl rfl (gv11_18 dX12_wordsOf_52 (xsh hX sh_187) hs ?_))
          refine wn_icmp_ge dX12_wordsOf_55 rfl (by omega) (by omega) (fun c55 => absurd c55 (by omega)) (fun c55 => ?_)
          refine wp_aload_n dX12_wordsOf_58 rfl rfl (g11_14 dX12_wordsOf_59 (xsh hX sh_187) (xrr hX r187_1) (wp_iload dX12_wordsOf_62 rfl (wn_baload dX12_wordsOf_64 (xsh hX sh_188) (Or.inl rfl) (by omega) (by decide) hb2 (wp_bipush (v := nI 32) dX12_wordsOf_65 rfl ?_))))
          refine wn_icmp_ne dX12_wordsOf_67 rfl (by omega) (by omega) (fun c67 => absurd c67 (by omega)) (fun c67 => ?_)
          refine wp_iload_n dX12_wordsOf_70 rfl ?_
          refine wn_if_eq dX12_wordsOf_71 rfl (by omega) (fun c71 => absurd c71 (by omega)) (fun c71 => ?_)
          refine wp_iload_n dX12_wordsOf_74 rfl (wp_iload_n dX12_wordsOf_75 rfl ?_)
          refine wn_icmp_ne dX12_wordsOf_76 rfl (by omega) (by omega) (fun c76 => ?_) (fun c76 => absurd c76 (by omega))
          refine wp_iinc dX12_wordsOf_81 rfl (nI_1 _) ⟨Nat.le_of_ble_eq_true rfl, Or.inr rfl⟩ rfl (wp_iconst (v := nI 0) dX12_wordsOf_84 rfl (wp_istore_n dX12_wordsOf_85 ⟨Nat.le_of_ble_eq_true rfl, Or.inr rfl⟩ rfl (wp_iinc dX12_wordsOf_86 rfl (nI_1 _) ⟨Nat.le_of_ble_eq_true rfl, Or.inr rfl⟩ rfl (wp_goto dX12_wordsOf_89 rfl ?_))))
          have ih2 := ih (i + 1) (acc ++ [cur]) [] (by omega) (by decide) (fun w => absurd rfl w) (by omega)
          rw [hl] at ih2
          exact ih2
        · have hne : cur = [] := List.eq_nil_of_length_eq_zero (by omega)
          have EX : xwsp t n most (j + 1) acc cur = none := by rw [xwsp, ein, if_neg (by rw [hsm]; decide), if_neg (fun q => q.2.1 hne)]
          rw [EX]
          refine wp_iload dX12_wordsOf_7 rfl (wp_aload_n dX12_wordsOf_9 rfl rfl (gv11_18 dX12_wordsOf_10 (xsh hX sh_187) hs ?_))
          refine wn_icmp_gt dX12_wordsOf_13 rfl (by omega) (by omega) (fun c13 => absurd c13 (by omega)) (fun c13 => ?_)
          refine wp_iload dX12_wordsOf_16 rfl (wp_aload_n dX12_wordsOf_18 rfl rfl (gv11_18 dX12_wordsOf_19 (xsh hX sh_187) hs ?_))
          refine wn_icmp_ge dX12_wordsOf_22 rfl (by omega) (by omega) (fun c22 => absurd c22 (by omega)) (fun c22 => ?_)
          refine wp_aload_n dX12_wordsOf_25 rfl rfl (g11_14 dX12_wordsOf_26 (xsh hX sh_187) (xrr hX r187_1) (wp_iload dX12_wordsOf_29 rfl (wn_baload dX12_wordsOf_31 (xsh hX sh_188) (Or.inl rfl) (by omega) (by decide) hb (wp_is1 dX12_wordsOf_32 k11_37 q_X12_isSmall (by decide) (Nat.le_of_ble_eq_true rfl) gs ?_))))
          refine wb_if_eq dX12_wordsOf_35 rfl (fun c35 => ?_) (fun c35 => absurd c35 (by decide))
          refine wp_iload dX12_wordsOf_49 rfl (wp_aload_n dX12_wordsOf_51 rfl rfl (gv11_18 dX12_wordsOf_52 (xsh hX sh_187) hs ?_))
          refine wn_icmp_ge dX12_wordsOf_55 rfl (by omega) (by omega) (fun c55 => absurd c55 (by omega)) (fun c55 => ?_)
          refine wp_aload_n dX12_wordsOf_58 rfl rfl (g11_14 dX12_wordsOf_59 (xsh hX sh_187) (xrr hX r187_1) (wp_iload dX12_wordsOf_62 rfl (wn_baload dX12_wordsOf_64 (xsh hX sh_188) (Or.inl rfl) (by omega) (by decide) hb2 (wp_bipush (v := nI 32) dX12_wordsOf_65 rfl ?_))))
          refine wn_icmp_ne dX12_wordsOf_67 rfl (by omega) (by omega) (fun c67 => absurd c67 (by omega)) (fun c67 => ?_)
          refine wp_iload_n dX12_wordsOf_70 rfl ?_
          refine wn_if_eq dX12_wordsOf_71 rfl (by omega) (fun c71 => ?_) (fun c71 => absurd c71 (by omega))
          exact wp_iconst (v := nI 0) dX12_wordsOf_79 rfl (wp_ireturn dX12_wordsOf_80 rfl rfl ⟨rfl, rfl⟩)
      · have hne := xby_32 _ hc h32
        have EX : xwsp t n most (j + 1) acc cur = none := by rw [xwsp, ein, if_neg (by rw [hsm]; decide), if_neg (fun q => h32 q.1)]
        rw [EX]
        refine wp_iload dX12_wordsOf_7 rfl (wp_aload_n dX12_wordsOf_9 rfl rfl (gv11_18 dX12_wordsOf_10 (xsh hX sh_187) hs ?_))
        refine wn_icmp_gt dX12_wordsOf_13 rfl (by omega) (by omega) (fun c13 => absurd c13 (by omega)) (fun c13 => ?_)
        refine wp_iload dX12_wordsOf_16 rfl (wp_aload_n dX12_wordsOf_18 rfl rfl (gv11_18 dX12_wordsOf_19 (xsh hX sh_187) hs ?_))
        refine wn_icmp_ge dX12_wordsOf_22 rfl (by omega) (by omega) (fun c22 => absurd c22 (by omega)) (fun c22 => ?_)
        refine wp_aload_n dX12_wordsOf_25 rfl rfl (g11_14 dX12_wordsOf_26 (xsh hX sh_187) (xrr hX r187_1) (wp_iload dX12_wordsOf_29 rfl (wn_baload dX12_wordsOf_31 (xsh hX sh_188) (Or.inl rfl) (by omega) (by decide) hb (wp_is1 dX12_wordsOf_32 k11_37 q_X12_isSmall (by decide) (Nat.le_of_ble_eq_true rfl) gs ?_))))
        refine wb_if_eq dX12_wordsOf_35 rfl (fun c35 => ?_) (fun c35 => absurd c35 (by decide))
        refine wp_iload dX12_wordsOf_49 rfl (wp_aload_n dX12_wordsOf_51 rfl rfl (gv11_18 dX12_wordsOf_52 (xsh hX sh_187) hs ?_))
        refine wn_icmp_ge dX12_wordsOf_55 rfl (by omega) (by omega) (fun c55 => absurd c55 (by omega)) (fun c55 => ?_)
        refine wp_aload_n dX12_wordsOf_58 rfl rfl (g11_14 dX12_wordsOf_59 (xsh hX sh_187) (xrr hX r187_1) (wp_iload dX12_wordsOf_62 rfl (wn_baload dX12_wordsOf_64 (xsh hX sh_188) (Or.inl rfl) (by omega) (by decide) hb (wp_bipush (v := nI 32) dX12_wordsOf_65 rfl ?_))))
        refine wp_icmp_ne dX12_wordsOf_67 rfl (fun c67 => ?_) (fun c67 => absurd c67 hne)
        exact wp_iconst (v := nI 0) dX12_wordsOf_79 rfl (wp_ireturn dX12_wordsOf_80 rfl rfl ⟨rfl, rfl⟩)
theorem m_wordsOf {n most : Nat} {t : Nat → Nat} (d : Nat) {S : xS} (hX : XC S) (hT : xTxM S n t) (hmo : most ≤ 12) : xcall false (d + 1) j_X12_wordsOf [.ref 187, .int (nI most)] S (some (.int (nI (xwn (xwsp t n most n [] []))))) S := by
  refine xcall_intro (ls := [.ref 187, .int (nI most), .float 0, .float 0, .float 0]) q_X12_wordsOf (by decide) rfl (Nat.le_of_ble_eq_true rfl) rfl ?_
  exact wp_iconst (v := nI 0) dX12_wordsOf_0 rfl (wp_istore_n dX12_wordsOf_1 ⟨Nat.le_of_ble_eq_true rfl, Or.inr rfl⟩ rfl (wp_iconst (v := nI 0) dX12_wordsOf_2 rfl (wp_istore_n dX12_wordsOf_3 ⟨Nat.le_of_ble_eq_true rfl, Or.inr rfl⟩ rfl (wp_iconst (v := nI 0) dX12_wordsOf_4 rfl (wp_istore dX12_wordsOf_5 ⟨Nat.le_of_ble_eq_true rfl, Or.inr rfl⟩ rfl (wo_loop hX hT hmo n 0 [] [] (by omega) (by decide) (fun w => absurd rfl w) (Nat.zero_le _)))))))
def xWp (most part lc : Nat) : Prop := (most = 12 ∧ part = 1700 ∧ lc = 196) ∨ (most = 5 ∧ part = 1844 ∧ lc = 197)
theorem xWp.sh {most part lc : Nat} (h : xWp most part lc) {S : xS} (hX : XC S) : S.1[lc]? = some (20, most) := by
  rcases h with ⟨rfl, rfl, rfl⟩ | ⟨rfl, rfl, rfl⟩
  · exact xsh hX sh_196
  · exact xsh hX sh_197
theorem tk_loop {n most part lc d : Nat} {t : Nat → Nat} {l : List (List Nat)} (hp : xWp most part lc) : ∀ (j i : Nat) (acc : List (List Nat)) (cur : List Nat) (S : xS), i + j = n → XC S → xTxM S n t → xwsp t n most j acc cur = some l → cur.length ≤ 12 → (∀ c ∈ cur, xsm c = true) → xWl acc → xWM part lc S acc → (∀ k, k < cur.length → S.2.1 195 (part + 12 * acc.length + k) = nI (cur.getD k 0)) → Wp false d 11 cX12_takeWords none false 8 [.ref 187, .int (nI part), .ref lc, .int (nI acc.length), .int (nI cur.length), .int (nI i)] [] S (fun r S' => r = none ∧ xFl (fun i k => i = lc ∨ (i = 195 ∧ part ≤ k ∧ k < part + 12 * most)) S S' ∧ xWM part lc S' l) := by
  intro j
  induction j with
  | zero =>
    intro i acc cur S hi hX hT hR h12 hcS hL hA hC
    have hs := hT.1
    have hle := hT.2.1
    have hpu := hp
    unfold xWp at hpu
    have hlc := hp.sh hX
    have hii : i = n := by omega
    subst hii
    unfold xwsp at hR
    split at hR
    · cases hR
    · rename_i hno
      cases hR
      have hm : acc.length < most := Nat.lt_of_not_le (fun w => hno (Or.inr w))
      have hl := xlen1 acc cur
      have F1 : xFl (fun i k => i = lc ∨ (i = 195 ∧ part ≤ k ∧ k < part + 12 * most)) S (xSI S lc acc.length (nI cur.length)) := (xFl.rf S).SI (Or.inl rfl)
      have F0 : xFl (fun i k => i = lc ∧ k = acc.length) S (xSI S lc acc.length (nI cur.length)) := (xFl.rf S).SI ⟨rfl, rfl⟩
      have q1 : xWM part lc (xSI S lc acc.length (nI cur.length)) (acc ++ [cur]) := by
        intro q hq
        rw [hl] at hq
        rw [xgA _ _ _ _ (by rw [hl]; omega)]
        split
        · rename_i w
          exact ⟨F0.i (hA q w).1 (by omega), fun k hk => F0.i ((hA q w).2 k hk) (by omega)⟩
        · rename_i w
          rw [show q = acc.length by omega]
          exact ⟨xI_same _ _ _ _, fun k hk => F0.i (hC k hk) (by omega)⟩
      refine wp_iload dX12_takeWords_8 rfl (wp_aload_n dX12_takeWords_10 rfl rfl (gv11_18 dX12_takeWords_11 (xsh hX sh_187) hs ?_))
      refine wn_icmp_gt dX12_takeWords_14 rfl (by omega) (by omega) (fun c14 => absurd c14 (by omega)) (fun c14 => ?_)
      refine wp_iload dX12_takeWords_17 rfl (wp_aload_n dX12_takeWords_19 rfl rfl (gv11_18 dX12_takeWords_20 (xsh hX sh_187) hs ?_))
      refine wn_icmp_ge dX12_takeWords_23 rfl (by omega) (by omega) (fun c23 => ?_) (fun c23 => absurd c23 (by omega))
      refine wp_aload_n dX12_takeWords_65 rfl rfl (wp_iload_n dX12_takeWords_66 rfl (wp_iload dX12_takeWords_67 rfl (wn_iastore dX12_takeWords_69 hlc rfl (by omega) (by omega) (wp_iinc dX12_takeWords_70 rfl (nI_1 _) ⟨Nat.le_of_ble_eq_true rfl, Or.inr rfl⟩ rfl (wp_iconst (v := nI 0) dX12_takeWords_73 rfl (wp_istore dX12_takeWords_74 ⟨Nat.le_of_ble_eq_true rfl, Or.inr rfl⟩ rfl (wp_iinc dX12_takeWords_76 rfl (nI_1 _) ⟨Nat.le_of_ble_eq_true rfl, Or.inr rfl⟩ rfl (wp_goto dX12_takeWords_79 rfl ?_))))))))
      refine wp_iload dX12_takeWords_8 rfl (wp_aload_n dX12_takeWords_10 rfl rfl (gv11_18 dX12_takeWords_11 (xsh hX sh_187) (F0.i hs (by omega)) ?_))
      refine wn_icmp_gt dX12_takeWords_14 rfl (by omega) (by omega) (fun c14 => ?_) (fun c14 => absurd c14 (by omega))
      exact wp_return dX12_takeWords_82 rfl ⟨rfl, F1, q1⟩
  | succ j ih =>
    intro i acc cur S hi hX hT hR h12 hcS hL hA hC
    have ein : n - (j + 1) = i := by omega
    have hs := hT.1
    have hle := hT.2.1
    have hpu := hp
    unfold xWp at hpu
    have hlc := hp.sh hX
    obtain ⟨hc, hb⟩ := hT.2.2 i (by omega)
    unfold xwsp at hR
    rw [ein] at hR
    split at hR
    · rename_i hsm
      split at hR
      · cases hR
      · rename_i hno
        have hlo := xsm_b hsm
        have hm : acc.length < most := Nat.lt_of_not_le (fun w => hno (Or.inr w))
        have h11 : cur.length < 12 := by omega
        have hb2 : S.2.1 188 i = nI (t i) := by rw [← xby_lo _ (by omega)]; exact hb
        have hl := xlen1 cur (t i)
        have F1 : xFl (fun i k => i = lc ∨ (i = 195 ∧ part ≤ k ∧ k < part + 12 * most)) S (xSI S 195 (part + 12 * acc.length + cur.length) (nI (t i))) := (xFl.rf S).SI (Or.inr ⟨rfl, by omega, by omega⟩)
        have F0 : xFl (fun i k => i = 195 ∧ k = part + 12 * acc.length + cur.length) S (xSI S 195 (part + 12 * acc.length + cur.length) (nI (t i))) := (xFl.rf S).SI ⟨rfl, rfl⟩
        refine wp_iload dX12_takeWords_8 rfl (wp_aload_n dX12_takeWords_10 rfl rfl (gv11_18 dX12_takeWords_11 (xsh hX sh_187) hs ?_))
        refine wn_icmp_gt dX12_takeWords_14 rfl (by omega) (by omega) (fun c14 => absurd c14 (by omega)) (fun c14 => ?_)
        refine wp_iload dX12_takeWords_17 rfl (wp_aload_n dX12_takeWords_19 rfl rfl (gv11_18 dX12_takeWords_20 (xsh hX sh_187) hs ?_))
        refine wn_icmp_ge dX12_takeWords_23 rfl (by omega) (by omega) (fun c23 => absurd c23 (by omega)) (fun c23 => ?_)
        refine wp_aload_n dX12_takeWords_26 rfl rfl (g11_14 dX12_takeWords_27 (xsh hX sh_187) (xrr hX r187_1) (wp_iload dX12_takeWords_30 rfl (wn_baload dX12_takeWords_32 (xsh hX sh_188) (Or.inl rfl) (by omega) (by decide) hb2 (wp_bipush (v := nI 32) dX12_takeWords_33 rfl ?_))))
        refine wn_icmp_eq dX12_takeWords_35 rfl (by omega) (by omega) (fun c35 => absurd c35 (by omega)) (fun c35 => ?_)
        refine wp_aload_n dX12_takeWords_38 rfl rfl (g11_150 dX12_takeWords_39 (xsh hX sh_187) (xrr hX r187_27) (wp_iload_n dX12_takeWords_42 rfl (wp_bipush (v := nI 12) dX12_takeWords_43 rfl (wp_iload_n dX12_takeWords_45 rfl (wv_imul dX12_takeWords_46 (pk_mul _ _) (wv_iadd dX12_takeWords_47 (nI_add _ _) (wp_iload dX12_takeWords_48 rfl (wv_iadd dX12_takeWords_50 (nI_add _ _) (wp_aload_n dX12_takeWords_51 rfl rfl (g11_14 dX12_takeWords_52 (xsh hX sh_187) (xrr hX r187_1) (wp_iload dX12_takeWords_55 rfl (wn_baload dX12_takeWords_57 (xsh hX sh_188) (Or.inl rfl) (by omega) (by decide) hb2 (wn_bastore dX12_takeWords_58 (xsh hX sh_195) rfl (by omega) (by decide) (xnb_lo (by omega)) (wp_iinc dX12_takeWords_59 rfl (nI_1 _) ⟨Nat.le_of_ble_eq_true rfl, Or.inr rfl⟩ rfl (wp_goto dX12_takeWords_62 rfl (wp_iinc dX12_takeWords_76 rfl (nI_1 _) ⟨Nat.le_of_ble_eq_true rfl, Or.inr rfl⟩ rfl (wp_goto dX12_takeWords_79 rfl ?_)))))))))))))))))
        have ih2 := ih (i + 1) acc (cur ++ [t i]) (xSI S 195 (part + 12 * acc.length + cur.length) (nI (t i))) (by omega) (F1.XC hX) (hT.fr F0 (by omega) (fun k => by omega)) hR (by omega) (fun c hc2 => (List.mem_append.mp hc2).elim (hcS c) (fun w => by rw [List.mem_singleton.mp w]; exact hsm)) hL (fun q hq => ⟨F0.i (hA q hq).1 (by omega), fun k hk => F0.i ((hA q hq).2 k hk) (fun w => by have := (xWl_get hL hq).2.1; omega)⟩) (fun k hk => by
          rw [xgA _ _ _ _ hk]
          split
          · rename_i w; exact F0.i (hC k w) (by omega)
          · rw [show k = cur.length by omega]; exact xI_same _ _ _ _)
        rw [hl] at ih2
        refine ih2.mono ?_
        rintro r S' ⟨z1, z2, z3⟩
        exact ⟨z1, F1.tt z2, z3⟩
    · rename_i hsm
      split at hR
      · rename_i hok
        obtain ⟨h32, hne, hm⟩ := hok
        have hb2 : S.2.1 188 i = nI 32 := by rw [hb, h32]; decide
        have hcs : ∀ c ∈ cur, xsm c = true := hcS
        have hl := xlen1 acc cur
        have F1 : xFl (fun i k => i = lc ∨ (i = 195 ∧ part ≤ k ∧ k < part + 12 * most)) S (xSI S lc acc.length (nI cur.length)) := (xFl.rf S).SI (Or.inl rfl)
        have F0 : xFl (fun i k => i = lc ∧ k = acc.length) S (xSI S lc acc.length (nI cur.length)) := (xFl.rf S).SI ⟨rfl, rfl⟩
        have q1 : xWM part lc (xSI S lc acc.length (nI cur.length)) (acc ++ [cur]) := by
          intro q hq
          rw [hl] at hq
          rw [xgA _ _ _ _ (by rw [hl]; omega)]
          split
          · rename_i w
            exact ⟨F0.i (hA q w).1 (by omega), fun k hk => F0.i ((hA q w).2 k hk) (by omega)⟩
          · rename_i w
            rw [show q = acc.length by omega]
            exact ⟨xI_same _ _ _ _, fun k hk => F0.i (hC k hk) (by omega)⟩
        refine wp_iload dX12_takeWords_8 rfl (wp_aload_n dX12_takeWords_10 rfl rfl (gv11_18 dX12_takeWords_11 (xsh hX sh_187) hs ?_))
        refine wn_icmp_gt dX12_takeWords_14 rfl (by omega) (by omega) (fun c14 => absurd c14 (by omega)) (fun c14 => ?_)
        refine wp_iload dX12_takeWords_17 rfl (wp_aload_n dX12_takeWords_19 rfl rfl (gv11_18 dX12_takeWords_20 (xsh hX sh_187) hs ?_))
        refine wn_icmp_ge dX12_takeWords_23 rfl (by omega) (by omega) (fun c23 => absurd c23 (by omega)) (fun c23 => ?_)
        refine wp_aload_n dX12_takeWords_26 rfl rfl (g11_14 dX12_takeWords_27 (xsh hX sh_187) (xrr hX r187_1) (wp_iload dX12_takeWords_30 rfl (wn_baload dX12_takeWords_32 (xsh hX sh_188) (Or.inl rfl) (by omega) (by decide) hb2 (wp_bipush (v := nI 32) dX12_takeWords_33 rfl ?_))))
        refine wn_icmp_eq dX12_takeWords_35 rfl (by omega) (by omega) (fun c35 => ?_) (fun c35 => absurd c35 (by omega))
        refine wp_aload_n dX12_takeWords_65 rfl rfl (wp_iload_n dX12_takeWords_66 rfl (wp_iload dX12_takeWords_67 rfl (wn_iastore dX12_takeWords_69 hlc rfl (by omega) (by omega) (wp_iinc dX12_takeWords_70 rfl (nI_1 _) ⟨Nat.le_of_ble_eq_true rfl, Or.inr rfl⟩ rfl (wp_iconst (v := nI 0) dX12_takeWords_73 rfl (wp_istore dX12_takeWords_74 ⟨Nat.le_of_ble_eq_true rfl, Or.inr rfl⟩ rfl (wp_iinc dX12_takeWords_76 rfl (nI_1 _) ⟨Nat.le_of_ble_eq_true rfl, Or.inr rfl⟩ rfl (wp_goto dX12_takeWords_79 rfl ?_))))))))
        have ih2 := ih (i + 1) (acc ++ [cur]) [] (xSI S lc acc.length (nI cur.length)) (by omega) (F1.XC hX) (hT.fr F0 (by omega) (fun k => by omega)) hR (by decide) (fun x hx => by cases hx) (xWl_app hL hne h12 hcs) q1 (fun k hk => absurd hk (Nat.not_lt_zero k))
        rw [hl] at ih2
        refine ih2.mono ?_
        rintro r S' ⟨z1, z2, z3⟩
        exact ⟨z1, F1.tt z2, z3⟩
      · cases hR
theorem m_takeWords {n most part lc : Nat} {t : Nat → Nat} {l : List (List Nat)} (d : Nat) (hp : xWp most part lc) {S : xS} (hX : XC S) (hT : xTxM S n t) (hR : xwsp t n most n [] [] = some l) : ∃ S', xcall false d j_X12_takeWords [.ref 187, .int (nI part), .ref lc] S none S' ∧ xFl (fun i k => i = lc ∨ (i = 195 ∧ part ≤ k ∧ k < part + 12 * most)) S S' ∧ xWM part lc S' l := by
  have key : ∃ r S', xcall false d j_X12_takeWords [.ref 187, .int (nI part), .ref lc] S r S' ∧ (r = none ∧ xFl (fun i k => i = lc ∨ (i = 195 ∧ part ≤ k ∧ k < part + 12 * most)) S S' ∧ xWM part lc S' l) := by
    refine xcall_some (ls := [.ref 187, .int (nI part), .ref lc, .float 0, .float 0, .float 0]) q_X12_takeWords (by decide) rfl (Nat.le_of_ble_eq_true rfl) rfl ?_
    exact wp_iconst (v := nI 0) dX12_takeWords_0 rfl (wp_istore_n dX12_takeWords_1 ⟨Nat.le_of_ble_eq_true rfl, Or.inr rfl⟩ rfl (wp_iconst (v := nI 0) dX12_takeWords_2 rfl (wp_istore dX12_takeWords_3 ⟨Nat.le_of_ble_eq_true rfl, Or.inr rfl⟩ rfl (wp_iconst (v := nI 0) dX12_takeWords_5 rfl (wp_istore dX12_takeWords_6 ⟨Nat.le_of_ble_eq_true rfl, Or.inr rfl⟩ rfl (tk_loop hp n 0 [] [] S (by omega) hX hT hR (by decide) (fun x hx => by cases hx) (fun x hx => by cases hx) (fun q hq => absurd hq (Nat.not_lt_zero q)) (fun k hk => absurd hk (Nat.not_lt_zero k))))))))
  obtain ⟨r, S', g, rfl, z1, z2⟩ := key
  exact ⟨S', g, z1, z2⟩
def xFmp (i k : Nat) : Prop := (i = 187 ∧ (k = 0 ∨ k = 2 ∨ k = 3 ∨ k = 4 ∨ k = 30)) ∨ i = 196 ∨ (i = 195 ∧ 1700 ≤ k ∧ k < 1700 + 12 * 12)
theorem m_people {n : Nat} {t : Nat → Nat} (d : Nat) {S : xS} (hX : XC S) (hn : S.2.1 187 2 = nI n) (hle : n ≤ 260) (hb : ∀ k, k < n → t k < 256 ∧ S.2.1 188 k = xby (t k)) : ∃ k S', xcall false (d + 2) j_X12_people [.ref 187] S (some (.int k)) S' ∧ xFl xFmp S S' ∧ S'.2.1 187 2 = nI 0 ∧ (xwsp t n 12 n [] [] = none → k = -1 ∧ S'.2.1 187 30 = S.2.1 187 30 ∧ ∀ a k, a = 196 ∨ a = 195 → S'.2.1 a k = S.2.1 a k) ∧ (∀ l, xwsp t n 12 n [] [] = some l → k = nI l.length ∧ S'.2.1 187 30 = nI l.length ∧ xWM 1700 196 S' l) := by
  have gt := m_taken (d + 1) (S := xSI S 187 0 (nI 0)) hX (xi hn (Or.inr (by decide)))
  have F1 : xFl (fun i k => i = 187 ∧ (k = 0 ∨ k = 2 ∨ k = 3 ∨ k = 4)) S (xSI (xSI (xSI (xSI S 187 0 (nI 0)) 187 3 (nI n)) 187 2 (nI 0)) 187 4 (nI 0)) := ((((xFl.rf S).SI ⟨rfl, by decide⟩).SI ⟨rfl, by decide⟩).SI ⟨rfl, by decide⟩).SI ⟨rfl, by decide⟩
  have hs : (xSI (xSI (xSI (xSI S 187 0 (nI 0)) 187 3 (nI n)) 187 2 (nI 0)) 187 4 (nI 0)).2.1 187 3 = nI n := xi (xi (xI_same _ _ _ _) (Or.inr (by decide))) (Or.inr (by decide))
  have h2 : (xSI (xSI (xSI (xSI S 187 0 (nI 0)) 187 3 (nI n)) 187 2 (nI 0)) 187 4 (nI 0)).2.1 187 2 = nI 0 := xi (xI_same _ _ _ _) (Or.inr (by decide))
  have hT : xTxM (xSI (xSI (xSI (xSI S 187 0 (nI 0)) 187 3 (nI n)) 187 2 (nI 0)) 187 4 (nI 0)) n t := ⟨hs, hle, fun k hk => ⟨(hb k hk).1, F1.i (hb k hk).2 (by omega)⟩⟩
  generalize xSI (xSI (xSI (xSI S 187 0 (nI 0)) 187 3 (nI n)) 187 2 (nI 0)) 187 4 (nI 0) = S1 at gt F1 hs h2 hT
  have X1 := F1.XC hX
  have gw := m_wordsOf (most := 12) d X1 hT (by decide)
  have M1 : xFl xFmp S S1 := F1.mono (fun i k h => by unfold xFmp; omega)
  cases hR : xwsp t n 12 n [] [] with
  | none =>
    rw [hR] at gw
    refine ⟨-1, S1, ?_, M1, h2, fun _ => ⟨rfl, F1.2.2 _ _ (by omega), fun a k h => F1.2.2 _ _ (by omega)⟩, fun l hl => (by cases hl)⟩
    refine xcall_intro (ls := [.ref 187, .float 0]) q_X12_people (by decide) rfl (Nat.le_of_ble_eq_true rfl) rfl ?_
    refine wp_aload_n dX12_people_0 rfl rfl (wp_iconst (v := nI 0) dX12_people_1 rfl (p11_1 dX12_people_2 (xsh hX sh_187) (wp_aload_n dX12_people_5 rfl rfl (wp_iv1 dX12_people_6 k11_69 q_X12_taken (by decide) (xsh hX sh_187) (by decide) (Nat.le_of_ble_eq_true rfl) gt (wp_aload_n dX12_people_9 rfl rfl (wp_bipush (v := nI 12) dX12_people_10 rfl (wp_iv2 dX12_people_12 k11_173 q_X12_wordsOf (by decide) (xsh X1 sh_187) (by decide) (Nat.le_of_ble_eq_true rfl) gw (wp_istore_n dX12_people_15 ⟨Nat.le_of_ble_eq_true rfl, Or.inr rfl⟩ rfl (wp_iload_n dX12_people_16 rfl ?_)))))))))
    refine wn_if_ne dX12_people_17 rfl (by decide) (fun c17 => absurd c17 (by decide)) (fun c17 => ?_)
    exact wp_iconst (v := -1) dX12_people_20 rfl (wp_ireturn dX12_people_21 rfl rfl ⟨rfl, rfl⟩)
  | some l =>
    rw [hR] at gw
    have hin := xwsp_in _ _ _ _ hR (fun x hx => by cases hx) (by decide) (fun x hx => by cases hx)
    have hl1 : 1 ≤ xwn (some l) ∧ xwn (some l) ≤ 12 := hin.2
    obtain ⟨S2, g2, f2, w2⟩ := m_takeWords (most := 12) (part := 1700) (lc := 196) (d + 1) (Or.inl ⟨rfl, rfl, rfl⟩) X1 hT hR
    have X2 := f2.XC X1
    have F3 : xFl (fun i k => i = 187 ∧ k = 30) S2 (xSI S2 187 30 (nI l.length)) := (xFl.rf S2).SI ⟨rfl, rfl⟩
    have M3 : xFl xFmp S (xSI S2 187 30 (nI l.length)) := (M1.tt (f2.mono (fun i k h => by unfold xFmp; omega))).SI (Or.inl ⟨rfl, by omega⟩)
    refine ⟨nI l.length, xSI S2 187 30 (nI l.length), ?_, M3, F3.i (f2.i h2 (by omega)) (by omega), fun h => (by cases h), fun l' hl => (by cases hl; exact ⟨rfl, xI_same _ _ _ _, fun q hq => ⟨F3.i (w2 q hq).1 (by omega), fun k hk => F3.i ((w2 q hq).2 k hk) (by omega)⟩⟩)⟩
    refine xcall_intro (ls := [.ref 187, .float 0]) q_X12_people (by decide) rfl (Nat.le_of_ble_eq_true rfl) rfl ?_
    refine wp_aload_n dX12_people_0 rfl rfl (wp_iconst (v := nI 0) dX12_people_1 rfl (p11_1 dX12_people_2 (xsh hX sh_187) (wp_aload_n dX12_people_5 rfl rfl (wp_iv1 dX12_people_6 k11_69 q_X12_taken (by decide) (xsh hX sh_187) (by decide) (Nat.le_of_ble_eq_true rfl) gt (wp_aload_n dX12_people_9 rfl rfl (wp_bipush (v := nI 12) dX12_people_10 rfl (wp_iv2 dX12_people_12 k11_173 q_X12_wordsOf (by decide) (xsh X1 sh_187) (by decide) (Nat.le_of_ble_eq_true rfl) gw (wp_istore_n dX12_people_15 ⟨Nat.le_of_ble_eq_true rfl, Or.inr rfl⟩ rfl (wp_iload_n dX12_people_16 rfl ?_)))))))))
    refine wn_if_ne dX12_people_17 rfl (by omega) (fun c17 => ?_) (fun c17 => absurd c17 (by omega))
    exact wp_aload_n dX12_people_22 rfl rfl (wp_sipush (v := nI 1700) dX12_people_23 rfl (wp_aload_n dX12_people_26 rfl rfl (g11_176 dX12_people_27 (xsh X1 sh_187) (xrr X1 r187_28) (wp_iv3 dX12_people_30 k11_179 q_X12_takeWords (by decide) (xsh X1 sh_187) (by decide) (Nat.le_of_ble_eq_true rfl) g2 (wp_aload_n dX12_people_33 rfl rfl (wp_iload_n dX12_people_34 rfl (p11_183 dX12_people_35 (xsh X2 sh_187) (wp_iload_n dX12_people_38 rfl (wp_ireturn dX12_people_39 rfl rfl ⟨rfl, rfl⟩)))))))))
def xFma (i k : Nat) : Prop := (i = 187 ∧ (k = 0 ∨ k = 2 ∨ k = 3 ∨ k = 4 ∨ k = 31)) ∨ i = 197 ∨ (i = 195 ∧ 1844 ≤ k ∧ k < 1844 + 12 * 5)
theorem m_answers {n : Nat} {t : Nat → Nat} (d : Nat) {S : xS} (hX : XC S) (hn : S.2.1 187 2 = nI n) (hle : n ≤ 260) (hb : ∀ k, k < n → t k < 256 ∧ S.2.1 188 k = xby (t k)) : ∃ k S', xcall false (d + 2) j_X12_answers [.ref 187] S (some (.int k)) S' ∧ xFl xFma S S' ∧ S'.2.1 187 2 = nI 0 ∧ (xwsp t n 5 n [] [] = none → k = -1 ∧ S'.2.1 187 31 = S.2.1 187 31 ∧ ∀ a k, a = 197 ∨ a = 195 → S'.2.1 a k = S.2.1 a k) ∧ (∀ l, xwsp t n 5 n [] [] = some l → k = nI l.length ∧ S'.2.1 187 31 = nI l.length ∧ xWM 1844 197 S' l) := by
  have gt := m_taken (d + 1) (S := xSI S 187 0 (nI 0)) hX (xi hn (Or.inr (by decide)))
  have F1 : xFl (fun i k => i = 187 ∧ (k = 0 ∨ k = 2 ∨ k = 3 ∨ k = 4)) S (xSI (xSI (xSI (xSI S 187 0 (nI 0)) 187 3 (nI n)) 187 2 (nI 0)) 187 4 (nI 0)) := ((((xFl.rf S).SI ⟨rfl, by decide⟩).SI ⟨rfl, by decide⟩).SI ⟨rfl, by decide⟩).SI ⟨rfl, by decide⟩
  have hs : (xSI (xSI (xSI (xSI S 187 0 (nI 0)) 187 3 (nI n)) 187 2 (nI 0)) 187 4 (nI 0)).2.1 187 3 = nI n := xi (xi (xI_same _ _ _ _) (Or.inr (by decide))) (Or.inr (by decide))
  have h2 : (xSI (xSI (xSI (xSI S 187 0 (nI 0)) 187 3 (nI n)) 187 2 (nI 0)) 187 4 (nI 0)).2.1 187 2 = nI 0 := xi (xI_same _ _ _ _) (Or.inr (by decide))
  have hT : xTxM (xSI (xSI (xSI (xSI S 187 0 (nI 0)) 187 3 (nI n)) 187 2 (nI 0)) 187 4 (nI 0)) n t := ⟨hs, hle, fun k hk => ⟨(hb k hk).1, F1.i (hb k hk).2 (by omega)⟩⟩
  generalize xSI (xSI (xSI (xSI S 187 0 (nI 0)) 187 3 (nI n)) 187 2 (nI 0)) 187 4 (nI 0) = S1 at gt F1 hs h2 hT
  have X1 := F1.XC hX
  have gw := m_wordsOf (most := 5) d X1 hT (by decide)
  have M1 : xFl xFma S S1 := F1.mono (fun i k h => by unfold xFma; omega)
  cases hR : xwsp t n 5 n [] [] with
  | none =>
    rw [hR] at gw
    refine ⟨-1, S1, ?_, M1, h2, fun _ => ⟨rfl, F1.2.2 _ _ (by omega), fun a k h => F1.2.2 _ _ (by omega)⟩, fun l hl => (by cases hl)⟩
    refine xcall_intro (ls := [.ref 187, .float 0]) q_X12_answers (by decide) rfl (Nat.le_of_ble_eq_true rfl) rfl ?_
    refine wp_aload_n dX12_answers_0 rfl rfl (wp_iconst (v := nI 0) dX12_answers_1 rfl (p11_1 dX12_answers_2 (xsh hX sh_187) (wp_aload_n dX12_answers_5 rfl rfl (wp_iv1 dX12_answers_6 k11_69 q_X12_taken (by decide) (xsh hX sh_187) (by decide) (Nat.le_of_ble_eq_true rfl) gt (wp_aload_n dX12_answers_9 rfl rfl (wp_iconst (v := nI 5) dX12_answers_10 rfl (wp_iv2 dX12_answers_11 k11_173 q_X12_wordsOf (by decide) (xsh X1 sh_187) (by decide) (Nat.le_of_ble_eq_true rfl) gw (wp_istore_n dX12_answers_14 ⟨Nat.le_of_ble_eq_true rfl, Or.inr rfl⟩ rfl (wp_iload_n dX12_answers_15 rfl ?_)))))))))
    refine wn_if_ne dX12_answers_16 rfl (by decide) (fun c16 => absurd c16 (by decide)) (fun c16 => ?_)
    exact wp_iconst (v := -1) dX12_answers_19 rfl (wp_ireturn dX12_answers_20 rfl rfl ⟨rfl, rfl⟩)
  | some l =>
    rw [hR] at gw
    have hin := xwsp_in _ _ _ _ hR (fun x hx => by cases hx) (by decide) (fun x hx => by cases hx)
    have hl1 : 1 ≤ xwn (some l) ∧ xwn (some l) ≤ 5 := hin.2
    obtain ⟨S2, g2, f2, w2⟩ := m_takeWords (most := 5) (part := 1844) (lc := 197) (d + 1) (Or.inr ⟨rfl, rfl, rfl⟩) X1 hT hR
    have X2 := f2.XC X1
    have F3 : xFl (fun i k => i = 187 ∧ k = 31) S2 (xSI S2 187 31 (nI l.length)) := (xFl.rf S2).SI ⟨rfl, rfl⟩
    have M3 : xFl xFma S (xSI S2 187 31 (nI l.length)) := (M1.tt (f2.mono (fun i k h => by unfold xFma; omega))).SI (Or.inl ⟨rfl, by omega⟩)
    refine ⟨nI l.length, xSI S2 187 31 (nI l.length), ?_, M3, F3.i (f2.i h2 (by omega)) (by omega), fun h => (by cases h), fun l' hl => (by cases hl; exact ⟨rfl, xI_same _ _ _ _, fun q hq => ⟨F3.i (w2 q hq).1 (by omega), fun k hk => F3.i ((w2 q hq).2 k hk) (by omega)⟩⟩)⟩
    refine xcall_intro (ls := [.ref 187, .float 0]) q_X12_answers (by decide) rfl (Nat.le_of_ble_eq_true rfl) rfl ?_
    refine wp_aload_n dX12_answers_0 rfl rfl (wp_iconst (v := nI 0) dX12_answers_1 rfl (p11_1 dX12_answers_2 (xsh hX sh_187) (wp_aload_n dX12_answers_5 rfl rfl (wp_iv1 dX12_answers_6 k11_69 q_X12_taken (by decide) (xsh hX sh_187) (by decide) (Nat.le_of_ble_eq_true rfl) gt (wp_aload_n dX12_answers_9 rfl rfl (wp_iconst (v := nI 5) dX12_answers_10 rfl (wp_iv2 dX12_answers_11 k11_173 q_X12_wordsOf (by decide) (xsh X1 sh_187) (by decide) (Nat.le_of_ble_eq_true rfl) gw (wp_istore_n dX12_answers_14 ⟨Nat.le_of_ble_eq_true rfl, Or.inr rfl⟩ rfl (wp_iload_n dX12_answers_15 rfl ?_)))))))))
    refine wn_if_ne dX12_answers_16 rfl (by omega) (fun c16 => ?_) (fun c16 => absurd c16 (by omega))
    exact wp_aload_n dX12_answers_21 rfl rfl (wp_sipush (v := nI 1844) dX12_answers_22 rfl (wp_aload_n dX12_answers_25 rfl rfl (g11_186 dX12_answers_26 (xsh X1 sh_187) (xrr X1 r187_29) (wp_iv3 dX12_answers_29 k11_179 q_X12_takeWords (by decide) (xsh X1 sh_187) (by decide) (Nat.le_of_ble_eq_true rfl) g2 (wp_aload_n dX12_answers_32 rfl rfl (wp_iload_n dX12_answers_33 rfl (p11_189 dX12_answers_34 (xsh X2 sh_187) (wp_iload_n dX12_answers_37 rfl (wp_ireturn dX12_answers_38 rfl rfl ⟨rfl, rfl⟩)))))))))
