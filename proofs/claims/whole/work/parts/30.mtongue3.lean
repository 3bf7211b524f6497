/-! tongue of the reference: the face -/
/-- where tongue of the reference begins to read -/
def xtA (S : xS) (n : Nat) : xS := xSI (xSI (xSI (xSI (xSI (xSI (xSI (xSI (xSI (xSI (S) 187 0 (nI 0)) 187 3 (nI n)) 187 2 (nI 0)) 187 4 (nI 0)) 187 9 (nI 0)) 187 20 (nI 0)) 187 16 (nI 17842449)) 187 17 (nI 0)) 187 18 (nI 0)) 187 19 (nI 0)
theorem xtA_fr (S : xS) (n : Nat) : xFl xFE S (xtA S n) := by
  unfold xtA
  have h : ∀ k, (k = 0 ∨ (2 ≤ k ∧ k ≤ 10) ∨ (16 ≤ k ∧ k ≤ 20)) → xFE 187 k := fun k hk => Or.inl ⟨rfl, hk⟩
  exact (((((((((((xFl.rf S).SI (h 0 (by decide)))).SI (h 3 (by decide))).SI (h 2 (by decide))).SI (h 4 (by decide))).SI (h 9 (by decide))).SI (h 20 (by decide))).SI (h 16 (by decide))).SI (h 17 (by decide))).SI (h 18 (by decide))).SI (h 19 (by decide))
theorem xtA_f (S : xS) (n : Nat) : (xtA S n).2.1 187 0 = nI 0 ∧ (xtA S n).2.1 187 2 = nI 0 ∧ (xtA S n).2.1 187 3 = nI n ∧ (xtA S n).2.1 187 4 = nI 0 ∧ (xtA S n).2.1 187 9 = nI 0 ∧ (xtA S n).2.1 187 20 = nI 0 ∧ (xtA S n).2.1 187 16 = nI 17842449 ∧ (xtA S n).2.1 187 17 = nI 0 ∧ (xtA S n).2.1 187 18 = nI 0 ∧ (xtA S n).2.1 187 19 = nI 0 := by
  refine ⟨rfl, rfl, rfl, rfl, rfl, rfl, rfl, rfl, rfl, rfl⟩
theorem xFN_E (i k : Nat) (h : i = 187 ∧ (k = 4 ∨ k = 5 ∨ k = 6 ∨ k = 7 ∨ k = 8)) : xFE i k := xFA_E i k (xFN_A i k h)
theorem m_tongue {n : Nat} {t : Nat → Nat} (d : Nat) {S : xS} (hX : XC S) (hn : S.2.1 187 2 = nI n) (hle : n ≤ 260) (hb : ∀ k, k < n → t k < 256 ∧ S.2.1 188 k = xby (t k)) : ∃ r S', xcall false (d + 5) j_X12_tongue [.ref 187] S r S' ∧ (fun r S' => ∃ k, r = some (.int k) ∧ S'.2.1 187 0 = nI 0 ∧ S'.2.1 187 2 = nI 0 ∧ (∀ e, (xtxt t n xtws (xtrule t n) 5 0 0 0 (17842449, [], [], 0)) = .error e → k = -1 - nI e.2 ∧ xFl xFE S S' ∧ S'.2.1 187 9 = nI e.1) ∧ (∀ c v', (xtxt t n xtws (xtrule t n) 5 0 0 0 (17842449, [], [], 0)) = .ok (c, v') → k = nI c ∧ xFl xFT S S' ∧ S'.2.1 187 9 = nI 0 ∧ xTgM S' v')) r S' := by
  obtain ⟨a0, a2, a3, a4, a9, a20, a16, a17, a18, a19⟩ := xtA_f S n
  have XA : XC (xtA S n) := (xtA_fr S n).XC hX
  have TA : xTxM (xtA S n) n t := ⟨a3, hle, fun k hk => ⟨(hb k hk).1, (xtA_fr S n).i (hb k hk).2 (by unfold xFE; omega)⟩⟩
  have VA : xTgN (xtA S n) (17842449, [], [], 0) := ⟨⟨a16, by decide⟩, ⟨a17, by decide, fun i hi => absurd hi (Nat.not_lt_zero i), fun x hx => by cases hx⟩, ⟨a18, by decide, fun i hi => absurd hi (Nat.not_lt_zero i), fun x hx => by cases hx⟩, a19, by decide⟩
  obtain ⟨S1, g1, f1, t1⟩ := m_next (d + 3) XA TA a4 (Nat.zero_le n)
  have X1 := f1.XC XA
  have gt := m_taken (d + 4) (S := xSI S 187 0 (nI 0)) hX (xi hn (Or.inr (by decide)))
  refine xcall_some (ls := [.ref 187, .float 0, .float 0]) q_X12_tongue (by decide) rfl (Nat.le_of_ble_eq_true rfl) rfl ?_
  refine wp_aload_n dX12_tongue_0 rfl rfl (wp_iconst (v := nI 0) dX12_tongue_1 rfl (p11_1 dX12_tongue_2 (xsh hX sh_187) (wp_aload_n dX12_tongue_5 rfl rfl (wp_iv1 dX12_tongue_6 k11_69 q_X12_taken (by decide) (xsh hX sh_187) (by decide) (Nat.le_of_ble_eq_true rfl) gt (wp_aload_n dX12_tongue_9 rfl rfl (wp_iconst (v := nI 0) dX12_tongue_10 rfl (p11_51 dX12_tongue_11 (xsh hX sh_187) (wp_aload_n dX12_tongue_14 rfl rfl (wp_iconst (v := nI 0) dX12_tongue_15 rfl (p11_72 dX12_tongue_16 (xsh hX sh_187) (wp_aload_n dX12_tongue_19 rfl rfl (wp_ldcI dX12_tongue_20 k11_75 rfl (p11_76 dX12_tongue_22 (xsh hX sh_187) (wp_aload_n dX12_tongue_25 rfl rfl (wp_iconst (v := nI 0) dX12_tongue_26 rfl (p11_79 dX12_tongue_27 (xsh hX sh_187) (wp_aload_n dX12_tongue_30 rfl rfl (wp_iconst (v := nI 0) dX12_tongue_31 rfl (p11_82 dX12_tongue_32 (xsh hX sh_187) (wp_aload_n dX12_tongue_35 rfl rfl (wp_iconst (v := nI 0) dX12_tongue_36 rfl (p11_85 dX12_tongue_37 (xsh hX sh_187) (wp_iconst (v := nI 0) dX12_tongue_40 rfl (wp_istore_n dX12_tongue_41 ⟨Nat.le_of_ble_eq_true rfl, Or.inr rfl⟩ rfl (wp_aload_n dX12_tongue_42 rfl rfl (wp_iv1 dX12_tongue_43 k11_65 q_X12_next (by decide) (xsh hX sh_187) (by decide) (Nat.le_of_ble_eq_true rfl) g1 ?_))))))))))))))))))))))))))
  refine mt_loop 5 0 0 0 (17842449, [], [], 0) S1 rfl rfl (by decide) X1 (TA.fr f1 (by omega) (fun k => by omega)) t1 (VA.fr f1 (fun i k h => by omega)) (f1.i a20 (by omega)) (f1.i a9 (by omega)) ?_ ?_
  · intro e S2 hR f2 e9 e10
    have fE : xFl xFE S S2 := ((xtA_fr S n).tt (f1.mono xFN_E)).tt (f2.mono xFA_E)
    exact ⟨_, rfl, f2.i (f1.i a0 (by omega)) (by unfold xFA; omega), f2.i (f1.i a2 (by omega)) (by unfold xFA; omega), fun e' he => (by rw [hR] at he; cases he; exact ⟨rfl, fE, e9⟩), fun c v' he => (by rw [hR] at he; cases he)⟩
  · intro c' v' S2 hR f2 h9 hV
    have X2 := f2.XC X1
    obtain ⟨v1, v2, v3, v4, v5⟩ := hV
    have FB : xFl (fun i k => i = 187 ∧ 12 ≤ k ∧ k ≤ 15) S2 (xSI (xSI (xSI (xSI S2 187 12 (nI v'.1)) 187 13 (nI v'.2.1.length)) 187 14 (nI v'.2.2.1.length)) 187 15 (nI v'.2.2.2)) := ((((xFl.rf S2).SI (a := 187) (k := 12) (by omega)).SI (a := 187) (k := 13) (by omega)).SI (a := 187) (k := 14) (by omega)).SI (a := 187) (k := 15) (by omega)
    refine wp_aload_n dX12_tongue_73 rfl rfl (wp_aload_n dX12_tongue_74 rfl rfl (gv11_76 dX12_tongue_75 (xsh X2 sh_187) v1.1 (p11_91 dX12_tongue_78 (xsh X2 sh_187) (wp_aload_n dX12_tongue_81 rfl rfl (wp_aload_n dX12_tongue_82 rfl rfl (gv11_79 dX12_tongue_83 (xsh X2 sh_187) (xi v2.1 (Or.inr (by decide))) (p11_94 dX12_tongue_86 (xsh X2 sh_187) (wp_aload_n dX12_tongue_89 rfl rfl (wp_aload_n dX12_tongue_90 rfl rfl (gv11_82 dX12_tongue_91 (xsh X2 sh_187) (xi (xi v3.1 (Or.inr (by decide))) (Or.inr (by decide))) (p11_97 dX12_tongue_94 (xsh X2 sh_187) (wp_aload_n dX12_tongue_97 rfl rfl (wp_aload_n dX12_tongue_98 rfl rfl (gv11_85 dX12_tongue_99 (xsh X2 sh_187) (xi (xi (xi v4 (Or.inr (by decide))) (Or.inr (by decide))) (Or.inr (by decide))) (p11_100 dX12_tongue_102 (xsh X2 sh_187) (wp_iconst (v := nI 0) dX12_tongue_105 rfl (wp_istore_n dX12_tongue_106 ⟨Nat.le_of_ble_eq_true rfl, Or.inr rfl⟩ rfl ?_)))))))))))))))))
    refine mt_copy1 12 0 _ (by omega) X2 (fun k hk => absurd hk (Nat.not_lt_zero k)) (fun S3 z3 f3 h3 => ?_)
    have f23 := FB.tr f3
    have X3 := f3.XC X2
    refine wp_iconst (v := nI 0) dX12_tongue_131 rfl (wp_istore_n dX12_tongue_132 ⟨Nat.le_of_ble_eq_true rfl, Or.inr rfl⟩ rfl ?_)
    refine mt_copy2 6 0 S3 (by omega) X3 (fun k hk => absurd hk (Nat.not_lt_zero k)) (fun S4 z4 f4 h4 => ?_)
    have f24 : xFl (fun i k => (i = 187 ∧ 12 ≤ k ∧ k ≤ 15) ∨ i = 189 ∨ i = 191 ∨ i = 193) S2 S4 := (f23.tr f4).mono (fun i k h => by omega)
    have fE : xFl xFE S S2 := ((xtA_fr S n).tt (f1.mono xFN_E)).tt (f2.mono xFA_E)
    have fT : xFl xFT S S4 := (fE.mono xFE_T).tt (f24.mono (fun i k h => by unfold xFT; omega))
    have q0 : S4.2.1 187 0 = nI 0 := f24.i (f2.i (f1.i a0 (by omega)) (by unfold xFA; omega)) (by omega)
    have q2 : S4.2.1 187 2 = nI 0 := f24.i (f2.i (f1.i a2 (by omega)) (by unfold xFA; omega)) (by omega)
    have f34 := f3.tr f4
    have VM : xTgM S4 v' := by
      refine ⟨⟨f34.i (xi (xi (xi (xI_same _ _ _ _) (Or.inr (by decide))) (Or.inr (by decide))) (Or.inr (by decide))) (by omega), v1.2⟩, ⟨f34.i (xi (xi (xI_same _ _ _ _) (Or.inr (by decide))) (Or.inr (by decide))) (by omega), v2.2.1, fun i hi => ?_, v2.2.2.2⟩, ⟨f34.i (xi (xI_same _ _ _ _) (Or.inr (by decide))) (by omega), v3.2.1, fun i hi => ?_, v3.2.2.2⟩, f34.i (xI_same _ _ _ _) (by omega), v5⟩
      · have := v2.2.1
        rw [f4.2.2 189 i (by omega), h3 i (by omega)]
        exact f3.i (FB.i (v2.2.2.1 i hi) (by omega)) (by omega)
      · have := v3.2.1
        have := h4 i (by omega)
        rw [this.1, this.2]
        exact ⟨f24.i (v3.2.2.1 i hi).1 (by omega), f24.i (v3.2.2.1 i hi).2 (by omega)⟩
    exact wp_iload_n dX12_tongue_169 rfl (wp_ireturn dX12_tongue_170 rfl rfl ⟨_, rfl, q0, q2, fun e he => (by rw [hR] at he; cases he), fun c v' he => (by rw [hR] at he; cases he; exact ⟨rfl, fT, f24.i h9 (by omega), VM⟩)⟩)
