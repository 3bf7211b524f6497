/-! told, both sides -/
def xcnt (σ : xSv) : Nat → Nat
  | 0 => 0
  | k + 1 => xcnt σ k + if (σ k).isSome = true then 1 else 0
theorem xcnt_le (σ : xSv) : ∀ k, xcnt σ k ≤ k
  | 0 => Nat.le_refl _
  | k + 1 => by
    have := xcnt_le σ k
    unfold xcnt
    split <;> omega
/-- the slots in the reference's rows -/
def xMl (S : xS) (σ : xSv) : Prop := ∀ k, k < 6 → (σ k = none → S.2.1 203 k = nI 0) ∧ (∀ n t L, σ k = some (n, t, L) → xRM k S n t L ∧ xRok t n L ∧ n ≤ 240 ∧ L.length ≤ 16 ∧ (L.flatMap xmit).length ≤ 121)
theorem xRok_1 {t : Nat → Nat} {n : Nat} {L : List xLn} (h : xRok t n L) : 1 ≤ L.length := by
  obtain ⟨D, tm, st, I, o, e, _⟩ := h.2.2
  rw [e, xlen1]
  omega
theorem xMl.fr {S S' : xS} {σ : xSv} {P : Nat → Nat → Prop} (h : xMl S σ) (hf : xFl P S S') (hn : ∀ i k, i = 195 ∨ i = 198 ∨ i = 199 ∨ i = 200 ∨ i = 201 ∨ i = 202 ∨ i = 203 → ¬ P i k) : xMl S' σ := fun k hk =>
  ⟨fun e => hf.i ((h k hk).1 e) (hn _ _ (by omega)), fun n t L e => ⟨((h k hk).2 n t L e).1.fr hf hn, ((h k hk).2 n t L e).2⟩⟩
theorem m_has_n {σ : xSv} {k : Nat} (d : Nat) (hk : k < 6) {S : xS} (hX : XC S) (hM : xMl S σ) : xcall false d j_X12_has [.ref 187, .int (nI k)] S (some (.int (xB (σ k).isSome))) S := by
  cases hs : σ k with
  | none =>
    have h := m_has (c := 0) d hk hX ((hM k hk).1 hs) (by decide)
    exact h
  | some x =>
    obtain ⟨n, t, L⟩ := x
    obtain ⟨h1, h2, _, h4, _⟩ := (hM k hk).2 n t L hs
    have h := m_has (c := L.length) d hk hX h1.2.2.2.2 (by omega)
    rw [decide_eq_true (show 0 < L.length from xRok_1 h2)] at h
    exact h
theorem xsl_out {w : Int32} (h : xsl w = false) : w.toInt < 0 ∨ 5 < w.toInt := by
  have h' := of_decide_eq_false h
  rcases Decidable.em (w < 0) with q | q
  · left
    have := Int32.lt_iff_toInt_lt.mp q
    exact this
  · right
    have q2 : ¬ w < 6 := fun e => h' ⟨q, e⟩
    have e6 : (6 : Int32).toInt = 6 := by decide
    have h3 : ¬ w.toInt < 6 := fun e => q2 (Int32.lt_iff_toInt_lt.mpr (by rw [e6]; exact e))
    omega
theorem rc_loop {d : Nat} {ρ : Nat → Nat} {σ : xSv} (hr : xro ρ) {S : xS} (hX : XC S) (hS : xSl S ρ σ) : ∀ (j k : Nat), k + j = 6 → Wp false (d + 2) 10 cX11_rhymeCount (some .int) false 4 [.ref 0, .int (nI (xcnt σ k)), .int (nI k)] [] S (fun r S' => r = some (.int (nI (xcnt σ 6))) ∧ S' = S) := by
  intro j
  induction j with
  | zero =>
    intro k hk
    have hkk : k = 6 := by omega
    subst hkk
    refine wp_iload_n dX11_rhymeCount_4 rfl (wp_bipush (v := nI 6) dX11_rhymeCount_5 rfl ?_)
    refine wn_icmp_ge dX11_rhymeCount_7 rfl (by omega) (by omega) (fun c7 => ?_) (fun c7 => absurd c7 (by omega))
    exact wp_iload_n dX11_rhymeCount_27 rfl (wp_ireturn dX11_rhymeCount_28 rfl rfl ⟨rfl, rfl⟩)
  | succ j ih =>
    intro k hk
    obtain ⟨h1, h2, h3⟩ := hS k (by omega)
    have ho := hr.1 k (by omega)
    have hle := xcnt_le σ k
    cases hσ : σ k with
    | none =>
      have gn := c_rhymeIn_nil d ho (by omega) hX h1 (h2 hσ)
      have e : xcnt σ (k + 1) = xcnt σ k := by rw [xcnt, hσ]; rfl
      refine wp_iload_n dX11_rhymeCount_4 rfl (wp_bipush (v := nI 6) dX11_rhymeCount_5 rfl ?_)
      refine wn_icmp_ge dX11_rhymeCount_7 rfl (by omega) (by omega) (fun c7 => absurd c7 (by omega)) (fun c7 => ?_)
      refine wp_aload_n dX11_rhymeCount_10 rfl rfl (wp_iload_n dX11_rhymeCount_11 rfl (wp_iv2 dX11_rhymeCount_12 k10_155 q_X11_rhymeIn (by decide) (xsh hX sh_0) (by decide) (Nat.le_of_ble_eq_true rfl) gn (wp_ifnull_N dX11_rhymeCount_15 rfl (wp_iinc dX11_rhymeCount_21 rfl (nI_1 _) ⟨Nat.le_of_ble_eq_true rfl, Or.inr rfl⟩ rfl (wp_goto dX11_rhymeCount_24 rfl ?_)))))
      have ih2 := ih (k + 1) (by omega)
      rw [e] at ih2
      exact ih2
    | some x =>
      obtain ⟨n, t, L⟩ := x
      have gn := c_rhymeIn d ho (by omega) hX h1 (h3 n t L hσ).1
      have e : xcnt σ (k + 1) = xcnt σ k + 1 := by rw [xcnt, hσ]; rfl
      refine wp_iload_n dX11_rhymeCount_4 rfl (wp_bipush (v := nI 6) dX11_rhymeCount_5 rfl ?_)
      refine wn_icmp_ge dX11_rhymeCount_7 rfl (by omega) (by omega) (fun c7 => absurd c7 (by omega)) (fun c7 => ?_)
      refine wp_aload_n dX11_rhymeCount_10 rfl rfl (wp_iload_n dX11_rhymeCount_11 rfl (wp_iv2 dX11_rhymeCount_12 k10_155 q_X11_rhymeIn (by decide) (xsh hX sh_0) (by decide) (Nat.le_of_ble_eq_true rfl) gn (wp_ifnull_R dX11_rhymeCount_15 rfl (wp_iinc dX11_rhymeCount_18 rfl (nI_1 _) ⟨Nat.le_of_ble_eq_true rfl, Or.inr rfl⟩ rfl (wp_iinc dX11_rhymeCount_21 rfl (nI_1 _) ⟨Nat.le_of_ble_eq_true rfl, Or.inr rfl⟩ rfl (wp_goto dX11_rhymeCount_24 rfl ?_))))))
      have ih2 := ih (k + 1) (by omega)
      rw [e] at ih2
      exact ih2
theorem c_rhymeCount {ρ : Nat → Nat} {σ : xSv} (d : Nat) (hr : xro ρ) {S : xS} (hX : XC S) (hS : xSl S ρ σ) : xcall false (d + 2) j_X11_rhymeCount [.ref 0] S (some (.int (nI (xcnt σ 6)))) S := by
  refine xcall_intro (ls := [.ref 0, .float 0, .float 0]) q_X11_rhymeCount (by decide) rfl (Nat.le_of_ble_eq_true rfl) rfl ?_
  exact wp_iconst (v := nI 0) dX11_rhymeCount_0 rfl (wp_istore_n dX11_rhymeCount_1 ⟨Nat.le_of_ble_eq_true rfl, Or.inr rfl⟩ rfl (wp_iconst (v := nI 0) dX11_rhymeCount_2 rfl (wp_istore_n dX11_rhymeCount_3 ⟨Nat.le_of_ble_eq_true rfl, Or.inr rfl⟩ rfl (rc_loop hr hX hS 6 0 rfl))))
theorem mt_cnt {d : Nat} {σ : xSv} {w : Int32} {S : xS} (hX : XC S) (hM : xMl S σ) : ∀ (j k : Nat), k + j = 6 → Wp false (d + 2) 11 cX12_told (some .int) false 50 [.ref 187, .int w, .int (nI (xcnt σ k)), .int (nI k)] [] S (fun r S' => r = some (.int (nI (xcnt σ 6))) ∧ S' = S) := by
  intro j
  induction j with
  | zero =>
    intro k hk
    have hkk : k = 6 := by omega
    subst hkk
    refine wp_iload_n dX12_told_50 rfl (wp_bipush (v := nI 6) dX12_told_51 rfl ?_)
    refine wn_icmp_ge dX12_told_53 rfl (by omega) (by omega) (fun c53 => ?_) (fun c53 => absurd c53 (by omega))
    exact wp_iload_n dX12_told_78 rfl (wp_ireturn dX12_told_79 rfl rfl ⟨rfl, rfl⟩)
  | succ j ih =>
    intro k hk
    have gh := m_has_n (d + 1) (show k < 6 by omega) hX hM
    have ih2 := ih (k + 1) (by omega)
    cases hs : (σ k).isSome with
    | true =>
      rw [hs] at gh
      have e : xcnt σ (k + 1) = xcnt σ k + 1 := by rw [xcnt, hs]; rfl
      rw [e] at ih2
      refine wp_iload_n dX12_told_50 rfl (wp_bipush (v := nI 6) dX12_told_51 rfl ?_)
      refine wn_icmp_ge dX12_told_53 rfl (by omega) (by omega) (fun c53 => absurd c53 (by omega)) (fun c53 => ?_)
      refine wp_iload_n dX12_told_56 rfl (wp_aload_n dX12_told_57 rfl rfl (wp_iload_n dX12_told_58 rfl (wp_iv2 dX12_told_59 k11_231 q_X12_has (by decide) (xsh hX sh_187) (by decide) (Nat.le_of_ble_eq_true rfl) gh ?_)))
      refine wb_if_eq dX12_told_62 rfl (fun c62 => absurd c62 (by decide)) (fun c62 => ?_)
      exact wp_iconst (v := nI 1) dX12_told_65 rfl (wp_goto dX12_told_66 rfl (wv_iadd dX12_told_70 (nI_add _ _) (wp_istore_n dX12_told_71 ⟨Nat.le_of_ble_eq_true rfl, Or.inr rfl⟩ rfl (wp_iinc dX12_told_72 rfl (nI_1 _) ⟨Nat.le_of_ble_eq_true rfl, Or.inr rfl⟩ rfl (wp_goto dX12_told_75 rfl ih2)))))
    | false =>
      rw [hs] at gh
      have e : xcnt σ (k + 1) = xcnt σ k + 0 := by rw [xcnt, hs]; rfl
      rw [e] at ih2
      refine wp_iload_n dX12_told_50 rfl (wp_bipush (v := nI 6) dX12_told_51 rfl ?_)
      refine wn_icmp_ge dX12_told_53 rfl (by omega) (by omega) (fun c53 => absurd c53 (by omega)) (fun c53 => ?_)
      refine wp_iload_n dX12_told_56 rfl (wp_aload_n dX12_told_57 rfl rfl (wp_iload_n dX12_told_58 rfl (wp_iv2 dX12_told_59 k11_231 q_X12_has (by decide) (xsh hX sh_187) (by decide) (Nat.le_of_ble_eq_true rfl) gh ?_)))
      refine wb_if_eq dX12_told_62 rfl (fun c62 => ?_) (fun c62 => absurd c62 (by decide))
      exact wp_iconst (v := nI 0) dX12_told_69 rfl (wv_iadd dX12_told_70 (nI_add _ _) (wp_istore_n dX12_told_71 ⟨Nat.le_of_ble_eq_true rfl, Or.inr rfl⟩ rfl (wp_iinc dX12_told_72 rfl (nI_1 _) ⟨Nat.le_of_ble_eq_true rfl, Or.inr rfl⟩ rfl (wp_goto dX12_told_75 rfl ih2))))
/-- what told answers -/
def xtold (σ : xSv) (p a n ol hc : Nat) (w : Int32) : Int32 := if w = nI 0 then nI (xcnt σ 6) else if w = nI 1 then nI p else if w = nI 2 then nI a else if w = nI 3 then nI n else if w = nI 4 then nI ol else if w = nI 5 then nI hc else -1
theorem xtold_k (σ : xSv) (p a n ol hc : Nat) : xtold σ p a n ol hc (nI 0) = nI (xcnt σ 6) ∧ xtold σ p a n ol hc (nI 1) = nI p ∧ xtold σ p a n ol hc (nI 2) = nI a ∧ xtold σ p a n ol hc (nI 3) = nI n ∧ xtold σ p a n ol hc (nI 4) = nI ol ∧ xtold σ p a n ol hc (nI 5) = nI hc := by
  unfold xtold
  refine ⟨?_, ?_, ?_, ?_, ?_, ?_⟩ <;> simp [show ¬ nI 1 = nI 0 by decide, show ¬ nI 2 = nI 0 by decide, show ¬ nI 2 = nI 1 by decide, show ¬ nI 3 = nI 0 by decide, show ¬ nI 3 = nI 1 by decide, show ¬ nI 3 = nI 2 by decide, show ¬ nI 4 = nI 0 by decide, show ¬ nI 4 = nI 1 by decide, show ¬ nI 4 = nI 2 by decide, show ¬ nI 4 = nI 3 by decide, show ¬ nI 5 = nI 0 by decide, show ¬ nI 5 = nI 1 by decide, show ¬ nI 5 = nI 2 by decide, show ¬ nI 5 = nI 3 by decide, show ¬ nI 5 = nI 4 by decide]
theorem xtold_o {σ : xSv} {p a n ol hc : Nat} {w : Int32} (h : xsl w = false) : xtold σ p a n ol hc w = -1 := by
  have hk : ∀ k, k < 6 → xsl (nI k) = true := fun k hk => by rw [xsl_n (by omega)]; exact decide_eq_true hk
  have hne : ∀ k, k < 6 → w ≠ nI k := fun k hk2 e => by rw [e, hk k hk2] at h; cases h
  unfold xtold
  rw [if_neg (hne 0 (by decide)), if_neg (hne 1 (by decide)), if_neg (hne 2 (by decide)), if_neg (hne 3 (by decide)), if_neg (hne 4 (by decide)), if_neg (hne 5 (by decide))]
theorem c_told {fa ra p a n ol hc : Nat} {ρ : Nat → Nat} {σ : xSv} {w : Int32} (d : Nat) (hr : xro ρ) {S : xS} (hX : XC S) (hS : xSl S ρ σ) (hf : ∃ b c e, xWo fa b c e) (hra : ∃ b c e, xWo ra b c e) (h8 : S.2.2.1 0 8 = some fa) (h9 : S.2.2.1 0 9 = some ra) (k1 : S.2.1 fa 3 = nI p) (k2 : S.2.1 ra 3 = nI a) (k3 : S.2.1 1 1 = nI n) (k4 : S.2.1 0 13 = nI ol) (k5 : S.2.1 0 18 = nI hc) : xcall false (d + 3) j_X11_told [.ref 0, .int w] S (some (.int (xtold σ p a n ol hc w))) S := by
  obtain ⟨_, _, _, hfw⟩ := hf
  obtain ⟨_, _, _, hrw⟩ := hra
  have hfa := (hfw.sh hX).1
  have hra' := (hrw.sh hX).1
  have gr := c_rhymeCount d hr hX hS
  obtain ⟨e0, e1, e2, e3, e4, e5⟩ := xtold_k σ p a n ol hc
  cases hw : xsl w with
  | false =>
    rw [xtold_o hw]
    have ho := xsl_out hw
    refine xcall_intro (ls := [.ref 0, .int w]) q_X11_told (by decide) rfl (Nat.le_of_ble_eq_true rfl) rfl ?_
    exact wp_iload_n dX11_told_0 rfl (wp_table_out dX11_told_1 ho rfl (wp_iconst (v := -1) dX11_told_79 rfl (wp_ireturn dX11_told_80 rfl rfl ⟨rfl, rfl⟩)))
  | true =>
    obtain ⟨k, hk, rfl⟩ := xsl_nI hw
    rcases (show k = 0 ∨ k = 1 ∨ k = 2 ∨ k = 3 ∨ k = 4 ∨ k = 5 by omega) with rfl | rfl | rfl | rfl | rfl | rfl
    · rw [e0]
      refine xcall_intro (ls := [.ref 0, .int (nI 0)]) q_X11_told (by decide) rfl (Nat.le_of_ble_eq_true rfl) rfl ?_
      exact wp_iload_n dX11_told_0 rfl (wp_table_in dX11_told_1 (by decide) rfl rfl (wp_aload_n dX11_told_40 rfl rfl (wp_iv1 dX11_told_41 k10_311 q_X11_rhymeCount (by decide) (xsh hX sh_0) (by decide) (Nat.le_of_ble_eq_true rfl) gr (wp_ireturn dX11_told_44 rfl rfl ⟨rfl, rfl⟩))))
    · rw [e1]
      refine xcall_intro (ls := [.ref 0, .int (nI 1)]) q_X11_told (by decide) rfl (Nat.le_of_ble_eq_true rfl) rfl ?_
      exact wp_iload_n dX11_told_0 rfl (wp_table_in dX11_told_1 (by decide) rfl rfl (wp_aload_n dX11_told_45 rfl rfl (g10_57 dX11_told_46 (xsh hX sh_0) h8 (gv10_152 dX11_told_49 hfa k1 (wp_ireturn dX11_told_52 rfl rfl ⟨rfl, rfl⟩)))))
    · rw [e2]
      refine xcall_intro (ls := [.ref 0, .int (nI 2)]) q_X11_told (by decide) rfl (Nat.le_of_ble_eq_true rfl) rfl ?_
      exact wp_iload_n dX11_told_0 rfl (wp_table_in dX11_told_1 (by decide) rfl rfl (wp_aload_n dX11_told_53 rfl rfl (g10_61 dX11_told_54 (xsh hX sh_0) h9 (gv10_152 dX11_told_57 hra' k2 (wp_ireturn dX11_told_60 rfl rfl ⟨rfl, rfl⟩)))))
    · rw [e3]
      refine xcall_intro (ls := [.ref 0, .int (nI 3)]) q_X11_told (by decide) rfl (Nat.le_of_ble_eq_true rfl) rfl ?_
      exact wp_iload_n dX11_told_0 rfl (wp_table_in dX11_told_1 (by decide) rfl rfl (wp_aload_n dX11_told_61 rfl rfl (g10_10 dX11_told_62 (xsh hX sh_0) (xrr hX r0_0) (gv10_96 dX11_told_65 (xsh hX sh_1) k3 (wp_ireturn dX11_told_68 rfl rfl ⟨rfl, rfl⟩)))))
    · rw [e4]
      refine xcall_intro (ls := [.ref 0, .int (nI 4)]) q_X11_told (by decide) rfl (Nat.le_of_ble_eq_true rfl) rfl ?_
      exact wp_iload_n dX11_told_0 rfl (wp_table_in dX11_told_1 (by decide) rfl rfl (wp_aload_n dX11_told_69 rfl rfl (gv10_188 dX11_told_70 (xsh hX sh_0) k4 (wp_ireturn dX11_told_73 rfl rfl ⟨rfl, rfl⟩))))
    · rw [e5]
      refine xcall_intro (ls := [.ref 0, .int (nI 5)]) q_X11_told (by decide) rfl (Nat.le_of_ble_eq_true rfl) rfl ?_
      exact wp_iload_n dX11_told_0 rfl (wp_table_in dX11_told_1 (by decide) rfl rfl (wp_aload_n dX11_told_74 rfl rfl (gv10_216 dX11_told_75 (xsh hX sh_0) k5 (wp_ireturn dX11_told_78 rfl rfl ⟨rfl, rfl⟩))))
theorem m_told {p a n ol hc : Nat} {σ : xSv} {w : Int32} (d : Nat) {S : xS} (hX : XC S) (hM : xMl S σ) (k1 : S.2.1 187 30 = nI p) (k2 : S.2.1 187 31 = nI a) (k3 : S.2.1 187 2 = nI n) (k4 : S.2.1 187 43 = nI ol) (k5 : S.2.1 187 72 = nI hc) : xcall false (d + 2) j_X12_told [.ref 187, .int w] S (some (.int (xtold σ p a n ol hc w))) (xSI S 187 0 (nI 0)) := by
  obtain ⟨e0, e1, e2, e3, e4, e5⟩ := xtold_k σ p a n ol hc
  cases hw : xsl w with
  | false =>
    rw [xtold_o hw]
    have ho := xsl_out hw
    refine xcall_intro (ls := [.ref 187, .int w, .float 0, .float 0]) q_X12_told (by decide) rfl (Nat.le_of_ble_eq_true rfl) rfl ?_
    exact wp_aload_n dX12_told_0 rfl rfl (wp_iconst (v := nI 0) dX12_told_1 rfl (p11_1 dX12_told_2 (xsh hX sh_187) (wp_iconst (v := nI 0) dX12_told_5 rfl (wp_istore_n dX12_told_6 ⟨Nat.le_of_ble_eq_true rfl, Or.inr rfl⟩ rfl (wp_iload_n dX12_told_7 rfl (wp_table_out dX12_told_8 ho rfl (wp_iconst (v := -1) dX12_told_105 rfl (wp_ireturn dX12_told_106 rfl rfl ⟨rfl, rfl⟩))))))))
  | true =>
    obtain ⟨k, hk, rfl⟩ := xsl_nI hw
    rcases (show k = 0 ∨ k = 1 ∨ k = 2 ∨ k = 3 ∨ k = 4 ∨ k = 5 by omega) with rfl | rfl | rfl | rfl | rfl | rfl
    · rw [e0]
      refine xcall_intro (ls := [.ref 187, .int (nI 0), .float 0, .float 0]) q_X12_told (by decide) rfl (Nat.le_of_ble_eq_true rfl) rfl ?_
      exact wp_aload_n dX12_told_0 rfl rfl (wp_iconst (v := nI 0) dX12_told_1 rfl (p11_1 dX12_told_2 (xsh hX sh_187) (wp_iconst (v := nI 0) dX12_told_5 rfl (wp_istore_n dX12_told_6 ⟨Nat.le_of_ble_eq_true rfl, Or.inr rfl⟩ rfl (wp_iload_n dX12_told_7 rfl (wp_table_in dX12_told_8 (by decide) rfl rfl (wp_iconst (v := nI 0) dX12_told_48 rfl (wp_istore_n dX12_told_49 ⟨Nat.le_of_ble_eq_true rfl, Or.inr rfl⟩ rfl (mt_cnt (S := xSI S 187 0 (nI 0)) hX (hM.fr ((xFl.rf S).SI (P := fun i k => i = 187 ∧ k = 0) ⟨rfl, rfl⟩) (fun i k h => by omega)) 6 0 rfl)))))))))
    · rw [e1]
      refine xcall_intro (ls := [.ref 187, .int (nI 1), .float 0, .float 0]) q_X12_told (by decide) rfl (Nat.le_of_ble_eq_true rfl) rfl ?_
      exact wp_aload_n dX12_told_0 rfl rfl (wp_iconst (v := nI 0) dX12_told_1 rfl (p11_1 dX12_told_2 (xsh hX sh_187) (wp_iconst (v := nI 0) dX12_told_5 rfl (wp_istore_n dX12_told_6 ⟨Nat.le_of_ble_eq_true rfl, Or.inr rfl⟩ rfl (wp_iload_n dX12_told_7 rfl (wp_table_in dX12_told_8 (by decide) rfl rfl (wp_aload_n dX12_told_80 rfl rfl (gv11_183 dX12_told_81 (xsh hX sh_187) (xi k1 (Or.inr (by decide))) (wp_ireturn dX12_told_84 rfl rfl ⟨rfl, rfl⟩)))))))))
    · rw [e2]
      refine xcall_intro (ls := [.ref 187, .int (nI 2), .float 0, .float 0]) q_X12_told (by decide) rfl (Nat.le_of_ble_eq_true rfl) rfl ?_
      exact wp_aload_n dX12_told_0 rfl rfl (wp_iconst (v := nI 0) dX12_told_1 rfl (p11_1 dX12_told_2 (xsh hX sh_187) (wp_iconst (v := nI 0) dX12_told_5 rfl (wp_istore_n dX12_told_6 ⟨Nat.le_of_ble_eq_true rfl, Or.inr rfl⟩ rfl (wp_iload_n dX12_told_7 rfl (wp_table_in dX12_told_8 (by decide) rfl rfl (wp_aload_n dX12_told_85 rfl rfl (gv11_189 dX12_told_86 (xsh hX sh_187) (xi k2 (Or.inr (by decide))) (wp_ireturn dX12_told_89 rfl rfl ⟨rfl, rfl⟩)))))))))
    · rw [e3]
      refine xcall_intro (ls := [.ref 187, .int (nI 3), .float 0, .float 0]) q_X12_told (by decide) rfl (Nat.le_of_ble_eq_true rfl) rfl ?_
      exact wp_aload_n dX12_told_0 rfl rfl (wp_iconst (v := nI 0) dX12_told_1 rfl (p11_1 dX12_told_2 (xsh hX sh_187) (wp_iconst (v := nI 0) dX12_told_5 rfl (wp_istore_n dX12_told_6 ⟨Nat.le_of_ble_eq_true rfl, Or.inr rfl⟩ rfl (wp_iload_n dX12_told_7 rfl (wp_table_in dX12_told_8 (by decide) rfl rfl (wp_aload_n dX12_told_90 rfl rfl (gv11_7 dX12_told_91 (xsh hX sh_187) (xi k3 (Or.inr (by decide))) (wp_ireturn dX12_told_94 rfl rfl ⟨rfl, rfl⟩)))))))))
    · rw [e4]
      refine xcall_intro (ls := [.ref 187, .int (nI 4), .float 0, .float 0]) q_X12_told (by decide) rfl (Nat.le_of_ble_eq_true rfl) rfl ?_
      exact wp_aload_n dX12_told_0 rfl rfl (wp_iconst (v := nI 0) dX12_told_1 rfl (p11_1 dX12_told_2 (xsh hX sh_187) (wp_iconst (v := nI 0) dX12_told_5 rfl (wp_istore_n dX12_told_6 ⟨Nat.le_of_ble_eq_true rfl, Or.inr rfl⟩ rfl (wp_iload_n dX12_told_7 rfl (wp_table_in dX12_told_8 (by decide) rfl rfl (wp_aload_n dX12_told_95 rfl rfl (gv11_248 dX12_told_96 (xsh hX sh_187) (xi k4 (Or.inr (by decide))) (wp_ireturn dX12_told_99 rfl rfl ⟨rfl, rfl⟩)))))))))
    · rw [e5]
      refine xcall_intro (ls := [.ref 187, .int (nI 5), .float 0, .float 0]) q_X12_told (by decide) rfl (Nat.le_of_ble_eq_true rfl) rfl ?_
      exact wp_aload_n dX12_told_0 rfl rfl (wp_iconst (v := nI 0) dX12_told_1 rfl (p11_1 dX12_told_2 (xsh hX sh_187) (wp_iconst (v := nI 0) dX12_told_5 rfl (wp_istore_n dX12_told_6 ⟨Nat.le_of_ble_eq_true rfl, Or.inr rfl⟩ rfl (wp_iload_n dX12_told_7 rfl (wp_table_in dX12_told_8 (by decide) rfl rfl (wp_aload_n dX12_told_100 rfl rfl (gv11_455 dX12_told_101 (xsh hX sh_187) (xi k5 (Or.inr (by decide))) (wp_ireturn dX12_told_104 rfl rfl ⟨rfl, rfl⟩)))))))))
