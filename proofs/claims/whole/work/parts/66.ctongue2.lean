/-! the class measures all, and reads THE TONGUE -/
abbrev xSv : Type := Nat → Option (Nat × (Nat → Nat) × List xLn)
theorem xRo.m {a : Nat} (h : xRo a) : a % 6 = 0 ∧ 18 ≤ a ∧ a ≤ 54 := by unfold xRo at h; omega
/-- which objects the slots and the spare (6) are -/
def xro (ρ : Nat → Nat) : Prop := (∀ k, k < 7 → xRo (ρ k)) ∧ ∀ i j, i < 7 → j < 7 → i ≠ j → ρ i ≠ ρ j
def xSl (S : xS) (ρ : Nat → Nat) (σ : xSv) : Prop := ∀ k, k < 6 → S.2.2.1 17 k = some (ρ k) ∧ (σ k = none → S.2.1 (ρ k) 9 = nI 0) ∧ (∀ n t L, σ k = some (n, t, L) → S.2.1 (ρ k) 9 = nI 1 ∧ xRV (ρ k) S n t L)
def xSlB (S : xS) (ρ : Nat → Nat) (σ : xSv) (v : xTg) (K : Nat) : Prop := ∀ k, k < K → ∀ n t L, σ k = some (n, t, L) → xRB (ρ k) S v t L
def xBc (i : Nat) : Prop := i % 6 = 4 ∧ 22 ≤ i ∧ i ≤ 58
theorem xSl.fm {S S' : xS} {ρ : Nat → Nat} {σ : xSv} {P R : Nat → Nat → Prop} (h : xSl S ρ σ) (hr : xro ρ) (hf : xFm P R S S') (hR : ∀ k, k < 6 → ¬ R 17 k) (hn : ∀ a i k, xRo a → ((i = a ∧ (k = 1 ∨ k = 5 ∨ k = 7 ∨ k = 9)) ∨ i = a + 1 ∨ i = a + 2 ∨ i = a + 3 ∨ i = a + 5) → ¬ P i k) : xSl S' ρ σ := by
  intro k hk
  obtain ⟨h1, h2, h3⟩ := h k hk
  have ho := hr.1 k (by omega)
  exact ⟨hf.r h1 (hR k hk), fun e => hf.i (h2 e) (hn _ _ _ ho (Or.inl ⟨rfl, by omega⟩)), fun n t L e => ⟨hf.i (h3 n t L e).1 (hn _ _ _ ho (Or.inl ⟨rfl, by omega⟩)), (h3 n t L e).2.fm hf (fun i k hi => hn _ _ _ ho (by omega))⟩⟩
theorem xSlB.fm {S S' : xS} {ρ : Nat → Nat} {σ : xSv} {v : xTg} {K : Nat} {P R : Nat → Nat → Prop} (h : xSlB S ρ σ v K) (hf : xFm P R S S') (hn : ∀ q k, q < K → ¬ P (ρ q + 4) k) : xSlB S' ρ σ v K := fun k hk n t L e i hi => hf.i (h k hk n t L e i hi) (hn k i hk)
theorem ma_loop {d : Nat} {ta tb tc : Nat} {v : xTg} {ρ : Nat → Nat} {σ : xSv} (htg : xTgC ta tb tc) (hr : xro ρ) : ∀ (j k : Nat) (S : xS) (y : Value), k + j = 6 → XC S → xSl S ρ σ → xTgV ta tb tc S v → S.2.2.1 0 2 = some ta → xSlB S ρ σ v k → Wp false (d + 4) 10 cX11_measureAll none false 13 [.ref 0, .int (nI k), y] [] S (fun r S' => r = none ∧ xFl (fun i _ => xBc i) S S' ∧ xSlB S' ρ σ v 6) := by
  intro j
  induction j with
  | zero =>
    intro k S y hk hX hS hT hrt hB
    have hkk : k = 6 := by omega
    subst hkk
    refine wp_iload_n dX11_measureAll_13 rfl (wp_bipush (v := nI 6) dX11_measureAll_14 rfl ?_)
    refine wn_icmp_ge dX11_measureAll_16 rfl (by omega) (by omega) (fun c16 => ?_) (fun c16 => absurd c16 (by omega))
    exact wp_return dX11_measureAll_43 rfl ⟨rfl, xFl.rf S, hB⟩
  | succ j ih =>
    intro k S y hk hX hS hT hrt hB
    have htu := htg
    unfold xTgC at htu
    obtain ⟨h1, h2, h3⟩ := hS k (by omega)
    have ho := hr.1 k (by omega)
    have hm := ho.m
    cases hσ : σ k with
    | none =>
      have gn := c_rhymeIn_nil (d + 2) ho (by omega) hX h1 (h2 hσ)
      have hB2 : xSlB S ρ σ v (k + 1) := fun q hq n t L e => by
        rcases Nat.lt_or_ge q k with w | w
        · exact hB q w n t L e
        · rw [show q = k by omega, hσ] at e; cases e
      refine wp_iload_n dX11_measureAll_13 rfl (wp_bipush (v := nI 6) dX11_measureAll_14 rfl ?_)
      refine wn_icmp_ge dX11_measureAll_16 rfl (by omega) (by omega) (fun c16 => absurd c16 (by omega)) (fun c16 => ?_)
      exact wp_aload_n dX11_measureAll_19 rfl rfl (wp_iload_n dX11_measureAll_20 rfl (wp_iv2 dX11_measureAll_21 k10_155 q_X11_rhymeIn (by decide) (xsh hX sh_0) (by decide) (Nat.le_of_ble_eq_true rfl) gn (wp_astore_n dX11_measureAll_24 rfl ⟨Nat.le_of_ble_eq_true rfl, Or.inr rfl⟩ rfl (wp_aload_n dX11_measureAll_25 rfl rfl (wp_ifnull_N dX11_measureAll_26 rfl (wp_iinc dX11_measureAll_37 rfl (nI_1 _) ⟨Nat.le_of_ble_eq_true rfl, Or.inr rfl⟩ rfl (wp_goto dX11_measureAll_40 rfl (ih (k + 1) S _ (by omega) hX hS hT hrt hB2))))))))
    | some ntl =>
      obtain ⟨n, t, L⟩ := ntl
      obtain ⟨h9, hV⟩ := h3 n t L hσ
      have gn := c_rhymeIn (d + 2) ho (by omega) hX h1 h9
      obtain ⟨S2, g2, f2, b2⟩ := c_rmeasure d ho htg hX hV hT
      have X2 := f2.XC hX
      have ha := (ho.sh hX).1
      have F2 : xFl (fun i _ => xBc i) S S2 := f2.mono (fun i k h => by unfold xBc; omega)
      have S2l : xSl S2 ρ σ := hS.fm hr (f2.m (R := fun _ _ => False)) (fun _ _ h => h) (fun a i k ha hi => by have := ha.m; omega)
      have hB2 : xSlB S2 ρ σ v (k + 1) := fun q hq n' t' L' e => by
        rcases Nat.lt_or_ge q k with w | w
        · have hd := hr.2 q k (by omega) (by omega) (by omega)
          exact fun i hi => f2.i (hB q w n' t' L' e i hi) (by omega)
        · have e2 : q = k := by omega
          subst e2
          rw [hσ] at e
          cases e
          exact b2
      refine wp_iload_n dX11_measureAll_13 rfl (wp_bipush (v := nI 6) dX11_measureAll_14 rfl ?_)
      refine wn_icmp_ge dX11_measureAll_16 rfl (by omega) (by omega) (fun c16 => absurd c16 (by omega)) (fun c16 => ?_)
      refine wp_aload_n dX11_measureAll_19 rfl rfl (wp_iload_n dX11_measureAll_20 rfl (wp_iv2 dX11_measureAll_21 k10_155 q_X11_rhymeIn (by decide) (xsh hX sh_0) (by decide) (Nat.le_of_ble_eq_true rfl) gn (wp_astore_n dX11_measureAll_24 rfl ⟨Nat.le_of_ble_eq_true rfl, Or.inr rfl⟩ rfl (wp_aload_n dX11_measureAll_25 rfl rfl (wp_ifnull_R dX11_measureAll_26 rfl (wp_aload_n dX11_measureAll_29 rfl rfl (wp_aload_n dX11_measureAll_30 rfl rfl (g10_26 dX11_measureAll_31 (xsh hX sh_0) hrt (wp_iv2 dX11_measureAll_34 k10_144 q_X3_measure (by decide) ha (by decide) (Nat.le_of_ble_eq_true rfl) g2 (wp_iinc dX11_measureAll_37 rfl (nI_1 _) ⟨Nat.le_of_ble_eq_true rfl, Or.inr rfl⟩ rfl (wp_goto dX11_measureAll_40 rfl ?_)))))))))))
      refine (ih (k + 1) S2 _ (by omega) X2 S2l (hT.fr _ _ _ _ f2 (fun i k h => by omega)) (f2.r hrt) hB2).mono ?_
      rintro r S' ⟨z1, z2, z3⟩
      exact ⟨z1, F2.tt z2, z3⟩
theorem c_measureAll {fa fb fc fe ta tb tc : Nat} {v : xTg} {ρ : Nat → Nat} {σ : xSv} {fl : List (List Nat)} (d : Nat) (hw : xWo fa fb fc fe) (htg : xTgC ta tb tc) (hr : xro ρ) {S : xS} (hX : XC S) (hrf : S.2.2.1 0 8 = some fa) (hrt : S.2.2.1 0 2 = some ta) (hW : xWV fa fb fc S fl) (hT : xTgV ta tb tc S v) (hS : xSl S ρ σ) : ∃ S', xcall false (d + 4) j_X11_measureAll [.ref 0] S none S' ∧ xFl (fun i _ => i = fe ∨ xBc i) S S' ∧ xWB fe S' v fl ∧ xSlB S' ρ σ v 6 := by
  have hwu := hw
  unfold xWo at hwu
  have htu := htg
  unfold xTgC at htu
  obtain ⟨S1, g1, f1, b1⟩ := c_measure d hw htg hX hW hT
  have X1 := f1.XC hX
  have hfa := (hw.sh hX).1
  have key : ∃ r S', xcall false (d + 4) j_X11_measureAll [.ref 0] S r S' ∧ (r = none ∧ xFl (fun i _ => i = fe ∨ xBc i) S S' ∧ xWB fe S' v fl ∧ xSlB S' ρ σ v 6) := by
    refine xcall_some (ls := [.ref 0, .float 0, .float 0]) q_X11_measureAll (by decide) rfl (Nat.le_of_ble_eq_true rfl) rfl ?_
    refine wp_aload_n dX11_measureAll_0 rfl rfl (g10_57 dX11_measureAll_1 (xsh hX sh_0) hrf (wp_aload_n dX11_measureAll_4 rfl rfl (g10_26 dX11_measureAll_5 (xsh hX sh_0) hrt (wp_iv2 dX11_measureAll_8 k10_151 q_X9_measure (by decide) hfa (by decide) (Nat.le_of_ble_eq_true rfl) g1 (wp_iconst (v := nI 0) dX11_measureAll_11 rfl (wp_istore_n dX11_measureAll_12 ⟨Nat.le_of_ble_eq_true rfl, Or.inr rfl⟩ rfl ?_))))))
    refine (ma_loop htg hr 6 0 S1 _ rfl X1 (hS.fm hr (f1.m (R := fun _ _ => False)) (fun _ _ h => h) (fun a i k ha hi => by have := ha.m; omega)) (hT.fr _ _ _ _ f1 (fun i k h => by omega)) (f1.r hrt) (fun k hk => absurd hk (Nat.not_lt_zero k))).mono ?_
    rintro r S' ⟨z1, z2, z3⟩
    exact ⟨z1, (f1.mono (fun i k h => Or.inl h)).tt (z2.mono (fun i k h => Or.inr h)), fun i hi => z2.i (b1 i hi) (by unfold xBc; omega), z3⟩
  obtain ⟨r, S', g, rfl, z⟩ := key
  exact ⟨S', g, z⟩
def xFtc (a b c fe i k : Nat) : Prop := (i = a ∨ i = b ∨ i = c) ∨ i = 3 ∨ (i = 1 ∧ k = 1) ∨ (i = 0 ∧ k = 11) ∨ i = fe ∨ xBc i
def xRtc (i k : Nat) : Prop := (i = 3 ∧ k = 0) ∨ (i = 0 ∧ (k = 2 ∨ k = 3))
theorem xRtc_n (i k : Nat) (h : xRtc i k) : xRT i k = none := by
  rcases h with ⟨rfl, rfl⟩ | ⟨rfl, rfl | rfl⟩ <;> decide
theorem c_tongue {a b c a' b' c' n fa fb fc fe : Nat} {t : Nat → Nat} {ρ : Nat → Nat} {σ : xSv} {fl : List (List Nat)} (d : Nat) (hy : xTgC a b c) (hy' : xTgC a' b' c') (hw : xWo fa fb fc fe) (hr : xro ρ) {S : xS} (hX : XC S) (hn : S.2.1 1 1 = nI n) (hle : n ≤ 260) (hb : ∀ k, k < n → t k < 256 ∧ S.2.1 2 k = nI (t k)) (hr2 : S.2.2.1 0 2 = some a) (hr3 : S.2.2.1 0 3 = some a') (hrf : S.2.2.1 0 8 = some fa) (hW : xWV fa fb fc S fl) (hS : xSl S ρ σ) : ∃ k S', xcall false (d + 6) j_X11_tongue [.ref 0] S (some (.int k)) S' ∧ xFm (xFtc a' b' c' fe) xRtc S S' ∧ S'.2.1 1 1 = nI 0 ∧ (∀ e, (xtxt t n xtws (xtrule t n) 5 0 0 0 (17842449, [], [], 0)) = .error e → k = -1 - nI e.2 ∧ S'.2.1 0 11 = nI e.1 ∧ S'.2.2.1 0 2 = some a ∧ S'.2.2.1 0 3 = some a' ∧ (∀ i k, i = fe ∨ xBc i → S'.2.1 i k = S.2.1 i k)) ∧ (∀ c2 v', (xtxt t n xtws (xtrule t n) 5 0 0 0 (17842449, [], [], 0)) = .ok (c2, v') → k = nI c2 ∧ S'.2.1 0 11 = nI 0 ∧ S'.2.2.1 0 2 = some a' ∧ S'.2.2.1 0 3 = some a ∧ xTgV a' b' c' S' v' ∧ xWB fe S' v' fl ∧ xSlB S' ρ σ v' 6) := by
  have hyu := hy'
  unfold xTgC at hyu
  have hwu := hw
  unfold xWo at hwu
  have F1 : xFl (fun i k => i = 1 ∧ k = 1) S (xSI S 1 1 (nI 0)) := (xFl.rf S).SI ⟨rfl, rfl⟩
  have X1 := F1.XC hX
  obtain ⟨S2, g2, f2, T2, C2, z2⟩ := c_open (n := n) (t := t) (d + 3) X1 hle (fun k hk => ⟨(hb k hk).1, F1.i (hb k hk).2 (by omega)⟩)
  have M2 : xFm (fun i k => (i = 1 ∧ k = 1) ∨ i = 3) (fun i k => i = 3 ∧ k = 0) S S2 := ((F1.m.mono (fun i k h => Or.inl h) (fun _ _ h => h)).SR (a := 3) (k := 0) (v := some 2) ⟨rfl, rfl⟩).tt (f2.m.mono (fun i k h => Or.inr h) (fun _ _ h => h))
  have X2 := M2.XC hX xRyc_n2
  obtain ⟨k, S3, g3, f3, r3⟩ := c_readTongue (d + 0) hy' X2 T2 C2 z2
  have M3 : xFm (fun i k => (i = 1 ∧ k = 1) ∨ i = 3 ∨ (i = a' ∨ i = b' ∨ i = c')) (fun i k => i = 3 ∧ k = 0) S S3 := (M2.mono (fun i k h => by omega) (fun _ _ h => h)).tt (f3.m.mono (fun i k h => by omega) (fun _ _ h => h))
  have X3 := M3.XC hX xRyc_n2
  have e2 : S3.2.2.1 0 2 = some a := M3.r hr2 (by omega)
  have e3 : S3.2.2.1 0 3 = some a' := M3.r hr3 (by omega)
  have e3' : S2.2.2.1 0 3 = some a' := M2.r hr3 (by omega)
  have h11 : S3.2.1 1 1 = nI 0 := f3.i (f2.i (show (xSR (xSI S 1 1 (nI 0)) 3 0 (some 2)).2.1 1 1 = nI 0 from xI_same S 1 1 (nI 0)) (by decide)) (by omega)
  have gt := c_take hX hn (d + 5)
  have ha' := (hy'.sh X2).1
  cases hR : (xtxt t n xtws (xtrule t n) 5 0 0 0 (17842449, [], [], 0)) with
  | error e =>
    obtain ⟨rfl, z1, z3⟩ := r3.1 e hR
    refine ⟨-1 - nI e.2, xSI S3 0 11 (nI e.1), ?_, (M3.mono (fun i k h => by unfold xFtc; omega) (fun i k h => Or.inl h)).SI (Or.inr (Or.inr (Or.inr (Or.inl ⟨rfl, rfl⟩)))), xi h11 (Or.inl (by decide)), fun e' he => ?_, fun c2 v' he => (by cases he)⟩
    · refine xcall_intro (ls := [.ref 0, .float 0, .float 0]) q_X11_tongue (by decide) rfl (Nat.le_of_ble_eq_true rfl) rfl ?_
      refine wp_aload_n dX11_tongue_0 rfl rfl (g10_19 dX11_tongue_1 (xsh hX sh_0) (xrr hX r0_1) (wp_aload_n dX11_tongue_4 rfl rfl (g10_10 dX11_tongue_5 (xsh hX sh_0) (xrr hX r0_0) (g10_104 dX11_tongue_8 (xsh hX sh_1) (xrr hX r1_0) (wp_aload_n dX11_tongue_11 rfl rfl (g10_10 dX11_tongue_12 (xsh hX sh_0) (xrr hX r0_0) (wp_iv1 dX11_tongue_15 k10_107 q_X6_take (by decide) (xsh hX sh_1) (by decide) (Nat.le_of_ble_eq_true rfl) gt (wp_iv3 dX11_tongue_18 k10_111 q_X7_open (by decide) (xsh X1 sh_3) (by decide) (Nat.le_of_ble_eq_true rfl) g2 (wp_aload_n dX11_tongue_21 rfl rfl (g10_30 dX11_tongue_22 (xsh X2 sh_0) e3' (wp_aload_n dX11_tongue_25 rfl rfl (g10_19 dX11_tongue_26 (xsh X2 sh_0) (xrr X2 r0_1) (wp_ldcS dX11_tongue_29 k10_115 (wp_iconst (v := nI 4) dX11_tongue_31 rfl (wp_iu4 dX11_tongue_32 k10_117 rfl q_X5_read (Or.inl rfl) rfl ha' (Nat.le_of_ble_eq_true rfl) g3 (wp_istore_n dX11_tongue_35 ⟨Nat.le_of_ble_eq_true rfl, Or.inr rfl⟩ rfl (wp_aload_n dX11_tongue_36 rfl rfl (wp_aload_n dX11_tongue_37 rfl rfl (g10_19 dX11_tongue_38 (xsh X3 sh_0) (xrr X3 r0_1) (gv10_121 dX11_tongue_41 (xsh X3 sh_3) z1 (p10_124 dX11_tongue_44 (xsh X3 sh_0) (wp_iload_n dX11_tongue_47 rfl ?_))))))))))))))))))))))
      refine wp_if_ge dX11_tongue_48 rfl (fun c48 => absurd c48 (by decide)) (fun c48 => ?_)
      exact wp_iconst (v := -1) dX11_tongue_51 rfl (wp_aload_n dX11_tongue_52 rfl rfl (g10_19 dX11_tongue_53 (xsh X3 sh_0) (xrr X3 r0_1) (gv10_127 dX11_tongue_56 (xsh X3 sh_3) (xi z3 (Or.inl (by decide))) (wv_isub dX11_tongue_59 rfl (wp_ireturn dX11_tongue_60 rfl rfl ⟨rfl, rfl⟩)))))
    · cases he
      exact ⟨rfl, xI_same _ _ _ _, e2, e3, fun i k h => by
        rw [xI_ne _ _ (Or.inl (by unfold xBc at h; omega))]
        exact M3.2.2 i k (by unfold xBc at h; omega)⟩
  | ok q =>
    obtain ⟨c2, v'⟩ := q
    obtain ⟨rfl, z1, V3⟩ := r3.2 c2 v' hR
    have hc9 : c2 < 2 ^ 31 := by have := xtxt_le _ _ _ _ _ _ _ hR; omega
    have MR : xFm (fun i k => i = 0 ∧ k = 11) (fun i k => i = 0 ∧ (k = 2 ∨ k = 3)) S3 (xSR (xSR (xSI S3 0 11 (nI 0)) 0 2 (some a')) 0 3 (some a)) := (((xFm.rf S3).SI (a := 0) (k := 11) ⟨rfl, rfl⟩).SR (a := 0) (k := 2) ⟨rfl, Or.inl rfl⟩).SR (a := 0) (k := 3) ⟨rfl, Or.inr rfl⟩
    have X4 : XC (xSR (xSR (xSI S3 0 11 (nI 0)) 0 2 (some a')) 0 3 (some a)) := MR.XC X3 (fun i k h => xRtc_n i k (Or.inr h))
    have M4 : xFm (fun i k => (i = 1 ∧ k = 1) ∨ i = 3 ∨ (i = a' ∨ i = b' ∨ i = c') ∨ (i = 0 ∧ k = 11)) xRtc S (xSR (xSR (xSI S3 0 11 (nI 0)) 0 2 (some a')) 0 3 (some a)) := (M3.mono (fun i k h => by omega) (fun i k h => Or.inl h)).tt (MR.mono (fun i k h => by omega) (fun i k h => Or.inr h))
    have V4 : xTgV a' b' c' (xSR (xSR (xSI S3 0 11 (nI 0)) 0 2 (some a')) 0 3 (some a)) v' := V3.fm MR (fun i k h => by omega)
    have W4 := hW.fm M4 (fun i k h => by omega)
    have S4l := hS.fm hr M4 (fun k hk => by unfold xRtc; omega) (fun x i k hx hi => by have := hx.m; omega)
    have r2 : (xSR (xSR (xSI S3 0 11 (nI 0)) 0 2 (some a')) 0 3 (some a)).2.2.1 0 2 = some a' := (xR_ne _ _ (Or.inr (by decide))).trans (xR_same _ _ _ _)
    have r3' : (xSR (xSR (xSI S3 0 11 (nI 0)) 0 2 (some a')) 0 3 (some a)).2.2.1 0 3 = some a := xR_same _ _ _ _
    have r8 : (xSR (xSR (xSI S3 0 11 (nI 0)) 0 2 (some a')) 0 3 (some a)).2.2.1 0 8 = some fa := M4.r hrf (by unfold xRtc; omega)
    obtain ⟨S5, g5, f5, b5, b6⟩ := c_measureAll (d + 1) hw hy' hr X4 r8 r2 W4 V4 S4l
    have X5 := f5.XC X4
    have M5 : xFm (xFtc a' b' c' fe) xRtc S S5 := (M4.mono (fun i k h => by unfold xFtc; omega) (fun _ _ h => h)).tt (f5.m.mono (fun i k h => h.elim (fun e => Or.inr (Or.inr (Or.inr (Or.inr (Or.inl e))))) (fun e => Or.inr (Or.inr (Or.inr (Or.inr (Or.inr e)))))) (fun _ _ h => h))
    have V5 : xTgV a' b' c' S5 v' := V4.fr _ _ _ _ f5 (fun i k h => by unfold xBc; omega)
    refine ⟨nI c2, S5, ?_, M5, f5.i (MR.i h11 (by omega)) (by unfold xBc; omega), fun e he => (by cases he), fun c3 v2 he => (by cases he; exact ⟨rfl, f5.i (show (xSR (xSR (xSI S3 0 11 (nI 0)) 0 2 (some a')) 0 3 (some a)).2.1 0 11 = nI 0 from xI_same S3 0 11 (nI 0)) (by unfold xBc; omega), f5.r r2, f5.r r3', V5, b5, b6⟩)⟩
    refine xcall_intro (ls := [.ref 0, .float 0, .float 0]) q_X11_tongue (by decide) rfl (Nat.le_of_ble_eq_true rfl) rfl ?_
    refine wp_aload_n dX11_tongue_0 rfl rfl (g10_19 dX11_tongue_1 (xsh hX sh_0) (xrr hX r0_1) (wp_aload_n dX11_tongue_4 rfl rfl (g10_10 dX11_tongue_5 (xsh hX sh_0) (xrr hX r0_0) (g10_104 dX11_tongue_8 (xsh hX sh_1) (xrr hX r1_0) (wp_aload_n dX11_tongue_11 rfl rfl (g10_10 dX11_tongue_12 (xsh hX sh_0) (xrr hX r0_0) (wp_iv1 dX11_tongue_15 k10_107 q_X6_take (by decide) (xsh hX sh_1) (by decide) (Nat.le_of_ble_eq_true rfl) gt (wp_iv3 dX11_tongue_18 k10_111 q_X7_open (by decide) (xsh X1 sh_3) (by decide) (Nat.le_of_ble_eq_true rfl) g2 (wp_aload_n dX11_tongue_21 rfl rfl (g10_30 dX11_tongue_22 (xsh X2 sh_0) e3' (wp_aload_n dX11_tongue_25 rfl rfl (g10_19 dX11_tongue_26 (xsh X2 sh_0) (xrr X2 r0_1) (wp_ldcS dX11_tongue_29 k10_115 (wp_iconst (v := nI 4) dX11_tongue_31 rfl (wp_iu4 dX11_tongue_32 k10_117 rfl q_X5_read (Or.inl rfl) rfl ha' (Nat.le_of_ble_eq_true rfl) g3 (wp_istore_n dX11_tongue_35 ⟨Nat.le_of_ble_eq_true rfl, Or.inr rfl⟩ rfl (wp_aload_n dX11_tongue_36 rfl rfl (wp_aload_n dX11_tongue_37 rfl rfl (g10_19 dX11_tongue_38 (xsh X3 sh_0) (xrr X3 r0_1) (gv10_121 dX11_tongue_41 (xsh X3 sh_3) z1 (p10_124 dX11_tongue_44 (xsh X3 sh_0) (wp_iload_n dX11_tongue_47 rfl ?_))))))))))))))))))))))
    refine wp_if_ge dX11_tongue_48 rfl (fun c48 => ?_) (fun c48 => absurd c48 (not_not_intro (nI_pos' hc9)))
    exact wp_aload_n dX11_tongue_61 rfl rfl (g10_26 dX11_tongue_62 (xsh X3 sh_0) e2 (wp_astore_n dX11_tongue_65 rfl ⟨Nat.le_of_ble_eq_true rfl, Or.inr rfl⟩ rfl (wp_aload_n dX11_tongue_66 rfl rfl (wp_aload_n dX11_tongue_67 rfl rfl (g10_30 dX11_tongue_68 (xsh X3 sh_0) e3 (p10_26 dX11_tongue_71 (xsh X3 sh_0) (wp_aload_n dX11_tongue_74 rfl rfl (wp_aload_n dX11_tongue_75 rfl rfl (p10_30 dX11_tongue_76 (xsh (X3.SR rfl) sh_0) (wp_aload_n dX11_tongue_79 rfl rfl (wp_iv1 dX11_tongue_80 k10_130 q_X11_measureAll (by decide) (xsh ((X3.SR rfl).SR rfl) sh_0) (by decide) (Nat.le_of_ble_eq_true rfl) g5 (wp_iload_n dX11_tongue_83 rfl (wp_ireturn dX11_tongue_84 rfl rfl ⟨rfl, rfl⟩)))))))))))))
