/-! the class makes a PLAY ready -/
/-- the RING stands ready for c, with these RESTS behind the first RHYME -/
def xRD (S : xS) (c : xPx) (ex : Nat) : Prop := xRC S (xzg c) ∧ xNb S (xznb c) c.2.2.1.length ∧ xAl S (xza c) c.2.2.2.1.length ∧ S.2.1 74 2 = nI c.1.2.length ∧ (∀ i, i < c.1.2.length → S.2.1 76 i = nI (c.1.2.getD i 0)) ∧ (∀ i, i < c.1.2.length → xCh (106 + 4 * c.1.2.getD i 0) S (xzx c (c.1.2.getD i 0)) (xzb c) (xzr c (c.1.2.getD i 0)).2 (if c.1.2.getD i 0 = c.1.2.getD 0 0 ∧ xzb c = true then ex else 0))
theorem xRD.fr {S S' : xS} {c : xPx} {ex : Nat} {P : Nat → Nat → Prop} (h : xRD S c ex) (hf : xFl P S S') (hn : ∀ i k, ((i = 74 ∧ (k = 2 ∨ k = 5 ∨ 10 ≤ k)) ∨ i = 76 ∨ i = 77 ∨ i = 78 ∨ 106 ≤ i ∧ i ≤ 129) → ¬ P i k) (ho : xzo c) : xRD S' c ex := by
  obtain ⟨h1, h2, h3, h4, h5, h6⟩ := h
  refine ⟨h1.fr hf (fun k hk => hn _ _ (by omega)), h2.fr hf (fun k => hn _ _ (by omega)), h3.fr hf (fun i k hk => hn _ _ (by omega)), hf.i h4 (hn _ _ (by omega)), fun i hi => hf.i (h5 i hi) (hn _ _ (by omega)), fun i hi => ?_⟩
  have h6' := ho.1.2.2.2.2 _ (xmem_getD (d := 0) hi)
  exact (h6 i hi).fr hf (fun j k hj => hn _ _ (by omega))
theorem ar_loop {y yb yc : Nat} {ρ : Nat → Nat} {σ : xSv} {v : xYd} {d : Nat} (hyc : xYdC y yb yc) (hr : xro ρ) {S : xS} (hX : XC S) (h4 : S.2.2.1 0 4 = some y) (hS : xSl S ρ σ) (hY : xYdV y yb yc S v) : ∀ (j i : Nat), i + j = v.2.length → Wp false (d + 2) 10 cX11_areRhymesThere (some .boolean) false 2 [.ref 0, .int (nI i)] [] S (fun r S' => r = some (.int (xB ((v.2.drop i).all (fun s => (σ s).isSome)))) ∧ S' = S) := by
  obtain ⟨hy, hyb, hyc2, ryb, ryc⟩ := hyc.sh hX
  have k2 := hY.2.1
  have hl4 := hY.2.2.2.2.2.2.1
  have h6 := hY.2.2.2.2.2.2.2
  intro j
  induction j with
  | zero =>
    intro i hi
    have hii : i = v.2.length := by omega
    subst hii
    rw [List.drop_length, List.all_nil]
    refine wp_iload_n dX11_areRhymesThere_2 rfl (wp_aload_n dX11_areRhymesThere_3 rfl rfl (g10_36 dX11_areRhymesThere_4 (xsh hX sh_0) h4 (gv10_314 dX11_areRhymesThere_7 hy k2 ?_)))
    refine wn_icmp_ge dX11_areRhymesThere_10 rfl (by omega) (by omega) (fun c10 => ?_) (fun c10 => absurd c10 (by omega))
    exact wp_iconst (v := nI 1) dX11_areRhymesThere_36 rfl (wb_ret dX11_areRhymesThere_37 rfl rfl ⟨rfl, rfl⟩)
  | succ j ih =>
    intro i hi
    have gr := c_rhymeAt (d + 1) hyc hX hY (show i < v.2.length by omega)
    have hs := h6 _ (xmem_getD (d := 0) (show i < v.2.length by omega))
    obtain ⟨e1, e2, e3⟩ := hS _ hs
    have hob := hr.1 (v.2.getD i 0) (by omega)
    have ed := xdrop_s 0 v.2 i (by omega)
    rw [ed, List.all_cons]
    cases e : σ (v.2.getD i 0) with
    | none =>
      have gn := c_rhymeIn_nil d hob hs hX e1 (e2 e)
      show Wp _ _ _ _ _ _ _ _ _ _ (fun r S' => r = some (.int (xB false)) ∧ S' = S)
      refine wp_iload_n dX11_areRhymesThere_2 rfl (wp_aload_n dX11_areRhymesThere_3 rfl rfl (g10_36 dX11_areRhymesThere_4 (xsh hX sh_0) h4 (gv10_314 dX11_areRhymesThere_7 hy k2 ?_)))
      refine wn_icmp_ge dX11_areRhymesThere_10 rfl (by omega) (by omega) (fun c10 => absurd c10 (by omega)) (fun c10 => ?_)
      exact wp_aload_n dX11_areRhymesThere_13 rfl rfl (wp_aload_n dX11_areRhymesThere_14 rfl rfl (g10_36 dX11_areRhymesThere_15 (xsh hX sh_0) h4 (wp_iload_n dX11_areRhymesThere_18 rfl (wp_iv2 dX11_areRhymesThere_19 k10_219 q_X10_rhymeAt (by decide) hy (by decide) (Nat.le_of_ble_eq_true rfl) gr (wp_iv2 dX11_areRhymesThere_22 k10_155 q_X11_rhymeIn (by decide) (xsh hX sh_0) (by decide) (Nat.le_of_ble_eq_true rfl) gn (wp_ifnonnull_N dX11_areRhymesThere_25 rfl (wp_iconst (v := nI 0) dX11_areRhymesThere_28 rfl (wb_ret dX11_areRhymesThere_29 rfl rfl ⟨rfl, rfl⟩))))))))
    | some x =>
      obtain ⟨n, t, L⟩ := x
      have gn := c_rhymeIn d hob hs hX e1 (e3 n t L e).1
      have ih2 := ih (i + 1) (by omega)
      show Wp _ _ _ _ _ _ _ _ _ _ (fun r S' => r = some (.int (xB ((v.2.drop (i + 1)).all (fun s => (σ s).isSome)))) ∧ S' = S)
      refine wp_iload_n dX11_areRhymesThere_2 rfl (wp_aload_n dX11_areRhymesThere_3 rfl rfl (g10_36 dX11_areRhymesThere_4 (xsh hX sh_0) h4 (gv10_314 dX11_areRhymesThere_7 hy k2 ?_)))
      refine wn_icmp_ge dX11_areRhymesThere_10 rfl (by omega) (by omega) (fun c10 => absurd c10 (by omega)) (fun c10 => ?_)
      exact wp_aload_n dX11_areRhymesThere_13 rfl rfl (wp_aload_n dX11_areRhymesThere_14 rfl rfl (g10_36 dX11_areRhymesThere_15 (xsh hX sh_0) h4 (wp_iload_n dX11_areRhymesThere_18 rfl (wp_iv2 dX11_areRhymesThere_19 k10_219 q_X10_rhymeAt (by decide) hy (by decide) (Nat.le_of_ble_eq_true rfl) gr (wp_iv2 dX11_areRhymesThere_22 k10_155 q_X11_rhymeIn (by decide) (xsh hX sh_0) (by decide) (Nat.le_of_ble_eq_true rfl) gn (wp_ifnonnull_R dX11_areRhymesThere_25 rfl (wp_iinc dX11_areRhymesThere_30 rfl (nI_1 _) ⟨Nat.le_of_ble_eq_true rfl, Or.inr rfl⟩ rfl (wp_goto dX11_areRhymesThere_33 rfl ih2))))))))
theorem c_areRhymesThere {y yb yc : Nat} {ρ : Nat → Nat} {σ : xSv} {v : xYd} (d : Nat) (hyc : xYdC y yb yc) (hr : xro ρ) {S : xS} (hX : XC S) (h4 : S.2.2.1 0 4 = some y) (hS : xSl S ρ σ) (hY : xYdV y yb yc S v) : xcall false (d + 2) j_X11_areRhymesThere [.ref 0] S (some (.int (xB (v.2.all (fun s => (σ s).isSome))))) S := by
  refine xcall_intro (ls := [.ref 0, .float 0]) q_X11_areRhymesThere (by decide) rfl (Nat.le_of_ble_eq_true rfl) rfl ?_
  exact wp_iconst (v := nI 0) dX11_areRhymesThere_0 rfl (wp_istore_n dX11_areRhymesThere_1 ⟨Nat.le_of_ble_eq_true rfl, Or.inr rfl⟩ rfl (ar_loop hyc hr hX h4 hS hY v.2.length 0 (Nat.zero_add _)))
theorem xSl.f6 {S S' : xS} {ρ : Nat → Nat} {σ : xSv} (h : xSl S ρ σ) (hr : xro ρ) (hf : xFl (fun i _ => 106 ≤ i ∧ i ≤ 129) S S') : xSl S' ρ σ := h.fm hr (hf.m (R := fun _ _ => False)) (fun k _ => id) (fun a i k ha hi => by have := ha.m; omega)
theorem xSlB.f6 {S S' : xS} {ρ : Nat → Nat} {σ : xSv} {v : xTg} (h : xSlB S ρ σ v 6) (hr : xro ρ) (hf : xFl (fun i _ => 106 ≤ i ∧ i ≤ 129) S S') : xSlB S' ρ σ v 6 := h.fm (hf.m (R := fun _ _ => False)) (fun q k hq => by have := (hr.1 q (by omega)).m; omega)
theorem lr_loop {y yb yc : Nat} {ρ : Nat → Nat} {σ : xSv} {v : xYd} {tv : xTg} {bt : Bool} {d : Nat} (hyc : xYdC y yb yc) (hr : xro ρ) : ∀ (j i : Nat) (S : xS) (y2 : Value), i + j = v.2.length → XC S → S.2.2.1 0 4 = some y → xSl S ρ σ → xSlB S ρ σ tv 6 → xYdV y yb yc S v → S.2.1 74 15 = xB bt → (∀ q, q < i → ∀ n t L, σ (v.2.getD q 0) = some (n, t, L) → xCh (106 + 4 * v.2.getD q 0) S (xct tv t bt) bt L 0) → Wp false (d + 4) 10 cX11_learnRhymes none false 2 [.ref 0, .int (nI i), y2] [] S (fun r S' => r = none ∧ xFl (fun i _ => 106 ≤ i ∧ i ≤ 129) S S' ∧ (∀ q, q < v.2.length → ∀ n t L, σ (v.2.getD q 0) = some (n, t, L) → xCh (106 + 4 * v.2.getD q 0) S' (xct tv t bt) bt L 0)) := by
  have hyu : y < 17 ∧ yb < 17 ∧ yc < 17 := by rcases hyc with h | h <;> omega
  intro j
  induction j with
  | zero =>
    intro i S y2 hi hX h4 hS hB hY hb h
    have k2 := hY.2.1
    have hl4 := hY.2.2.2.2.2.2.1
    have hy := (hyc.sh hX).1
    have hii : i = v.2.length := by omega
    subst hii
    refine wp_iload_n dX11_learnRhymes_2 rfl (wp_aload_n dX11_learnRhymes_3 rfl rfl (g10_36 dX11_learnRhymes_4 (xsh hX sh_0) h4 (gv10_314 dX11_learnRhymes_7 hy k2 ?_)))
    refine wn_icmp_ge dX11_learnRhymes_10 rfl (by omega) (by omega) (fun c10 => ?_) (fun c10 => absurd c10 (by omega))
    exact wp_return dX11_learnRhymes_52 rfl ⟨rfl, xFl.rf S, h⟩
  | succ j ih =>
    intro i S y2 hi hX h4 hS hB hY hb h
    have k2 := hY.2.1
    have hl4 := hY.2.2.2.2.2.2.1
    have h6 := hY.2.2.2.2.2.2.2
    have hy := (hyc.sh hX).1
    have gr := c_rhymeAt (d + 3) hyc hX hY (show i < v.2.length by omega)
    have hs := h6 _ (xmem_getD (d := 0) (show i < v.2.length by omega))
    obtain ⟨e1, e2, e3⟩ := hS _ hs
    have hob := hr.1 (v.2.getD i 0) (by omega)
    cases e : σ (v.2.getD i 0) with
    | none =>
      have gn := c_rhymeIn_nil (d + 2) hob hs hX e1 (e2 e)
      have ih2 := fun y2 => ih (i + 1) S y2 (by omega) hX h4 hS hB hY hb (fun q hq n t L eq => by
        rcases Nat.lt_or_ge q i with w | w
        · exact h q w n t L eq
        · rw [show q = i by omega, e] at eq; cases eq)
      refine wp_iload_n dX11_learnRhymes_2 rfl (wp_aload_n dX11_learnRhymes_3 rfl rfl (g10_36 dX11_learnRhymes_4 (xsh hX sh_0) h4 (gv10_314 dX11_learnRhymes_7 hy k2 ?_)))
      refine wn_icmp_ge dX11_learnRhymes_10 rfl (by omega) (by omega) (fun c10 => absurd c10 (by omega)) (fun c10 => ?_)
      exact wp_aload_n dX11_learnRhymes_13 rfl rfl (wp_aload_n dX11_learnRhymes_14 rfl rfl (g10_36 dX11_learnRhymes_15 (xsh hX sh_0) h4 (wp_iload_n dX11_learnRhymes_18 rfl (wp_iv2 dX11_learnRhymes_19 k10_219 q_X10_rhymeAt (by decide) hy (by decide) (Nat.le_of_ble_eq_true rfl) gr (wp_iv2 dX11_learnRhymes_22 k10_155 q_X11_rhymeIn (by decide) (xsh hX sh_0) (by decide) (Nat.le_of_ble_eq_true rfl) gn (wp_astore_n dX11_learnRhymes_25 rfl ⟨Nat.le_of_ble_eq_true rfl, Or.inr rfl⟩ rfl (wp_aload_n dX11_learnRhymes_26 rfl rfl (wp_ifnull_N dX11_learnRhymes_27 rfl (wp_iinc dX11_learnRhymes_46 rfl (nI_1 _) ⟨Nat.le_of_ble_eq_true rfl, Or.inr rfl⟩ rfl (wp_goto dX11_learnRhymes_49 rfl (ih2 _)))))))))))
    | some x =>
      obtain ⟨n, t, L⟩ := x
      have gn := c_rhymeIn (d + 2) hob hs hX e1 (e3 n t L e).1
      obtain ⟨S1, g1, f1, c1⟩ := c_ringLearn (bt := bt) (v := tv) d hs hob hX hb (e3 n t L e).2 (hB _ hs n t L e)
      have F1 : xFl (fun i _ => 106 ≤ i ∧ i ≤ 129) S S1 := f1.mono (fun i k h => by omega)
      have X1 := f1.XC hX
      have ih2 := fun y2 => ih (i + 1) S1 y2 (by omega) X1 (F1.r h4) (hS.f6 hr F1) (hB.f6 hr F1) (xYdV.fr _ _ _ _ hY F1 (fun i k h => by omega)) (F1.i hb (by omega)) (fun q hq n' t' L' eq => by
        rcases Decidable.em (v.2.getD q 0 = v.2.getD i 0) with w | w
        · rw [w] at eq ⊢
          rw [e] at eq
          cases eq
          exact c1
        · have h6q := h6 _ (xmem_getD (d := 0) (show q < v.2.length by omega))
          rcases Nat.lt_or_ge q i with w2 | w2
          · exact (h q w2 n' t' L' eq).fr f1 (fun j k hj => by omega)
          · exact absurd (by rw [show q = i by omega]) w)
      have lift : ∀ y2, Wp false (d + 4) 10 cX11_learnRhymes none false 2 [.ref 0, .int (nI (i + 1)), y2] [] S1 (fun r S' => r = none ∧ xFl (fun i _ => 106 ≤ i ∧ i ≤ 129) S S' ∧ (∀ q, q < v.2.length → ∀ n t L, σ (v.2.getD q 0) = some (n, t, L) → xCh (106 + 4 * v.2.getD q 0) S' (xct tv t bt) bt L 0)) := fun y2 => (ih2 y2).mono (fun r S' h => ⟨h.1, F1.tt h.2.1, h.2.2⟩)
      refine wp_iload_n dX11_learnRhymes_2 rfl (wp_aload_n dX11_learnRhymes_3 rfl rfl (g10_36 dX11_learnRhymes_4 (xsh hX sh_0) h4 (gv10_314 dX11_learnRhymes_7 hy k2 ?_)))
      refine wn_icmp_ge dX11_learnRhymes_10 rfl (by omega) (by omega) (fun c10 => absurd c10 (by omega)) (fun c10 => ?_)
      exact wp_aload_n dX11_learnRhymes_13 rfl rfl (wp_aload_n dX11_learnRhymes_14 rfl rfl (g10_36 dX11_learnRhymes_15 (xsh hX sh_0) h4 (wp_iload_n dX11_learnRhymes_18 rfl (wp_iv2 dX11_learnRhymes_19 k10_219 q_X10_rhymeAt (by decide) hy (by decide) (Nat.le_of_ble_eq_true rfl) gr (wp_iv2 dX11_learnRhymes_22 k10_155 q_X11_rhymeIn (by decide) (xsh hX sh_0) (by decide) (Nat.le_of_ble_eq_true rfl) gn (wp_astore_n dX11_learnRhymes_25 rfl ⟨Nat.le_of_ble_eq_true rfl, Or.inr rfl⟩ rfl (wp_aload_n dX11_learnRhymes_26 rfl rfl (wp_ifnull_R dX11_learnRhymes_27 rfl (wp_aload_n dX11_learnRhymes_30 rfl rfl (g10_82 dX11_learnRhymes_31 (xsh hX sh_0) (xrr hX r0_14) (wp_aload_n dX11_learnRhymes_34 rfl rfl (g10_36 dX11_learnRhymes_35 (xsh hX sh_0) h4 (wp_iload_n dX11_learnRhymes_38 rfl (wp_iv2 dX11_learnRhymes_39 k10_219 q_X10_rhymeAt (by decide) hy (by decide) (Nat.le_of_ble_eq_true rfl) gr (wp_aload_n dX11_learnRhymes_42 rfl rfl (wp_iv3 dX11_learnRhymes_43 k10_304 q_X4_learn (by decide) (xsh hX sh_74) (by decide) (Nat.le_of_ble_eq_true rfl) g1 (wp_iinc dX11_learnRhymes_46 rfl (nI_1 _) ⟨Nat.le_of_ble_eq_true rfl, Or.inr rfl⟩ rfl (wp_goto dX11_learnRhymes_49 rfl (lift _)))))))))))))))))))
theorem c_learnRhymes {y yb yc : Nat} {ρ : Nat → Nat} {σ : xSv} {v : xYd} {tv : xTg} {bt : Bool} (d : Nat) (hyc : xYdC y yb yc) (hr : xro ρ) {S : xS} (hX : XC S) (h4 : S.2.2.1 0 4 = some y) (hS : xSl S ρ σ) (hY : xYdV y yb yc S v) (hB : xSlB S ρ σ tv 6) (hb : S.2.1 74 15 = xB bt) : ∃ S', xcall false (d + 4) j_X11_learnRhymes [.ref 0] S none S' ∧ xFl (fun i _ => 106 ≤ i ∧ i ≤ 129) S S' ∧ (∀ q, q < v.2.length → ∀ n t L, σ (v.2.getD q 0) = some (n, t, L) → xCh (106 + 4 * v.2.getD q 0) S' (xct tv t bt) bt L 0) := by
  obtain ⟨r, S', g1, rfl, z⟩ := xcall_some (al := false) (d := d + 4) (ls := [.ref 0, .float 0, .float 0]) (S := S) (as := [.ref 0]) q_X11_learnRhymes (by decide) rfl (Nat.le_of_ble_eq_true rfl) rfl
    (P := fun r S' => r = none ∧ xFl (fun i _ => 106 ≤ i ∧ i ≤ 129) S S' ∧ (∀ q, q < v.2.length → ∀ n t L, σ (v.2.getD q 0) = some (n, t, L) → xCh (106 + 4 * v.2.getD q 0) S' (xct tv t bt) bt L 0)) (by
      exact wp_iconst (v := nI 0) dX11_learnRhymes_0 rfl (wp_istore_n dX11_learnRhymes_1 ⟨Nat.le_of_ble_eq_true rfl, Or.inr rfl⟩ rfl (lr_loop hyc hr v.2.length 0 S _ (Nat.zero_add _) hX h4 hS hB hY hb (fun q hq => absurd hq (Nat.not_lt_zero q)))))
  exact ⟨S', g1, z⟩
