/-! the reference makes a PLAY ready: prepare whole, prepareYard; its small methods -/
/-- a PLAY stands ready in the reference -/
def xMpd (S : xS) (c : xPx) (ex : Nat) : Prop := S.2.1 187 60 = nI (xgH (xzg c)) ∧ S.2.1 187 58 = nI c.1.2.length ∧ S.2.1 187 59 = nI ex ∧ (∀ i, i < c.1.2.length → S.2.1 212 i = nI (c.1.2.getD i 0)) ∧ (∀ p, p < c.2.2.1.length → S.2.1 215 p = nI (if xzb c = true then xznb c p else 1)) ∧ (∀ i, i < c.1.2.length → xSw S c.2.2.2.2 c.2.1 (xzb c) (c.1.2.getD i 0)) ∧ xMl S c.2.2.2.2 ∧ ((∀ i, i < 6 → S.2.1 208 i = nI (c.1.1 i)) ∧ S.2.1 208 6 = nI (1 - c.1.1 7)) ∧ S.2.1 187 30 = nI c.2.2.1.length ∧ S.2.1 187 31 = nI c.2.2.2.1.length ∧ (∀ a, a < c.2.2.2.1.length → S.2.1 197 a = nI (xza c a))
theorem xMpd.fr {S S' : xS} {c : xPx} {ex : Nat} {P : Nat → Nat → Prop} (h : xMpd S c ex) (ho : xzo c) (hf : xFl P S S') (hn : ∀ i k, ((i = 187 ∧ (k = 60 ∨ k = 58 ∨ k = 59 ∨ k = 30 ∨ k = 31)) ∨ i = 195 ∨ (197 ≤ i ∧ i ≤ 203) ∨ i = 208 ∨ i = 212 ∨ i = 213 ∨ i = 214 ∨ i = 215 ∨ i = 217 ∨ i = 218) → ¬ P i k) : xMpd S' c ex := by
  obtain ⟨h1, h2, h3, h4, h5, h6, h7, h8, h9, h10, h11⟩ := h
  refine ⟨hf.i h1 (hn _ _ (by omega)), hf.i h2 (hn _ _ (by omega)), hf.i h3 (hn _ _ (by omega)), fun i hi => hf.i (h4 i hi) (hn _ _ (by omega)), fun p hp => hf.i (h5 p hp) (hn _ _ (by omega)), fun i hi => ?_, h7.fr hf (fun i k h => hn _ _ (by omega)), ⟨fun i hi => hf.i (h8.1 i hi) (hn _ _ (by omega)), hf.i h8.2 (hn _ _ (by omega))⟩, hf.i h9 (hn _ _ (by omega)), hf.i h10 (hn _ _ (by omega)), fun a ha => hf.i (h11 a ha) (hn _ _ (by omega))⟩
  have h6' := ho.1.2.2.2.2 _ (xmem_getD (d := 0) hi)
  refine (h6 i hi).fr hf (fun n t L e => ?_) (fun i q hq => hn _ _ (by unfold xFs at hq; omega))
  have := (h7 _ h6').2 n t L e
  exact ⟨this.2.2.2.2, this.2.2.2.1⟩
theorem m_prepare {l : List (List Nat)} {U : List Nat} {σ : xSv} {v : xTg} {y : xYd} (hU : U.length ≤ 4) (h6 : ∀ x ∈ U, x < 6) (d : Nat) {S : xS} (hX : XC S) (hM : xMl S σ) (hT : xTgM S v) (hY : xYdM S y) (hW : xWMo S l) (hu : (S.2.1 187 58 = nI U.length ∧ ∀ q, q < U.length → S.2.1 212 q = nI (U.getD q 0))) : ∃ r S', xcall false (d + 4) j_X12_prepare [.ref 187] S r S' ∧ r = some (.int (xB (U.all (fun s => (σ s).isSome)))) ∧ xFl (fun i k => (i = 187 ∧ k = 60) ∨ i = 213 ∨ i = 214 ∨ i = 215 ∨ i = 217 ∨ i = 218) S S' ∧ (U.all (fun s => (σ s).isSome) = true → S'.2.1 187 60 = nI (xgH (xgOf l.length y)) ∧ (∀ q, q < l.length → S'.2.1 215 q = nI (if xbts y = true then xwB v (l.getD q []) else 1)) ∧ (∀ q, q < U.length → xSw S' σ v (xbts y) (U.getD q 0))) := by
  have kp := hW.2.1
  have y1 := hY.1 1 (by decide)
  have yb : y.1 1 ≤ 1 := hY.2.2.2.2.1 1 (by decide)
  have F0 : xFl (fun i k => i = 187 ∧ k = 60) S (xSI S 187 60 (nI (xgH (xgOf l.length y)))) := (xFl.rf S).SI ⟨rfl, rfl⟩
  refine xcall_some (ls := [.ref 187, .float 0, .float 0, .float 0]) q_X12_prepare (by decide) rfl (Nat.le_of_ble_eq_true rfl) rfl (P := fun r S' => r = some (.int (xB (U.all (fun s => (σ s).isSome)))) ∧ xFl (fun i k => (i = 187 ∧ k = 60) ∨ i = 213 ∨ i = 214 ∨ i = 215 ∨ i = 217 ∨ i = 218) S S' ∧ (U.all (fun s => (σ s).isSome) = true → S'.2.1 187 60 = nI (xgH (xgOf l.length y)) ∧ (∀ q, q < l.length → S'.2.1 215 q = nI (if xbts y = true then xwB v (l.getD q []) else 1)) ∧ (∀ q, q < U.length → xSw S' σ v (xbts y) (U.getD q 0)))) ?_
  rcases Decidable.em (y.1 1 = 1) with w | w
  · have eH : nI 2 * nI l.length = nI (xgH (xgOf l.length y)) := (pk_mul _ _).trans (congrArg nI (show 2 * l.length = (xgH (xgOf l.length y)) from (if_pos (show xgf (xgOf l.length y) = true from decide_eq_true w)).symm))
    refine wp_aload_n dX12_prepare_0 rfl rfl (wp_aload_n dX12_prepare_1 rfl rfl (g11_272 dX12_prepare_2 (xsh hX sh_187) (xrr hX r187_45) (wp_iconst (v := nI 1) dX12_prepare_5 rfl (wn_iaload dX12_prepare_6 (xsh hX sh_208) rfl (by omega) (by decide) y1 (wp_iconst (v := nI 1) dX12_prepare_7 rfl ?_)))))
    refine wn_icmp_ne dX12_prepare_8 rfl (by omega) (by omega) (fun c8 => absurd c8 (by omega)) (fun c8 => ?_)
    refine wp_iconst (v := nI 2) dX12_prepare_11 rfl (wp_aload_n dX12_prepare_12 rfl rfl (gv11_183 dX12_prepare_13 (xsh hX sh_187) kp (wv_imul dX12_prepare_16 eH (wp_goto dX12_prepare_17 rfl (p11_391 dX12_prepare_24 (xsh hX sh_187) (wp_iconst (v := nI 0) dX12_prepare_27 rfl (wp_istore_n dX12_prepare_28 ⟨Nat.le_of_ble_eq_true rfl, Or.inr rfl⟩ rfl ?_)))))))
    refine pr_names (v := v) (y := y) l.length 0 (xSI S 187 60 (nI (xgH (xgOf l.length y)))) (Nat.zero_add _) (F0.XC hX) (hW.fr F0 (fun i k h => by omega)) (hT.fr F0 (fun q h => by omega) (fun a q h => by omega)) (hY.fr F0 (fun i q h => by omega)) (fun q hq => absurd hq (Nat.not_lt_zero q)) (fun S1 y1 f1 h1 => ?_)
    have X1 := f1.XC (F0.XC hX)
    have u1 : (S1.2.1 187 58 = nI U.length ∧ ∀ q, q < U.length → S1.2.1 212 q = nI (U.getD q 0)) := ⟨f1.i (F0.i hu.1 (by omega)) (by omega), fun q hq => f1.i (F0.i (hu.2 q hq) (by omega)) (by omega)⟩
    refine wp_iconst (v := nI 0) dX12_prepare_81 rfl (wp_istore_n dX12_prepare_82 ⟨Nat.le_of_ble_eq_true rfl, Or.inr rfl⟩ rfl ?_)
    refine (pr_slots hU h6 U.length 0 S1 (.float 0) (.float 0) (Nat.zero_add _) X1 ((hM.fr F0 (fun i k h => by omega)).fr f1 (fun i k h => by omega)) ((hT.fr F0 (fun q h => by omega) (fun a q h => by omega)).fr f1 (fun q h => by omega) (fun a q h => by omega)) ((hY.fr F0 (fun i q h => by omega)).fr f1 (fun i q h => by omega)) u1 (fun q hq => absurd hq (Nat.not_lt_zero q))).mono ?_
    rintro r S' ⟨z1, z2, z3⟩
    exact ⟨z1, ((F0.mono (fun i k h => by omega)).tt (f1.mono (fun i k h => by omega))).tt (z2.mono (fun i k h => by omega)), fun ha => ⟨z2.i (f1.i (xI_same _ _ _ _) (by omega)) (by omega), fun q hq => z2.i (h1 q hq) (by omega), z3 ha⟩⟩
  · have eH : l.length = (xgH (xgOf l.length y)) := (if_neg (show ¬ xgf (xgOf l.length y) = true from fun q => w (of_decide_eq_true q))).symm
    rw [eH] at kp
    refine wp_aload_n dX12_prepare_0 rfl rfl (wp_aload_n dX12_prepare_1 rfl rfl (g11_272 dX12_prepare_2 (xsh hX sh_187) (xrr hX r187_45) (wp_iconst (v := nI 1) dX12_prepare_5 rfl (wn_iaload dX12_prepare_6 (xsh hX sh_208) rfl (by omega) (by decide) y1 (wp_iconst (v := nI 1) dX12_prepare_7 rfl ?_)))))
    refine wn_icmp_ne dX12_prepare_8 rfl (by omega) (by omega) (fun c8 => ?_) (fun c8 => absurd c8 (by omega))
    refine wp_aload_n dX12_prepare_20 rfl rfl (gv11_183 dX12_prepare_21 (xsh hX sh_187) kp (p11_391 dX12_prepare_24 (xsh hX sh_187) (wp_iconst (v := nI 0) dX12_prepare_27 rfl (wp_istore_n dX12_prepare_28 ⟨Nat.le_of_ble_eq_true rfl, Or.inr rfl⟩ rfl ?_))))
    refine pr_names (v := v) (y := y) l.length 0 (xSI S 187 60 (nI (xgH (xgOf l.length y)))) (Nat.zero_add _) (F0.XC hX) (hW.fr F0 (fun i k h => by omega)) (hT.fr F0 (fun q h => by omega) (fun a q h => by omega)) (hY.fr F0 (fun i q h => by omega)) (fun q hq => absurd hq (Nat.not_lt_zero q)) (fun S1 y1 f1 h1 => ?_)
    have X1 := f1.XC (F0.XC hX)
    have u1 : (S1.2.1 187 58 = nI U.length ∧ ∀ q, q < U.length → S1.2.1 212 q = nI (U.getD q 0)) := ⟨f1.i (F0.i hu.1 (by omega)) (by omega), fun q hq => f1.i (F0.i (hu.2 q hq) (by omega)) (by omega)⟩
    refine wp_iconst (v := nI 0) dX12_prepare_81 rfl (wp_istore_n dX12_prepare_82 ⟨Nat.le_of_ble_eq_true rfl, Or.inr rfl⟩ rfl ?_)
    refine (pr_slots hU h6 U.length 0 S1 (.float 0) (.float 0) (Nat.zero_add _) X1 ((hM.fr F0 (fun i k h => by omega)).fr f1 (fun i k h => by omega)) ((hT.fr F0 (fun q h => by omega) (fun a q h => by omega)).fr f1 (fun q h => by omega) (fun a q h => by omega)) ((hY.fr F0 (fun i q h => by omega)).fr f1 (fun i q h => by omega)) u1 (fun q hq => absurd hq (Nat.not_lt_zero q))).mono ?_
    rintro r S' ⟨z1, z2, z3⟩
    exact ⟨z1, ((F0.mono (fun i k h => by omega)).tt (f1.mono (fun i k h => by omega))).tt (z2.mono (fun i k h => by omega)), fun ha => ⟨z2.i (f1.i (xI_same _ _ _ _) (by omega)) (by omega), fun q hq => z2.i (h1 q hq) (by omega), z3 ha⟩⟩
theorem m_use {m a b c e : Int32} (d : Nat) {S : xS} (hX : XC S) : xcall false d j_X12_use [.ref 187, .int m, .int a, .int b, .int c, .int e] S none (xSI (xSI (xSI (xSI (xSI (xSI S 187 58 m) 212 0 a) 212 1 b) 212 2 c) 212 3 e) 187 59 (nI 0)) := by
  refine xcall_intro (ls := [.ref 187, .int m, .int a, .int b, .int c, .int e]) q_X12_use (by decide) rfl (Nat.le_of_ble_eq_true rfl) rfl ?_
  exact wp_aload_n dX12_use_0 rfl rfl (wp_iload_n dX12_use_1 rfl (p11_385 dX12_use_2 (xsh hX sh_187) (wp_aload_n dX12_use_5 rfl rfl (g11_330 dX12_use_6 (xsh hX sh_187) (xrr hX r187_51) (wp_iconst (v := nI 0) dX12_use_9 rfl (wp_iload_n dX12_use_10 rfl (wn_iastore dX12_use_11 (xsh hX sh_212) rfl (by omega) (by decide) (wp_aload_n dX12_use_12 rfl rfl (g11_330 dX12_use_13 (xsh hX sh_187) (xrr hX r187_51) (wp_iconst (v := nI 1) dX12_use_16 rfl (wp_iload_n dX12_use_17 rfl (wn_iastore dX12_use_18 (xsh hX sh_212) rfl (by omega) (by decide) (wp_aload_n dX12_use_19 rfl rfl (g11_330 dX12_use_20 (xsh hX sh_187) (xrr hX r187_51) (wp_iconst (v := nI 2) dX12_use_23 rfl (wp_iload dX12_use_24 rfl (wn_iastore dX12_use_26 (xsh hX sh_212) rfl (by omega) (by decide) (wp_aload_n dX12_use_27 rfl rfl (g11_330 dX12_use_28 (xsh hX sh_187) (xrr hX r187_51) (wp_iconst (v := nI 3) dX12_use_31 rfl (wp_iload dX12_use_32 rfl (wn_iastore dX12_use_34 (xsh hX sh_212) rfl (by omega) (by decide) (wp_aload_n dX12_use_35 rfl rfl (wp_iconst (v := nI 0) dX12_use_36 rfl (p11_388 dX12_use_37 (xsh hX sh_187) (wp_return dX12_use_40 rfl ⟨rfl, rfl⟩))))))))))))))))))))))))))
theorem m_use_f {m a b c e : Int32} {S : xS} : xFl (fun i k => (i = 187 ∧ (k = 58 ∨ k = 59)) ∨ i = 212) S (xSI (xSI (xSI (xSI (xSI (xSI S 187 58 m) 212 0 a) 212 1 b) 212 2 c) 212 3 e) 187 59 (nI 0)) := by
  have E1 : xFl (fun i k => (i = 187 ∧ (k = 58 ∨ k = 59)) ∨ i = 212) S (xSI S 187 58 m) := (xFl.rf S).SI (by omega)
  have E2 : xFl (fun i k => (i = 187 ∧ (k = 58 ∨ k = 59)) ∨ i = 212) S (xSI (xSI S 187 58 m) 212 0 a) := E1.SI (by omega)
  have E3 : xFl (fun i k => (i = 187 ∧ (k = 58 ∨ k = 59)) ∨ i = 212) S (xSI (xSI (xSI S 187 58 m) 212 0 a) 212 1 b) := E2.SI (by omega)
  have E4 : xFl (fun i k => (i = 187 ∧ (k = 58 ∨ k = 59)) ∨ i = 212) S (xSI (xSI (xSI (xSI S 187 58 m) 212 0 a) 212 1 b) 212 2 c) := E3.SI (by omega)
  have E5 : xFl (fun i k => (i = 187 ∧ (k = 58 ∨ k = 59)) ∨ i = 212) S (xSI (xSI (xSI (xSI (xSI S 187 58 m) 212 0 a) 212 1 b) 212 2 c) 212 3 e) := E4.SI (by omega)
  exact E5.SI (by omega)
theorem m_prepareYard {v : xYd} {tv : xTg} {l l2 : List (List Nat)} {σ : xSv} (d : Nat) (ho : xzo (v, tv, l, l2, σ)) {S : xS} (hX : XC S) (hM : xMl S σ) (hT : xTgM S tv) (hY : xYdM S v) (hW : xWMo S l) (hA : xWM 1844 197 S l2) (ka : S.2.1 187 31 = nI l2.length) : ∃ S', xcall false (d + 5) j_X12_prepareYard [.ref 187] S (some (.int (xB (xzal (v, tv, l, l2, σ))))) S' ∧ xFl (fun i k => (i = 187 ∧ (k = 58 ∨ k = 59 ∨ k = 60)) ∨ i = 212 ∨ i = 213 ∨ i = 214 ∨ i = 215 ∨ i = 217 ∨ i = 218) S S' ∧ (xzal (v, tv, l, l2, σ) = true → xMpd S' (v, tv, l, l2, σ) 0) := by
  have k49 := hY.2.2.1
  have hl4 : v.2.length ≤ 4 := ho.1.2.2.2.1
  have h6 : ∀ x ∈ v.2, x < 6 := ho.1.2.2.2.2
  have gu := m_use (m := nI v.2.length) (a := S.2.1 210 0) (b := S.2.1 210 1) (c := S.2.1 210 2) (e := S.2.1 210 3) (d + 4) hX
  have F0 := m_use_f (m := nI v.2.length) (a := S.2.1 210 0) (b := S.2.1 210 1) (c := S.2.1 210 2) (e := S.2.1 210 3) (S := S)
  have e59 : (xSI (xSI (xSI (xSI (xSI (xSI S 187 58 (nI v.2.length)) 212 0 (S.2.1 210 0)) 212 1 (S.2.1 210 1)) 212 2 (S.2.1 210 2)) 212 3 (S.2.1 210 3)) 187 59 (nI 0)).2.1 187 59 = nI 0 := xI_same _ _ _ _
  have e58 : (xSI (xSI (xSI (xSI (xSI (xSI S 187 58 (nI v.2.length)) 212 0 (S.2.1 210 0)) 212 1 (S.2.1 210 1)) 212 2 (S.2.1 210 2)) 212 3 (S.2.1 210 3)) 187 59 (nI 0)).2.1 187 58 = nI v.2.length := xi (xi (xi (xi (xi (xI_same _ _ _ _) (Or.inl (by decide))) (Or.inl (by decide))) (Or.inl (by decide))) (Or.inl (by decide))) (Or.inr (by decide))
  have e212 : ∀ q, q < v.2.length → (xSI (xSI (xSI (xSI (xSI (xSI S 187 58 (nI v.2.length)) 212 0 (S.2.1 210 0)) 212 1 (S.2.1 210 1)) 212 2 (S.2.1 210 2)) 212 3 (S.2.1 210 3)) 187 59 (nI 0)).2.1 212 q = nI (v.2.getD q 0) := by
    intro q hq
    rw [← hY.2.2.2.1 q hq]
    rcases (show q = 0 ∨ q = 1 ∨ q = 2 ∨ q = 3 by omega) with rfl | rfl | rfl | rfl
    · exact xi (xi (xi (xi (xI_same _ _ _ _) (Or.inr (by decide))) (Or.inr (by decide))) (Or.inr (by decide))) (Or.inl (by decide))
    · exact xi (xi (xi (xI_same _ _ _ _) (Or.inr (by decide))) (Or.inr (by decide))) (Or.inl (by decide))
    · exact xi (xi (xI_same _ _ _ _) (Or.inr (by decide))) (Or.inl (by decide))
    · exact xi (xI_same _ _ _ _) (Or.inl (by decide))
  generalize (xSI (xSI (xSI (xSI (xSI (xSI S 187 58 (nI v.2.length)) 212 0 (S.2.1 210 0)) 212 1 (S.2.1 210 1)) 212 2 (S.2.1 210 2)) 212 3 (S.2.1 210 3)) 187 59 (nI 0)) = S1 at gu F0 e59 e58 e212
  have X1 := F0.XC hX
  obtain ⟨r, S', g1, hr, f1, z⟩ := m_prepare (v := tv) (y := v) hl4 h6 d X1 (hM.fr F0 (fun i k h => by omega)) (hT.fr F0 (fun q h => by omega) (fun a q h => by omega)) (hY.fr F0 (fun i q h => by omega)) (hW.fr F0 (fun i k h => by omega)) ⟨e58, e212⟩
  subst hr
  have FF : xFl (fun i k => (i = 187 ∧ (k = 58 ∨ k = 59 ∨ k = 60)) ∨ i = 212 ∨ i = 213 ∨ i = 214 ∨ i = 215 ∨ i = 217 ∨ i = 218) S S' := (F0.mono (fun i k h => by omega)).tt (f1.mono (fun i k h => by omega))
  refine ⟨S', ?_, FF, fun ha => ?_⟩
  · show xcall _ _ _ _ _ (some (.int (xB (v.2.all (fun s => (σ s).isSome))))) _
    refine xcall_intro (ls := [.ref 187]) q_X12_prepareYard (by decide) rfl (Nat.le_of_ble_eq_true rfl) rfl ?_
    exact wp_aload_n dX12_prepareYard_0 rfl rfl (wp_aload_n dX12_prepareYard_1 rfl rfl (gv11_278 dX12_prepareYard_2 (xsh hX sh_187) k49 (wp_aload_n dX12_prepareYard_5 rfl rfl (g11_275 dX12_prepareYard_6 (xsh hX sh_187) (xrr hX r187_47) (wp_iconst (v := nI 0) dX12_prepareYard_9 rfl (wn_iaload dX12_prepareYard_10 (xsh hX sh_210) rfl (by omega) (by decide) rfl (wp_aload_n dX12_prepareYard_11 rfl rfl (g11_275 dX12_prepareYard_12 (xsh hX sh_187) (xrr hX r187_47) (wp_iconst (v := nI 1) dX12_prepareYard_15 rfl (wn_iaload dX12_prepareYard_16 (xsh hX sh_210) rfl (by omega) (by decide) rfl (wp_aload_n dX12_prepareYard_17 rfl rfl (g11_275 dX12_prepareYard_18 (xsh hX sh_187) (xrr hX r187_47) (wp_iconst (v := nI 2) dX12_prepareYard_21 rfl (wn_iaload dX12_prepareYard_22 (xsh hX sh_210) rfl (by omega) (by decide) rfl (wp_aload_n dX12_prepareYard_23 rfl rfl (g11_275 dX12_prepareYard_24 (xsh hX sh_187) (xrr hX r187_47) (wp_iconst (v := nI 3) dX12_prepareYard_27 rfl (wn_iaload dX12_prepareYard_28 (xsh hX sh_210) rfl (by omega) (by decide) rfl (wp_iv6 dX12_prepareYard_29 k11_398 q_X12_use (by decide) (xsh hX sh_187) (by decide) (Nat.le_of_ble_eq_true rfl) gu (wp_aload_n dX12_prepareYard_32 rfl rfl (wp_iv1 dX12_prepareYard_33 k11_402 q_X12_prepare (by decide) (xsh X1 sh_187) (by decide) (Nat.le_of_ble_eq_true rfl) g1 (wb_ret dX12_prepareYard_36 rfl rfl ⟨rfl, rfl⟩))))))))))))))))))))))
  · obtain ⟨z1, z2, z3⟩ := z ha
    exact ⟨z1, f1.i e58 (by omega), f1.i e59 (by omega), fun i hi => f1.i (e212 i hi) (by omega), z2, z3, hM.fr FF (fun i k h => by omega), ⟨fun i hi => FF.i (hY.1 i hi) (by omega), FF.i hY.2.1 (by omega)⟩, FF.i hW.2.1 (by omega), FF.i ka (by omega), fun a ha' => FF.i (hA a ha').1 (by omega)⟩
