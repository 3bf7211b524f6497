/-! FRAMES with some references free; yard of the class -/
def xFm (P R : Nat → Nat → Prop) (S S' : xS) : Prop := S'.1 = S.1 ∧ (∀ a k, ¬ R a k → S'.2.2.1 a k = S.2.2.1 a k) ∧ ∀ a k, ¬ P a k → S'.2.1 a k = S.2.1 a k
theorem xFl.m {P R : Nat → Nat → Prop} {S S' : xS} (h : xFl P S S') : xFm P R S S' := ⟨h.1, fun a k _ => by rw [h.2.1], h.2.2⟩
theorem xFm.mono {P Q R T : Nat → Nat → Prop} {S S1 : xS} (h : xFm P R S S1) (hq : ∀ a k, P a k → Q a k) (hr : ∀ a k, R a k → T a k) : xFm Q T S S1 := ⟨h.1, fun a k hn => h.2.1 a k (fun q => hn (hr a k q)), fun a k hn => h.2.2 a k (fun q => hn (hq a k q))⟩
theorem xFm.tt {P R : Nat → Nat → Prop} {S S1 S2 : xS} (h : xFm P R S S1) (h1 : xFm P R S1 S2) : xFm P R S S2 :=
  ⟨h1.1.trans h.1, fun a k hn => (h1.2.1 a k hn).trans (h.2.1 a k hn), fun a k hn => (h1.2.2 a k hn).trans (h.2.2 a k hn)⟩
theorem xFm.XC {P R : Nat → Nat → Prop} {S S' : xS} (h : xFm P R S S') (hX : XC S) (hR : ∀ a k, R a k → xRT a k = none) : XC S' := ⟨h.1.trans hX.1, fun a k b hb => by
  rw [h.2.1 a k (fun q => by rw [hR a k q] at hb; cases hb)]
  exact hX.2 a k b hb⟩
theorem xFm.i {P R : Nat → Nat → Prop} {S S' : xS} (h : xFm P R S S') {a k : Nat} {v : Int32} (hv : S.2.1 a k = v) (hn : ¬ P a k) : S'.2.1 a k = v := (h.2.2 a k hn).trans hv
theorem xFm.r {P R : Nat → Nat → Prop} {S S' : xS} (h : xFm P R S S') {a k : Nat} {v : Option Nat} (hv : S.2.2.1 a k = v) (hn : ¬ R a k) : S'.2.2.1 a k = v := (h.2.1 a k hn).trans hv
theorem xFm.SI {P R : Nat → Nat → Prop} {S S1 : xS} (h : xFm P R S S1) {a k : Nat} {v : Int32} (hp : P a k) : xFm P R S (xSI S1 a k v) :=
  ⟨h.1, h.2.1, fun b j hn => by
    rw [xI_ne _ v (b := b) (j := j) (by
      rcases Decidable.em (b = a) with e | e
      · refine Or.inr (fun e2 => hn ?_); subst e; subst e2; exact hp
      · exact Or.inl e)]
    exact h.2.2 b j hn⟩
theorem xFm.SR {P R : Nat → Nat → Prop} {S S1 : xS} (h : xFm P R S S1) {a k : Nat} {v : Option Nat} (hp : R a k) : xFm P R S (xSR S1 a k v) :=
  ⟨h.1, fun b j hn => by
    rw [xR_ne _ v (b := b) (j := j) (by
      rcases Decidable.em (b = a) with e | e
      · refine Or.inr (fun e2 => hn ?_); subst e; subst e2; exact hp
      · exact Or.inl e)]
    exact h.2.1 b j hn, h.2.2⟩
theorem xFm.rf {P R : Nat → Nat → Prop} (S : xS) : xFm P R S S := ⟨rfl, fun _ _ _ => rfl, fun _ _ _ => rfl⟩
theorem xYdV.fm {a b c : Nat} {S S' : xS} {P R : Nat → Nat → Prop} {v : xYd} (h : xYdV a b c S v) (hf : xFm P R S S') (hn : ∀ i k, (i = a ∨ i = b ∨ i = c) → ¬ P i k) : xYdV a b c S' v :=
  ⟨fun i hi => hf.i (h.1 i hi) (hn _ _ (Or.inr (Or.inl rfl))), hf.i h.2.1 (hn _ _ (Or.inl rfl)), fun i hi => hf.i (h.2.2.1 i hi) (hn _ _ (Or.inr (Or.inr rfl))), h.2.2.2⟩
/-- what yard of the class writes -/
def xFyc (a b c i k : Nat) : Prop := (i = a ∨ i = b ∨ i = c) ∨ i = 3 ∨ (i = 1 ∧ k = 1) ∨ (i = 0 ∧ k = 11)
def xRyc (i k : Nat) : Prop := (i = 3 ∧ k = 0) ∨ (i = 0 ∧ (k = 4 ∨ k = 5))
theorem xRyc_n (i k : Nat) (h : xRyc i k) : xRT i k = none := by
  rcases h with ⟨rfl, rfl⟩ | ⟨rfl, rfl | rfl⟩ <;> decide
theorem xRyc_n2 (i k : Nat) (h : i = 3 ∧ k = 0) : xRT i k = none := by
  rcases h with ⟨rfl, rfl⟩; decide
theorem xtxt_le {V : Type} {t : Nat → Nat} {n : Nat} {ws : List (List Nat)} {rule : Nat → Nat → V → Except (Nat × Nat) (Nat × V)} : ∀ (f p seen c : Nat) (v : V) (c' : Nat) (v' : V), xtxt t n ws rule f p seen c v = .ok (c', v') → c' < c + f
  | 0, _, _, _, _, _, _, h => by cases h
  | f + 1, p, seen, c, v, c', v', h => by
    unfold xtxt at h
    split at h
    · cases h; omega
    · split at h
      · cases h
      · split at h
        · cases h
        · split at h
          · cases h
          · split at h
            · have := xtxt_le f _ _ _ _ c' v' h
              omega
            · cases h
theorem c_yard {a b c a' b' c' n : Nat} {t : Nat → Nat} (d : Nat) (hy : xYdC a b c) (hy' : xYdC a' b' c') {S : xS} (hX : XC S) (hn : S.2.1 1 1 = nI n) (hle : n ≤ 260) (hb : ∀ k, k < n → t k < 256 ∧ S.2.1 2 k = nI (t k)) (hr : S.2.2.1 0 4 = some a) (hr' : S.2.2.1 0 5 = some a') : ∃ k S', xcall false (d + 6) j_X11_yard [.ref 0] S (some (.int k)) S' ∧ xFm (xFyc a' b' c') xRyc S S' ∧ S'.2.1 1 1 = nI 0 ∧ (∀ e, (xtxt t n xytws (xyrule t n) 9 0 0 0 (xyf0, [0])) = .error e → k = -1 - nI e.2 ∧ S'.2.1 0 11 = nI e.1 ∧ S'.2.2.1 0 4 = some a ∧ S'.2.2.1 0 5 = some a') ∧ (∀ c2 v', (xtxt t n xytws (xyrule t n) 9 0 0 0 (xyf0, [0])) = .ok (c2, v') → k = nI c2 ∧ S'.2.1 0 11 = nI 0 ∧ S'.2.2.1 0 4 = some a' ∧ S'.2.2.1 0 5 = some a ∧ xYdV a' b' c' S' v') := by
  have hyu := hy'
  unfold xYdC at hyu
  have F1 : xFl (fun i k => i = 1 ∧ k = 1) S (xSI S 1 1 (nI 0)) := (xFl.rf S).SI ⟨rfl, rfl⟩
  have X1 := F1.XC hX
  obtain ⟨S2, g2, f2, T2, C2, z2⟩ := c_open (n := n) (t := t) (d + 3) X1 hle (fun k hk => ⟨(hb k hk).1, F1.i (hb k hk).2 (by omega)⟩)
  have M2 : xFm (xFyc a' b' c') xRyc S S2 := ((F1.m.mono (fun i k h => Or.inr (Or.inr (Or.inl h))) (fun _ _ h => h)).SR (a := 3) (k := 0) (v := some 2) (Or.inl ⟨rfl, rfl⟩)).tt (f2.m.mono (fun i k h => Or.inr (Or.inl h)) (fun _ _ h => h))
  have X2 := M2.XC hX xRyc_n
  obtain ⟨k, S3, g3, f3, r3⟩ := c_readYard d hy' X2 T2 C2 z2
  have M3 : xFm (xFyc a' b' c') xRyc S S3 := M2.tt (f3.m.mono (fun i k h => by unfold xFyc; omega) (fun _ _ h => h))
  have X3 := M3.XC hX xRyc_n
  have r0 : ∀ i k, i = 3 → ¬ (i = 0 ∧ k = 4) := by omega
  have e4 : S3.2.2.1 0 4 = some a := f3.r (f2.r ((xR_ne _ _ (Or.inl (by decide))).trans hr))
  have e5 : S3.2.2.1 0 5 = some a' := f3.r (f2.r ((xR_ne _ _ (Or.inl (by decide))).trans hr'))
  have e5' : S2.2.2.1 0 5 = some a' := f2.r ((xR_ne _ _ (Or.inl (by decide))).trans hr')
  have h11 : S3.2.1 1 1 = nI 0 := f3.i (f2.i (show (xSR (xSI S 1 1 (nI 0)) 3 0 (some 2)).2.1 1 1 = nI 0 from xI_same S 1 1 (nI 0)) (by decide)) (by omega)
  have gt := c_take hX hn (d + 5)
  obtain ⟨ha', hb', hc', ra', rc'⟩ := hy'.sh X2
  cases hR : (xtxt t n xytws (xyrule t n) 9 0 0 0 (xyf0, [0])) with
  | error e =>
    obtain ⟨rfl, z1, z3⟩ := r3.1 e hR
    refine ⟨-1 - nI e.2, xSI S3 0 11 (nI e.1), ?_, M3.SI (Or.inr (Or.inr (Or.inr ⟨rfl, rfl⟩))), xi h11 (Or.inl (by decide)), fun e' he => ?_, fun c2 v' he => (by cases he)⟩
    · refine xcall_intro (ls := [.ref 0, .float 0, .float 0]) q_X11_yard (by decide) rfl (Nat.le_of_ble_eq_true rfl) rfl ?_
      refine wp_aload_n dX11_yard_0 rfl rfl (g10_19 dX11_yard_1 (xsh hX sh_0) (xrr hX r0_1) (wp_aload_n dX11_yard_4 rfl rfl (g10_10 dX11_yard_5 (xsh hX sh_0) (xrr hX r0_0) (g10_104 dX11_yard_8 (xsh hX sh_1) (xrr hX r1_0) (wp_aload_n dX11_yard_11 rfl rfl (g10_10 dX11_yard_12 (xsh hX sh_0) (xrr hX r0_0) (wp_iv1 dX11_yard_15 k10_107 q_X6_take (by decide) (xsh hX sh_1) (by decide) (Nat.le_of_ble_eq_true rfl) gt (wp_iv3 dX11_yard_18 k10_111 q_X7_open (by decide) (xsh X1 sh_3) (by decide) (Nat.le_of_ble_eq_true rfl) g2 (wp_aload_n dX11_yard_21 rfl rfl (g10_40 dX11_yard_22 (xsh X2 sh_0) e5' (wp_aload_n dX11_yard_25 rfl rfl (g10_19 dX11_yard_26 (xsh X2 sh_0) (xrr X2 r0_1) (wp_ldcS dX11_yard_29 k10_133 (wp_bipush (v := nI 8) dX11_yard_31 rfl (wp_iu4 dX11_yard_33 k10_135 rfl q_X5_read (Or.inr rfl) rfl ha' (Nat.le_of_ble_eq_true rfl) g3 (wp_istore_n dX11_yard_36 ⟨Nat.le_of_ble_eq_true rfl, Or.inr rfl⟩ rfl (wp_aload_n dX11_yard_37 rfl rfl (wp_aload_n dX11_yard_38 rfl rfl (g10_19 dX11_yard_39 (xsh X3 sh_0) (xrr X3 r0_1) (gv10_121 dX11_yard_42 (xsh X3 sh_3) z1 (p10_124 dX11_yard_45 (xsh X3 sh_0) (wp_iload_n dX11_yard_48 rfl ?_))))))))))))))))))))))
      refine wp_if_ge dX11_yard_49 rfl (fun c49 => absurd c49 (by decide)) (fun c49 => ?_)
      exact wp_iconst (v := -1) dX11_yard_52 rfl (wp_aload_n dX11_yard_53 rfl rfl (g10_19 dX11_yard_54 (xsh X3 sh_0) (xrr X3 r0_1) (gv10_127 dX11_yard_57 (xsh X3 sh_3) (xi z3 (Or.inl (by decide))) (wv_isub dX11_yard_60 rfl (wp_ireturn dX11_yard_61 rfl rfl ⟨rfl, rfl⟩)))))
    · cases he
      exact ⟨rfl, xI_same _ _ _ _, e4, e5⟩
  | ok q =>
    obtain ⟨c2, v'⟩ := q
    obtain ⟨rfl, z1, V3⟩ := r3.2 c2 v' hR
    have V4 : xYdV a' b' c' (xSR (xSR (xSI S3 0 11 (nI 0)) 0 4 (some a')) 0 5 (some a)) v' := V3.fm (((xFm.rf (P := fun i k => i = 0) (R := xRyc) S3).SI rfl).SR (Or.inr ⟨rfl, Or.inl rfl⟩) |>.SR (Or.inr ⟨rfl, Or.inr rfl⟩)) (fun i k h => by omega)
    refine ⟨nI c2, xSR (xSR (xSI S3 0 11 (nI 0)) 0 4 (some a')) 0 5 (some a), ?_, ((M3.SI (Or.inr (Or.inr (Or.inr ⟨rfl, rfl⟩)))).SR (Or.inr ⟨rfl, Or.inl rfl⟩)).SR (Or.inr ⟨rfl, Or.inr rfl⟩), (xi h11 (Or.inl (by decide)) : (xSI S3 0 11 (nI 0)).2.1 1 1 = nI 0), fun e' he => (by cases he), fun c3 v2 he => ?_⟩
    · refine xcall_intro (ls := [.ref 0, .float 0, .float 0]) q_X11_yard (by decide) rfl (Nat.le_of_ble_eq_true rfl) rfl ?_
      have hc9 : c2 < 2 ^ 31 := by have := xtxt_le _ _ _ _ _ _ _ hR; omega
      refine wp_aload_n dX11_yard_0 rfl rfl (g10_19 dX11_yard_1 (xsh hX sh_0) (xrr hX r0_1) (wp_aload_n dX11_yard_4 rfl rfl (g10_10 dX11_yard_5 (xsh hX sh_0) (xrr hX r0_0) (g10_104 dX11_yard_8 (xsh hX sh_1) (xrr hX r1_0) (wp_aload_n dX11_yard_11 rfl rfl (g10_10 dX11_yard_12 (xsh hX sh_0) (xrr hX r0_0) (wp_iv1 dX11_yard_15 k10_107 q_X6_take (by decide) (xsh hX sh_1) (by decide) (Nat.le_of_ble_eq_true rfl) gt (wp_iv3 dX11_yard_18 k10_111 q_X7_open (by decide) (xsh X1 sh_3) (by decide) (Nat.le_of_ble_eq_true rfl) g2 (wp_aload_n dX11_yard_21 rfl rfl (g10_40 dX11_yard_22 (xsh X2 sh_0) e5' (wp_aload_n dX11_yard_25 rfl rfl (g10_19 dX11_yard_26 (xsh X2 sh_0) (xrr X2 r0_1) (wp_ldcS dX11_yard_29 k10_133 (wp_bipush (v := nI 8) dX11_yard_31 rfl (wp_iu4 dX11_yard_33 k10_135 rfl q_X5_read (Or.inr rfl) rfl ha' (Nat.le_of_ble_eq_true rfl) g3 (wp_istore_n dX11_yard_36 ⟨Nat.le_of_ble_eq_true rfl, Or.inr rfl⟩ rfl (wp_aload_n dX11_yard_37 rfl rfl (wp_aload_n dX11_yard_38 rfl rfl (g10_19 dX11_yard_39 (xsh X3 sh_0) (xrr X3 r0_1) (gv10_121 dX11_yard_42 (xsh X3 sh_3) z1 (p10_124 dX11_yard_45 (xsh X3 sh_0) (wp_iload_n dX11_yard_48 rfl ?_))))))))))))))))))))))
      refine wp_if_ge dX11_yard_49 rfl (fun c49 => ?_) (fun c49 => absurd c49 (not_not_intro (nI_pos' hc9)))
      exact wp_aload_n dX11_yard_62 rfl rfl (g10_36 dX11_yard_63 (xsh X3 sh_0) e4 (wp_astore_n dX11_yard_66 rfl ⟨Nat.le_of_ble_eq_true rfl, Or.inr rfl⟩ rfl (wp_aload_n dX11_yard_67 rfl rfl (wp_aload_n dX11_yard_68 rfl rfl (g10_40 dX11_yard_69 (xsh X3 sh_0) e5 (p10_36 dX11_yard_72 (xsh X3 sh_0) (wp_aload_n dX11_yard_75 rfl rfl (wp_aload_n dX11_yard_76 rfl rfl (p10_40 dX11_yard_77 (xsh (X3.SR rfl) sh_0) (wp_iload_n dX11_yard_80 rfl (wp_ireturn dX11_yard_81 rfl rfl ⟨rfl, rfl⟩)))))))))))
    · cases he
      exact ⟨rfl, (xI_same S3 0 11 (nI 0) : (xSI S3 0 11 (nI 0)).2.1 0 11 = nI 0), (xR_ne _ _ (Or.inr (by decide))).trans (xR_same _ _ _ _), xR_same _ _ _ _, V4⟩
