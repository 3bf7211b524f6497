/-! records: holdsTo of the reference, whole; isRecord, holds, explain -/
theorem hd_clr {i d : Nat} {x2 : Int32} {x4 x5 : Value} {Q : Option Value → xS → Prop} : ∀ (j x : Nat) (S : xS), x + j = 16384 → XC S → (∀ y, y < x → S.2.1 229 y = xB false) → (∀ S' y3, xFl (fun i _ => i = 229) S S' → xCm S' 229 (fun _ => false) → Wp false (d + 4) 11 cX12_holdsTo (some .int) false 75 [.ref 187, .int (nI i), .int x2, .int y3, x4, x5] [] S' Q) → Wp false (d + 4) 11 cX12_holdsTo (some .int) false 55 [.ref 187, .int (nI i), .int x2, .int (nI x), x4, x5] [] S Q := by
  intro j
  induction j with
  | zero =>
    intro x S hx hX h K
    have hxx : x = 16384 := by omega
    subst hxx
    have nx := K S (nI 16384) (xFl.rf S) h
    refine wp_iload_n dX12_holdsTo_55 rfl (wp_sipush (v := nI 16384) dX12_holdsTo_56 rfl ?_)
    refine wn_icmp_ge dX12_holdsTo_59 rfl (by omega) (by omega) (fun c59 => ?_) (fun c59 => absurd c59 (by omega))
    exact nx
  | succ j ih =>
    intro x S hx hX h K
    have F1 : xFl (fun a q => a = 229 ∧ q = x) S (xSI S 229 x (xB false)) := (xFl.rf S).SI ⟨rfl, rfl⟩
    have F2 : xFl (fun a _ => a = 229) S (xSI S 229 x (xB false)) := F1.mono (fun a q h => h.1)
    have nx := ih (x + 1) (xSI S 229 x (xB false)) (by omega) (F1.XC hX) (fun y hy => by
      rcases Decidable.em (y = x) with w | w
      · subst w; exact xI_same _ _ _ _
      · exact F1.i (h y (by omega)) (by omega)) (fun S' y1 f h => K S' y1 (F2.tt f) h)
    refine wp_iload_n dX12_holdsTo_55 rfl (wp_sipush (v := nI 16384) dX12_holdsTo_56 rfl ?_)
    refine wn_icmp_ge dX12_holdsTo_59 rfl (by omega) (by omega) (fun c59 => absurd c59 (by omega)) (fun c59 => ?_)
    exact wp_aload_n dX12_holdsTo_62 rfl rfl (g11_382 dX12_holdsTo_63 (xsh hX sh_187) (xrr hX r187_82) (wp_iload_n dX12_holdsTo_66 rfl (wp_iconst (v := nI 0) dX12_holdsTo_67 rfl (wn_zastore dX12_holdsTo_68 (xsh hX sh_229) rfl (by omega) (by decide) (show vp_nar .boolean (nI 0) = xB false from rfl) (wp_iinc dX12_holdsTo_69 rfl (nI_1 _) ⟨Nat.le_of_ble_eq_true rfl, Or.inr rfl⟩ rfl (wp_goto dX12_holdsTo_72 rfl nx))))))
theorem hd_cl0 {d : Nat} {x2 x3 x4 x5 : Value} {Q : Option Value → xS → Prop} : ∀ (j x : Nat) (S : xS), x + j = 16384 → XC S → (∀ y, y < x → S.2.1 228 y = xB false) → (∀ S' y1, xFl (fun i _ => i = 228) S S' → xCm S' 228 (fun _ => false) → Wp false (d + 4) 11 cX12_holdsTo (some .int) false 31 [.ref 187, .int y1, x2, x3, x4, x5] [] S' Q) → Wp false (d + 4) 11 cX12_holdsTo (some .int) false 11 [.ref 187, .int (nI x), x2, x3, x4, x5] [] S Q := by
  intro j
  induction j with
  | zero =>
    intro x S hx hX h K
    have hxx : x = 16384 := by omega
    subst hxx
    have nx := K S (nI 16384) (xFl.rf S) h
    refine wp_iload_n dX12_holdsTo_11 rfl (wp_sipush (v := nI 16384) dX12_holdsTo_12 rfl ?_)
    refine wn_icmp_ge dX12_holdsTo_15 rfl (by omega) (by omega) (fun c15 => ?_) (fun c15 => absurd c15 (by omega))
    exact nx
  | succ j ih =>
    intro x S hx hX h K
    have F1 : xFl (fun a q => a = 228 ∧ q = x) S (xSI S 228 x (xB false)) := (xFl.rf S).SI ⟨rfl, rfl⟩
    have F2 : xFl (fun a _ => a = 228) S (xSI S 228 x (xB false)) := F1.mono (fun a q h => h.1)
    have nx := ih (x + 1) (xSI S 228 x (xB false)) (by omega) (F1.XC hX) (fun y hy => by
      rcases Decidable.em (y = x) with w | w
      · subst w; exact xI_same _ _ _ _
      · exact F1.i (h y (by omega)) (by omega)) (fun S' y1 f h => K S' y1 (F2.tt f) h)
    refine wp_iload_n dX12_holdsTo_11 rfl (wp_sipush (v := nI 16384) dX12_holdsTo_12 rfl ?_)
    refine wn_icmp_ge dX12_holdsTo_15 rfl (by omega) (by omega) (fun c15 => absurd c15 (by omega)) (fun c15 => ?_)
    exact wp_aload_n dX12_holdsTo_18 rfl rfl (g11_379 dX12_holdsTo_19 (xsh hX sh_187) (xrr hX r187_81) (wp_iload_n dX12_holdsTo_22 rfl (wp_iconst (v := nI 0) dX12_holdsTo_23 rfl (wn_zastore dX12_holdsTo_24 (xsh hX sh_228) rfl (by omega) (by decide) (show vp_nar .boolean (nI 0) = xB false from rfl) (wp_iinc dX12_holdsTo_25 rfl (nI_1 _) ⟨Nat.le_of_ble_eq_true rfl, Or.inr rfl⟩ rfl (wp_goto dX12_holdsTo_28 rfl nx))))))
theorem hd_cpy {i d : Nat} {D : Nat → Bool} {x2 : Int32} {x4 x5 : Value} {Q : Option Value → xS → Prop} : ∀ (j x : Nat) (S : xS), x + j = 16384 → XC S → xCm S 229 D → (∀ y, y < x → S.2.1 228 y = xB (D y)) → (∀ S' y3, xFl (fun i _ => i = 228) S S' → xCm S' 228 D → Wp false (d + 4) 11 cX12_holdsTo (some .int) false 240 [.ref 187, .int (nI i), .int x2, .int y3, x4, x5] [] S' Q) → Wp false (d + 4) 11 cX12_holdsTo (some .int) false 215 [.ref 187, .int (nI i), .int x2, .int (nI x), x4, x5] [] S Q := by
  intro j
  induction j with
  | zero =>
    intro x S hx hX hD h K
    have hxx : x = 16384 := by omega
    subst hxx
    have nx := K S (nI 16384) (xFl.rf S) h
    refine wp_iload_n dX12_holdsTo_215 rfl (wp_sipush (v := nI 16384) dX12_holdsTo_216 rfl ?_)
    refine wn_icmp_ge dX12_holdsTo_219 rfl (by omega) (by omega) (fun c219 => ?_) (fun c219 => absurd c219 (by omega))
    exact nx
  | succ j ih =>
    intro x S hx hX hD h K
    have v := hD x (by omega)
    have F1 : xFl (fun a q => a = 228 ∧ q = x) S (xSI S 228 x (xB (D x))) := (xFl.rf S).SI ⟨rfl, rfl⟩
    have F2 : xFl (fun a _ => a = 228) S (xSI S 228 x (xB (D x))) := F1.mono (fun a q h => h.1)
    have nx := ih (x + 1) (xSI S 228 x (xB (D x))) (by omega) (F1.XC hX) (hD.fr F1 (fun y h => by omega)) (fun y hy => by
      rcases Decidable.em (y = x) with w | w
      · subst w; exact xI_same _ _ _ _
      · exact F1.i (h y (by omega)) (by omega)) (fun S' y1 f h => K S' y1 (F2.tt f) h)
    have hb : vp_nar .boolean (xB (D x)) = xB (D x) := by cases D x <;> rfl
    refine wp_iload_n dX12_holdsTo_215 rfl (wp_sipush (v := nI 16384) dX12_holdsTo_216 rfl ?_)
    refine wn_icmp_ge dX12_holdsTo_219 rfl (by omega) (by omega) (fun c219 => absurd c219 (by omega)) (fun c219 => ?_)
    exact wp_aload_n dX12_holdsTo_222 rfl rfl (g11_379 dX12_holdsTo_223 (xsh hX sh_187) (xrr hX r187_81) (wp_iload_n dX12_holdsTo_226 rfl (wp_aload_n dX12_holdsTo_227 rfl rfl (g11_382 dX12_holdsTo_228 (xsh hX sh_187) (xrr hX r187_82) (wp_iload_n dX12_holdsTo_231 rfl (wn_baload dX12_holdsTo_232 (xsh hX sh_229) (Or.inr rfl) (by omega) (by decide) v (wn_zastore dX12_holdsTo_233 (xsh hX sh_228) rfl (by omega) (by decide) hb (wp_iinc dX12_holdsTo_234 rfl (nI_1 _) ⟨Nat.le_of_ble_eq_true rfl, Or.inr rfl⟩ rfl (wp_goto dX12_holdsTo_237 rfl nx)))))))))
theorem ht_loop {c : xPx} {t : Nat → Nat} {n d : Nat} (ho : xzo c) (ha : xzal c = true) (h8 : xgH (xzg c) ≤ 8) : ∀ (j i : Nat) (S : xS) (B : Nat → Bool) (y2 y3 y4 y5 : Value), i + j = n → XC S → xMpd S c 0 → xTn S n t (xgP (xzg c)) → xCm S 228 B → (∀ y, B y = true ↔ ∃ m s, y = xqt c m s i ∧ xrch c t i m s) → (∀ q, q < i → xmtc c t q) → Wp false (d + 4) 11 cX12_holdsTo (some .int) false 43 [.ref 187, .int (nI i), y2, y3, y4, y5] [] S (fun r S' => ∃ v, r = some (.int (nI v)) ∧ v ≤ n ∧ xFl (fun i q => (i = 187 ∧ 61 ≤ q ∧ q ≤ 70) ∨ i = 216 ∨ i = 228 ∨ i = 229) S S' ∧ (∀ q, q < v → xmtc c t q) ∧ (v < n → ¬ xmtc c t v)) := by
  intro j
  induction j with
  | zero =>
    intro i S B y2 y3 y4 y5 hi hX hD hT hC hB hq
    have hii : i = n := by omega
    subst hii
    have k3 := hT.2.1
    have h260 := hT.1
    have fin : ∃ v, some (Value.int (nI i)) = some (.int (nI v)) ∧ v ≤ i ∧ xFl (fun i q => (i = 187 ∧ 61 ≤ q ∧ q ≤ 70) ∨ i = 216 ∨ i = 228 ∨ i = 229) S S ∧ (∀ q, q < v → xmtc c t q) ∧ (v < i → ¬ xmtc c t v) := ⟨i, rfl, Nat.le_refl _, xFl.rf S, hq, fun h => absurd h (Nat.lt_irrefl i)⟩
    refine wp_iload_n dX12_holdsTo_43 rfl (wp_aload_n dX12_holdsTo_44 rfl rfl (gv11_18 dX12_holdsTo_45 (xsh hX sh_187) k3 ?_))
    refine wn_icmp_ge dX12_holdsTo_48 rfl (by omega) (by omega) (fun c48 => ?_) (fun c48 => absurd c48 (by omega))
    exact wp_aload_n dX12_holdsTo_246 rfl rfl (gv11_18 dX12_holdsTo_247 (xsh hX sh_187) k3 (wp_ireturn dX12_holdsTo_250 rfl rfl fin))
  | succ j ih =>
    intro i S B y2 y3 y4 y5 hi hX hD hT hC hB hq
    have k3 := hT.2.1
    have h260 := hT.1
    have hin : i < n := by omega
    have lp := hd_clr (d := d) (i := i) (x2 := xB false) (x4 := y4) (x5 := y5) (Q := (fun r S' => ∃ v, r = some (.int (nI v)) ∧ v ≤ n ∧ xFl (fun i q => (i = 187 ∧ 61 ≤ q ∧ q ≤ 70) ∨ i = 216 ∨ i = 228 ∨ i = 229) S S' ∧ (∀ q, q < v → xmtc c t q) ∧ (v < n → ¬ xmtc c t v))) 16384 0 S (Nat.zero_add _) hX (fun y h => absurd h (Nat.not_lt_zero y)) (fun S1 y3 f1 hC1 => by
      have X1 := f1.XC hX
      have C1 := hC.fr f1 (fun x h => by omega)
      have T1 := hT.fr f1 (fun i q h => by omega)
      have D1 := hD.fr ho f1 (fun i q h => by omega)
      have TT1 : xTT S1 false c i (xTl c t i 64 0) := by
        refine ⟨⟨fun h => (by cases h), fun h => ?_⟩, _, hC1, fun y => ⟨fun h => (by cases h), fun h => ?_⟩⟩
        · obtain ⟨m, s, a, h1, h2, h3, h4⟩ := h
          have := ((xrch_gd ho i m s h1).b ho h8).2.2.2.2
          omega
        · obtain ⟨m, s, a, ⟨h1, h2, h3, h4⟩, _⟩ := h
          have := ((xrch_gd ho i m s h1).b ho h8).2.2.2.2
          omega
      have lp := hd_loop (d := d) ho ha h8 hin hB (Q := (fun r S' => ∃ v, r = some (.int (nI v)) ∧ v ≤ n ∧ xFl (fun i q => (i = 187 ∧ 61 ≤ q ∧ q ≤ 70) ∨ i = 216 ∨ i = 228 ∨ i = 229) S S' ∧ (∀ q, q < v → xmtc c t q) ∧ (v < n → ¬ xmtc c t v))) 16320 64 S1 false y4 y5 rfl X1 D1 T1 C1 TT1 (fun S2 b' y4 y5 f2 TT2 => by
        have FF : xFl (fun i q => (i = 187 ∧ 61 ≤ q ∧ q ≤ 70) ∨ i = 216 ∨ i = 228 ∨ i = 229) S S2 := (f1.mono (fun i q h => by omega)).tt (f2.mono (fun i q h => by omega))
        have X2 := FF.XC hX
        obtain ⟨hb, D, hD2, hD3⟩ := TT2
        have all : ∀ m s a, (xrch c t i m s ∧ a < xzw c i ∧ xow (xgf (xzg c)) (xzh c 0 m s i a) = t i) ↔ xTl c t i 16384 0 m s a := fun m s a => ⟨fun h => ⟨h.1, h.2.1, h.2.2, Or.inl ((xrch_gd ho i m s h.1).b ho h8).2.2.2.1⟩, fun h => ⟨h.1, h.2.1, h.2.2.1⟩⟩
        have hbm : b' = true ↔ xmtc c t i := hb.trans ⟨fun ⟨m, s, a, h⟩ => ⟨m, s, a, (all m s a).mpr h⟩, fun ⟨m, s, a, h⟩ => ⟨m, s, a, (all m s a).mp h⟩⟩
        cases b' with
        | false =>
          have hno : ¬ xmtc c t i := fun h => by have := hbm.mpr h; cases this
          have fin : ∃ v, some (Value.int (nI i)) = some (.int (nI v)) ∧ v ≤ n ∧ xFl (fun i q => (i = 187 ∧ 61 ≤ q ∧ q ≤ 70) ∨ i = 216 ∨ i = 228 ∨ i = 229) S S2 ∧ (∀ q, q < v → xmtc c t q) ∧ (v < n → ¬ xmtc c t v) := ⟨i, rfl, by omega, FF, hq, fun _ => hno⟩
          refine wp_iload_n dX12_holdsTo_207 rfl ?_
          refine wb_if_ne dX12_holdsTo_208 rfl (fun c208 => absurd c208 (by decide)) (fun c208 => ?_)
          exact wp_iload_n dX12_holdsTo_211 rfl (wp_ireturn dX12_holdsTo_212 rfl rfl fin)
        | true =>
          have hyes := hbm.mp rfl
          have lp := hd_cpy (d := d) (i := i) (x2 := xB true) (x4 := y4) (x5 := y5) (D := D) (Q := (fun r S' => ∃ v, r = some (.int (nI v)) ∧ v ≤ n ∧ xFl (fun i q => (i = 187 ∧ 61 ≤ q ∧ q ≤ 70) ∨ i = 216 ∨ i = 228 ∨ i = 229) S S' ∧ (∀ q, q < v → xmtc c t q) ∧ (v < n → ¬ xmtc c t v))) 16384 0 S2 (Nat.zero_add _) X2 hD2 (fun y h => absurd h (Nat.not_lt_zero y)) (fun S3 y3 f3 hC3 => by
            have F3 : xFl (fun i q => (i = 187 ∧ 61 ≤ q ∧ q ≤ 70) ∨ i = 216 ∨ i = 228 ∨ i = 229) S S3 := FF.tt (f3.mono (fun i q h => by omega))
            have X3 := F3.XC hX
            have nx := (ih (i + 1) S3 D (.int (xB true)) (.int y3) y4 y5 (by omega) X3 (hD.fr ho F3 (fun i q h => by omega)) (hT.fr F3 (fun i q h => by omega)) hC3 (fun y => (hD3 y).trans ⟨fun ⟨m, s, a, h1, h2, h3⟩ => ⟨_, _, h3, m, s, a, h1.1, h1.2.1, h1.2.2.1, h2, rfl, rfl⟩, fun ⟨m', s', h1, m, s, a, h2, h3, h4, h5, h6, h7⟩ => ⟨m, s, a, (all m s a).mp ⟨h2, h3, h4⟩, h5, by rw [h1, h6, h7]⟩⟩) (fun q h => by
              rcases Nat.lt_or_ge q i with w | w
              · exact hq q w
              · rw [show q = i by omega]; exact hyes)).mono (Q' := (fun r S' => ∃ v, r = some (.int (nI v)) ∧ v ≤ n ∧ xFl (fun i q => (i = 187 ∧ 61 ≤ q ∧ q ≤ 70) ∨ i = 216 ∨ i = 228 ∨ i = 229) S S' ∧ (∀ q, q < v → xmtc c t q) ∧ (v < n → ¬ xmtc c t v))) (fun r S' z => by
              obtain ⟨v, z1, z2, z3, z4⟩ := z
              exact ⟨v, z1, z2, F3.tt z3, z4⟩)
            exact wp_iinc dX12_holdsTo_240 rfl (nI_1 _) ⟨Nat.le_of_ble_eq_true rfl, Or.inr rfl⟩ rfl (wp_goto dX12_holdsTo_243 rfl nx))
          refine wp_iload_n dX12_holdsTo_207 rfl ?_
          refine wb_if_ne dX12_holdsTo_208 rfl (fun c208 => ?_) (fun c208 => absurd c208 (by decide))
          exact wp_iconst (v := nI 0) dX12_holdsTo_213 rfl (wp_istore_n dX12_holdsTo_214 ⟨Nat.le_of_ble_eq_true rfl, Or.inr rfl⟩ rfl lp))
      exact wp_bipush (v := nI 64) dX12_holdsTo_75 rfl (wp_istore_n dX12_holdsTo_77 ⟨Nat.le_of_ble_eq_true rfl, Or.inr rfl⟩ rfl lp))
    refine wp_iload_n dX12_holdsTo_43 rfl (wp_aload_n dX12_holdsTo_44 rfl rfl (gv11_18 dX12_holdsTo_45 (xsh hX sh_187) k3 ?_))
    refine wn_icmp_ge dX12_holdsTo_48 rfl (by omega) (by omega) (fun c48 => absurd c48 (by omega)) (fun c48 => ?_)
    exact wp_iconst (v := nI 0) dX12_holdsTo_51 rfl (wp_istore_n dX12_holdsTo_52 ⟨Nat.le_of_ble_eq_true rfl, Or.inr rfl⟩ rfl (wp_iconst (v := nI 0) dX12_holdsTo_53 rfl (wp_istore_n dX12_holdsTo_54 ⟨Nat.le_of_ble_eq_true rfl, Or.inr rfl⟩ rfl lp)))
theorem m_holdsTo {c : xPx} {t : Nat → Nat} {n : Nat} (d : Nat) (ho : xzo c) (ha : xzal c = true) (h8 : xgH (xzg c) ≤ 8) {S : xS} (hX : XC S) (hD : xMpd S c 0) (hT : xTn S n t (xgP (xzg c))) : ∃ v S', xcall false (d + 4) j_X12_holdsTo [.ref 187] S (some (.int (nI v))) S' ∧ xFl (fun i q => (i = 187 ∧ 61 ≤ q ∧ q ≤ 70) ∨ i = 216 ∨ i = 228 ∨ i = 229) S S' ∧ v ≤ n ∧ xHT c t n v := by
  have g0 := xgd_0 ho
  have hq0 := (g0.b ho h8).2.2.2.1
  have go := m_isOverAtFirst (d + 3) ho hX (hD.2.2.2.2.2.2.2.1.1 2 (by decide)) (hD.2.2.2.2.2.2.2.1.1 5 (by decide)) hD.2.2.2.2.2.2.2.2.1
  cases hov : xovr (xzg c) (2 ^ xgH (xzg c) - 1) with
  | true =>
    rw [hov] at go
    refine ⟨0, S, ?_, xFl.rf S, Nat.zero_le _, Or.inl ⟨hov, rfl⟩⟩
    refine xcall_intro (ls := [.ref 187, .float 0, .float 0, .float 0, .float 0, .float 0]) q_X12_holdsTo (by decide) rfl (Nat.le_of_ble_eq_true rfl) rfl ?_
    refine wp_aload_n dX12_holdsTo_0 rfl rfl (wp_iv1 dX12_holdsTo_1 k11_458 q_X12_isOverAtFirst (by decide) (xsh hX sh_187) (by decide) (Nat.le_of_ble_eq_true rfl) go ?_)
    refine wb_if_eq dX12_holdsTo_4 rfl (fun c4 => absurd c4 (by decide)) (fun c4 => ?_)
    exact wp_iconst (v := nI 0) dX12_holdsTo_7 rfl (wp_ireturn dX12_holdsTo_8 rfl rfl ⟨rfl, rfl⟩)
  | false =>
    rw [hov] at go
    have lp := hd_cl0 (d := d) (x2 := .float 0) (x3 := .float 0) (x4 := .float 0) (x5 := .float 0) (Q := (fun r S' => ∃ v, r = some (.int (nI v)) ∧ v ≤ n ∧ xFl (fun i q => (i = 187 ∧ 61 ≤ q ∧ q ≤ 70) ∨ i = 216 ∨ i = 228 ∨ i = 229) S S' ∧ (∀ q, q < v → xmtc c t q) ∧ (v < n → ¬ xmtc c t v))) 16384 0 S (Nat.zero_add _) hX (fun y h => absurd h (Nat.not_lt_zero y)) (fun S1 y1 f1 hC1 => by
      have X1 := f1.XC hX
      have D1 := hD.fr ho f1 (fun i q h => by omega)
      have gb := m_begin (d + 2) ho X1 D1.1
      have F2 : xFl (fun i q => (i = 187 ∧ 61 ≤ q ∧ q ≤ 70) ∨ i = 216 ∨ i = 228 ∨ i = 229) S (xSI S1 228 (xqt c (2 ^ xgH (xzg c) - 1) 0 0) (xB true)) := (f1.mono (Q := (fun i q => (i = 187 ∧ 61 ≤ q ∧ q ≤ 70) ∨ i = 216 ∨ i = 228 ∨ i = 229)) (fun i q h => by omega)).SI (by omega)
      have X2 := F2.XC hX
      have nx := (ht_loop (d := d) ho ha h8 n 0 _ _ (.float 0) (.float 0) (.float 0) (.float 0) (Nat.zero_add _) X2 (hD.fr ho F2 (fun i q h => by omega)) (hT.fr F2 (fun i q h => by omega)) hC1.set (fun y => by
        show (false || decide (y = xqt c (2 ^ xgH (xzg c) - 1) 0 0)) = true ↔ _
        rw [Bool.false_or, decide_eq_true_eq]
        exact ⟨fun h => ⟨_, _, h, rfl, rfl⟩, fun ⟨m, s, h1, h2, h3⟩ => by rw [h1, h2, h3]⟩) (fun q h => absurd h (Nat.not_lt_zero q))).mono (Q' := (fun r S' => ∃ v, r = some (.int (nI v)) ∧ v ≤ n ∧ xFl (fun i q => (i = 187 ∧ 61 ≤ q ∧ q ≤ 70) ∨ i = 216 ∨ i = 228 ∨ i = 229) S S' ∧ (∀ q, q < v → xmtc c t q) ∧ (v < n → ¬ xmtc c t v))) (fun r S' z => by
        obtain ⟨v, z1, z2, z3, z4⟩ := z
        exact ⟨v, z1, z2, F2.tt z3, z4⟩)
      exact wp_aload_n dX12_holdsTo_31 rfl rfl (g11_379 dX12_holdsTo_32 (xsh X1 sh_187) (xrr X1 r187_81) (wp_aload_n dX12_holdsTo_35 rfl rfl (wp_iv1 dX12_holdsTo_36 k11_485 q_X12_begin (by decide) (xsh X1 sh_187) (by decide) (Nat.le_of_ble_eq_true rfl) gb (wp_iconst (v := nI 1) dX12_holdsTo_39 rfl (wn_zastore dX12_holdsTo_40 (xsh X1 sh_228) rfl (by omega) (by decide) (show vp_nar .boolean (nI 1) = xB true from rfl) (wp_iconst (v := nI 0) dX12_holdsTo_41 rfl (wp_istore_n dX12_holdsTo_42 ⟨Nat.le_of_ble_eq_true rfl, Or.inr rfl⟩ rfl nx))))))))
    obtain ⟨r, S', g3, v, rfl, z1, z2, z3, z4⟩ := xcall_some (al := false) (d := d + 4) (ls := [.ref 187, .float 0, .float 0, .float 0, .float 0, .float 0]) (S := S) (as := [.ref 187]) q_X12_holdsTo (by decide) rfl (Nat.le_of_ble_eq_true rfl) rfl (P := (fun r S' => ∃ v, r = some (.int (nI v)) ∧ v ≤ n ∧ xFl (fun i q => (i = 187 ∧ 61 ≤ q ∧ q ≤ 70) ∨ i = 216 ∨ i = 228 ∨ i = 229) S S' ∧ (∀ q, q < v → xmtc c t q) ∧ (v < n → ¬ xmtc c t v))) (by
        refine wp_aload_n dX12_holdsTo_0 rfl rfl (wp_iv1 dX12_holdsTo_1 k11_458 q_X12_isOverAtFirst (by decide) (xsh hX sh_187) (by decide) (Nat.le_of_ble_eq_true rfl) go ?_)
        refine wb_if_eq dX12_holdsTo_4 rfl (fun c4 => ?_) (fun c4 => absurd c4 (by decide))
        exact wp_iconst (v := nI 0) dX12_holdsTo_9 rfl (wp_istore_n dX12_holdsTo_10 ⟨Nat.le_of_ble_eq_true rfl, Or.inr rfl⟩ rfl lp))
    exact ⟨v, S', g3, z2, z1, Or.inr ⟨hov, z1, z3, z4⟩⟩
