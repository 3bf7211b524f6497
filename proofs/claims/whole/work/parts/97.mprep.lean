/-! the reference makes a PLAY ready: prepare -/
theorem xof_mono {α : Type} (f : xLn → List α) (L : List xLn) : ∀ (b a : Nat), a ≤ b → b ≤ L.length → xof f L a ≤ xof f L b
  | 0, a, h, _ => by rw [show a = 0 by omega]; exact Nat.le_refl _
  | b + 1, a, h, hb => by
    rcases Nat.lt_or_ge b a with w | w
    · rw [show a = b + 1 by omega]; exact Nat.le_refl _
    · have h1 := xof_mono f L b a w (by omega)
      have h2 := xof_succ f L b (by omega)
      omega
/-- a slot's rhyme weighed, in the reference -/
def xSw (S : xS) (σ : xSv) (tv : xTg) (bt : Bool) (s : Nat) : Prop := ∀ n t L, σ s = some (n, t, L) → (∀ l, l < L.length → xLw S s (xct tv t bt) L l) ∧ S.2.1 218 s = xB (xask L)
def xFs (s i q : Nat) : Prop := (i = 213 ∧ 122 * s ≤ q ∧ q < 122 * s + 122) ∨ ((i = 214 ∨ i = 217) ∧ 17 * s ≤ q ∧ q < 17 * s + 17) ∨ (i = 218 ∧ q = s)
def xWMo (S : xS) (l : List (List Nat)) : Prop := xWM 1700 196 S l ∧ S.2.1 187 30 = nI l.length ∧ 1 ≤ l.length ∧ l.length ≤ 12 ∧ xWl l
theorem xWMo.fr {S S' : xS} {l : List (List Nat)} {P : Nat → Nat → Prop} (h : xWMo S l) (hf : xFl P S S') (hn : ∀ i k, ((i = 187 ∧ k = 30) ∨ i = 195 ∨ i = 196) → ¬ P i k) : xWMo S' l := ⟨fun q hq => ⟨hf.i (h.1 q hq).1 (hn _ _ (by omega)), fun k hk => hf.i ((h.1 q hq).2 k hk) (hn _ _ (by omega))⟩, hf.i h.2.1 (hn _ _ (by omega)), h.2.2⟩
theorem xSw.fr {S S' : xS} {σ : xSv} {tv : xTg} {bt : Bool} {s : Nat} {P : Nat → Nat → Prop} (h : xSw S σ tv bt s) (hf : xFl P S S') (hok : ∀ n t L, σ s = some (n, t, L) → (L.flatMap xmit).length ≤ 121 ∧ L.length ≤ 16) (hn : ∀ i q, xFs s i q → ¬ P i q) : xSw S' σ tv bt s := by
  intro n t L e
  obtain ⟨h1, h2⟩ := h n t L e
  obtain ⟨o1, o2⟩ := hok n t L e
  refine ⟨fun l hl => (h1 l hl).fr hf (fun q hq => hn _ _ (Or.inl ⟨rfl, by omega, ?_⟩)) (hn _ _ (Or.inr (Or.inl ⟨Or.inl rfl, by omega, by omega⟩))) (hn _ _ (Or.inr (Or.inl ⟨Or.inr rfl, by omega, by omega⟩))), hf.i h2 (hn _ _ (Or.inr (Or.inr ⟨rfl, rfl⟩)))⟩
  have := (xof_ltf xmit (0, 0, 0) hl hq).1
  omega
theorem pr_names {l : List (List Nat)} {v : xTg} {y : xYd} {d : Nat} {Q : Option Value → xS → Prop} : ∀ (j i : Nat) (S : xS), i + j = l.length → XC S → xWMo S l → xTgM S v → xYdM S y → (∀ q, q < i → S.2.1 215 q = nI (if xbts y = true then xwB v (l.getD q []) else 1)) → (∀ S' y1, xFl (fun i _ => i = 215) S S' → (∀ q, q < l.length → S'.2.1 215 q = nI (if xbts y = true then xwB v (l.getD q []) else 1)) → Wp false (d + 4) 11 cX12_prepare (some .boolean) false 81 [.ref 187, y1, .float 0, .float 0] [] S' Q) → Wp false (d + 4) 11 cX12_prepare (some .boolean) false 29 [.ref 187, .int (nI i), .float 0, .float 0] [] S Q := by
  intro j
  induction j with
  | zero =>
    intro i S hi hX hW hT hY h K
    have kp := hW.2.1
    have h12 := hW.2.2.2.1
    have hii : i = l.length := by omega
    subst hii
    refine wp_iload_n dX12_prepare_29 rfl (wp_aload_n dX12_prepare_30 rfl rfl (gv11_183 dX12_prepare_31 (xsh hX sh_187) kp ?_))
    refine wn_icmp_ge dX12_prepare_34 rfl (by omega) (by omega) (fun c34 => ?_) (fun c34 => absurd c34 (by omega))
    exact K S _ (xFl.rf S) h
  | succ j ih =>
    intro i S hi hX hW hT hY h K
    have kp := hW.2.1
    have h12 := hW.2.2.2.1
    have y0 := hY.1 0 (by decide)
    have yb : y.1 0 ≤ 1 := hY.2.2.2.2.1 0 (by decide)
    obtain ⟨w1, w2⟩ := hW.1 i (by omega)
    obtain ⟨c1', c2', c3'⟩ := hW.2.2.2.2 _ (xmem_getD (d := []) (show i < l.length by omega))
    have gb := m_beatsOf (s := 1700 + 12 * i) (n := (l.getD i []).length) (w := fun k => (l.getD i []).getD k 0) (d + 2) hX (by omega) (by omega) (fun k hk => ⟨c3' _ (xmem_getD (d := 0) hk), w2 k hk⟩) hT
    have F1 : xFl (fun i' q => i' = 215 ∧ q = i) S (xSI S 215 i (nI (if xbts y = true then xwB v (l.getD i []) else 1))) := (xFl.rf S).SI ⟨rfl, rfl⟩
    have ih2 := ih (i + 1) _ (by omega) (F1.XC hX) (hW.fr F1 (fun i k h => by omega)) (hT.fr F1 (fun q h => by omega) (fun a q h => by omega)) (hY.fr F1 (fun i q h => by omega)) (fun q hq => by
      rcases Nat.lt_or_ge q i with w | w
      · exact F1.i (h q w) (by omega)
      · rw [show q = i by omega]; exact xI_same _ _ _ _) (fun S' y1 f h' => K S' y1 ((F1.mono (fun i k h => h.1)).tt f) h')
    rcases Decidable.em (y.1 0 = 1) with w | w
    · rw [if_pos (show xbts y = true from decide_eq_true w)] at ih2
      refine wp_iload_n dX12_prepare_29 rfl (wp_aload_n dX12_prepare_30 rfl rfl (gv11_183 dX12_prepare_31 (xsh hX sh_187) kp ?_))
      refine wn_icmp_ge dX12_prepare_34 rfl (by omega) (by omega) (fun c34 => absurd c34 (by omega)) (fun c34 => ?_)
      refine wp_aload_n dX12_prepare_37 rfl rfl (g11_339 dX12_prepare_38 (xsh hX sh_187) (xrr hX r187_54) (wp_iload_n dX12_prepare_41 rfl (wp_aload_n dX12_prepare_42 rfl rfl (g11_272 dX12_prepare_43 (xsh hX sh_187) (xrr hX r187_45) (wp_iconst (v := nI 0) dX12_prepare_46 rfl (wn_iaload dX12_prepare_47 (xsh hX sh_208) rfl (by omega) (by decide) y0 (wp_iconst (v := nI 1) dX12_prepare_48 rfl ?_)))))))
      refine wn_icmp_ne dX12_prepare_49 rfl (by omega) (by omega) (fun c49 => absurd c49 (by omega)) (fun c49 => ?_)
      exact wp_aload_n dX12_prepare_52 rfl rfl (wp_sipush (v := nI 1700) dX12_prepare_53 rfl (wp_bipush (v := nI 12) dX12_prepare_56 rfl (wp_iload_n dX12_prepare_58 rfl (wv_imul dX12_prepare_59 (pk_mul _ _) (wv_iadd dX12_prepare_60 (nI_add _ _) (wp_aload_n dX12_prepare_61 rfl rfl (g11_176 dX12_prepare_62 (xsh hX sh_187) (xrr hX r187_28) (wp_iload_n dX12_prepare_65 rfl (wn_iaload dX12_prepare_66 (xsh hX sh_196) rfl (by omega) (by decide) w1 (wp_iv3 dX12_prepare_67 k11_166 q_X12_beatsOf (by decide) (xsh hX sh_187) (by decide) (Nat.le_of_ble_eq_true rfl) gb (wp_goto dX12_prepare_70 rfl (wn_iastore dX12_prepare_74 (xsh hX sh_215) rfl (by omega) (by decide) (wp_iinc dX12_prepare_75 rfl (nI_1 _) ⟨Nat.le_of_ble_eq_true rfl, Or.inr rfl⟩ rfl (wp_goto dX12_prepare_78 rfl ih2))))))))))))))
    · rw [if_neg (show ¬ xbts y = true from fun q => w (of_decide_eq_true q))] at ih2
      refine wp_iload_n dX12_prepare_29 rfl (wp_aload_n dX12_prepare_30 rfl rfl (gv11_183 dX12_prepare_31 (xsh hX sh_187) kp ?_))
      refine wn_icmp_ge dX12_prepare_34 rfl (by omega) (by omega) (fun c34 => absurd c34 (by omega)) (fun c34 => ?_)
      refine wp_aload_n dX12_prepare_37 rfl rfl (g11_339 dX12_prepare_38 (xsh hX sh_187) (xrr hX r187_54) (wp_iload_n dX12_prepare_41 rfl (wp_aload_n dX12_prepare_42 rfl rfl (g11_272 dX12_prepare_43 (xsh hX sh_187) (xrr hX r187_45) (wp_iconst (v := nI 0) dX12_prepare_46 rfl (wn_iaload dX12_prepare_47 (xsh hX sh_208) rfl (by omega) (by decide) y0 (wp_iconst (v := nI 1) dX12_prepare_48 rfl ?_)))))))
      refine wn_icmp_ne dX12_prepare_49 rfl (by omega) (by omega) (fun c49 => ?_) (fun c49 => absurd c49 (by omega))
      exact wp_iconst (v := nI 1) dX12_prepare_73 rfl (wn_iastore dX12_prepare_74 (xsh hX sh_215) rfl (by omega) (by decide) (wp_iinc dX12_prepare_75 rfl (nI_1 _) ⟨Nat.le_of_ble_eq_true rfl, Or.inr rfl⟩ rfl (wp_goto dX12_prepare_78 rfl ih2)))
theorem pr_lines {n s k d : Nat} {t : Nat → Nat} {L : List xLn} {v : xTg} {y : xYd} (hs : s < 6) (ok : xRok t n L) (hn : n ≤ 240) (h121 : (L.flatMap xmit).length ≤ 121) (h16 : L.length ≤ 16) {Q : Option Value → xS → Prop} : ∀ (j l : Nat) (S : xS), l + j = L.length → XC S → xRM s S n t L → xTgM S v → xYdM S y → ((∀ q, q < l → xLw S s (xct v t (xbts y)) L q) ∧ S.2.1 218 s = xB (((L.take l).flatMap xmit).any xk4)) → (∀ S' y3, xFl (fun i q => xFs s i q) S S' → ((∀ q, q < L.length → xLw S' s (xct v t (xbts y)) L q) ∧ S'.2.1 218 s = xB (((L.take L.length).flatMap xmit).any xk4)) → Wp false (d + 4) 11 cX12_prepare (some .boolean) false 139 [.ref 187, .int (nI k), .int (nI s), y3] [] S' Q) → Wp false (d + 4) 11 cX12_prepare (some .boolean) false 117 [.ref 187, .int (nI k), .int (nI s), .int (nI l)] [] S Q := by
  intro j
  induction j with
  | zero =>
    intro l S hl hX hM hT hY h K
    have k1 := hM.2.2.2.2
    have hll : l = L.length := by omega
    subst hll
    refine wp_iload_n dX12_prepare_117 rfl (wp_aload_n dX12_prepare_118 rfl rfl (g11_222 dX12_prepare_119 (xsh hX sh_187) (xrr hX r187_37) (wp_iload_n dX12_prepare_122 rfl (wn_iaload dX12_prepare_123 (xsh hX sh_203) rfl (by omega) (by decide) k1 ?_))))
    refine wn_icmp_ge dX12_prepare_124 rfl (by omega) (by omega) (fun c124 => ?_) (fun c124 => absurd c124 (by omega))
    exact K S _ (xFl.rf S) h
  | succ j ih =>
    intro l S hl hX hM hT hY h K
    have k1 := hM.2.2.2.2
    have hl' : l < L.length := by omega
    obtain ⟨S1, g1, f1, w1, w2⟩ := m_weigh (l := l) hs ok hn h121 hl' h16 (d + 0) hX hM hT hY h.2
    have hle := xof_le xmit L (l + 1)
    have hsu := xof_succ xmit L l hl'
    have F1 : xFl (fun i q => xFs s i q) S S1 := f1.mono (fun i q h => by
      rcases h with h | h | h
      · exact Or.inl ⟨h.1, by omega, by omega⟩
      · exact Or.inr (Or.inl ⟨h.1, by omega, by omega⟩)
      · exact Or.inr (Or.inr h))
    have ih2 := ih (l + 1) S1 (by omega) (f1.XC hX) (hM.fr f1 (fun i q h => by omega)) (hT.fr f1 (fun q h => by omega) (fun a q h => by omega)) (hY.fr f1 (fun i q h => by omega)) ⟨fun q hq => by
        rcases Nat.lt_or_ge q l with w | w
        · have hmo := xof_mono xmit L l (q + 1) (by omega) (by omega)
          have hsq := xof_succ xmit L q (by omega)
          exact (h.1 q w).fr f1 (fun e he => by omega) (by omega) (by omega)
        · rw [show q = l by omega]; exact w1, by
        rw [w2, xof_tk xmit L l hl', List.any_append]⟩ (fun S' y3 f h' => K S' y3 (F1.tt f) h')
    refine wp_iload_n dX12_prepare_117 rfl (wp_aload_n dX12_prepare_118 rfl rfl (g11_222 dX12_prepare_119 (xsh hX sh_187) (xrr hX r187_37) (wp_iload_n dX12_prepare_122 rfl (wn_iaload dX12_prepare_123 (xsh hX sh_203) rfl (by omega) (by decide) k1 ?_))))
    refine wn_icmp_ge dX12_prepare_124 rfl (by omega) (by omega) (fun c124 => absurd c124 (by omega)) (fun c124 => ?_)
    exact wp_aload_n dX12_prepare_127 rfl rfl (wp_iload_n dX12_prepare_128 rfl (wp_iload_n dX12_prepare_129 rfl (wp_iv3 dX12_prepare_130 k11_394 q_X12_weigh (by decide) (xsh hX sh_187) (by decide) (Nat.le_of_ble_eq_true rfl) g1 (wp_iinc dX12_prepare_133 rfl (nI_1 _) ⟨Nat.le_of_ble_eq_true rfl, Or.inr rfl⟩ rfl (wp_goto dX12_prepare_136 rfl ih2)))))
theorem pr_slots {U : List Nat} {σ : xSv} {v : xTg} {y : xYd} {d : Nat} (hU : U.length ≤ 4) (h6 : ∀ x ∈ U, x < 6) : ∀ (j k : Nat) (S : xS) (y2 y3 : Value), k + j = U.length → XC S → xMl S σ → xTgM S v → xYdM S y → (S.2.1 187 58 = nI U.length ∧ ∀ q, q < U.length → S.2.1 212 q = nI (U.getD q 0)) → (∀ q, q < k → xSw S σ v (xbts y) (U.getD q 0)) → Wp false (d + 4) 11 cX12_prepare (some .boolean) false 83 [.ref 187, .int (nI k), y2, y3] [] S (fun r S' => r = some (.int (xB ((U.drop k).all (fun s => (σ s).isSome)))) ∧ xFl (fun i _ => i = 213 ∨ i = 214 ∨ i = 217 ∨ i = 218) S S' ∧ (((U.drop k).all (fun s => (σ s).isSome)) = true → (∀ q, q < U.length → xSw S' σ v (xbts y) (U.getD q 0)))) := by
  intro j
  induction j with
  | zero =>
    intro k S y2 y3 hk hX hM hT hY hu h
    have ku := hu.1
    have hkk : k = U.length := by omega
    subst hkk
    rw [List.drop_length, List.all_nil]
    refine wp_iload_n dX12_prepare_83 rfl (wp_aload_n dX12_prepare_84 rfl rfl (gv11_385 dX12_prepare_85 (xsh hX sh_187) ku ?_))
    refine wn_icmp_ge dX12_prepare_88 rfl (by omega) (by omega) (fun c88 => ?_) (fun c88 => absurd c88 (by omega))
    exact wp_iconst (v := nI 1) dX12_prepare_145 rfl (wb_ret dX12_prepare_146 rfl rfl ⟨rfl, xFl.rf S, fun _ => h⟩)
  | succ j ih =>
    intro k S y2 y3 hk hX hM hT hY hu h
    have ku := hu.1
    have vu := hu.2 k (by omega)
    have hs := h6 _ (xmem_getD (d := 0) (show k < U.length by omega))
    have gh := m_has_n (k := U.getD k 0) (d + 3) hs hX hM
    have ed := xdrop_s 0 U k (by omega)
    rw [ed, List.all_cons]
    cases e : σ (U.getD k 0) with
    | none =>
      rw [e] at gh
      show Wp _ _ _ _ _ _ _ _ _ _ (fun r S' => r = some (.int (xB false)) ∧ xFl (fun i _ => i = 213 ∨ i = 214 ∨ i = 217 ∨ i = 218) S S' ∧ (false = true → (∀ q, q < U.length → xSw S' σ v (xbts y) (U.getD q 0))))
      refine wp_iload_n dX12_prepare_83 rfl (wp_aload_n dX12_prepare_84 rfl rfl (gv11_385 dX12_prepare_85 (xsh hX sh_187) ku ?_))
      refine wn_icmp_ge dX12_prepare_88 rfl (by omega) (by omega) (fun c88 => absurd c88 (by omega)) (fun c88 => ?_)
      refine wp_aload_n dX12_prepare_91 rfl rfl (g11_330 dX12_prepare_92 (xsh hX sh_187) (xrr hX r187_51) (wp_iload_n dX12_prepare_95 rfl (wn_iaload dX12_prepare_96 (xsh hX sh_212) rfl (by omega) (by decide) vu (wp_istore_n dX12_prepare_97 ⟨Nat.le_of_ble_eq_true rfl, Or.inr rfl⟩ rfl (wp_aload_n dX12_prepare_98 rfl rfl (wp_iload_n dX12_prepare_99 rfl (wp_iv2 dX12_prepare_100 k11_231 q_X12_has (by decide) (xsh hX sh_187) (by decide) (Nat.le_of_ble_eq_true rfl) gh ?_)))))))
      refine wb_if_ne dX12_prepare_103 rfl (fun c103 => absurd c103 (fun h => by cases h)) (fun c103 => ?_)
      exact wp_iconst (v := nI 0) dX12_prepare_106 rfl (wb_ret dX12_prepare_107 rfl rfl ⟨rfl, xFl.rf S, fun h => by cases h⟩)
    | some x =>
      obtain ⟨n, t, L⟩ := x
      rw [e] at gh
      obtain ⟨M, ok, hn, h16, h121⟩ := (hM _ hs).2 n t L e
      have F1 : xFl (fun i q => i = 218 ∧ q = U.getD k 0) S (xSI S 218 (U.getD k 0) (xB false)) := (xFl.rf S).SI ⟨rfl, rfl⟩
      have hok : ∀ q, q < U.length → ∀ n t L, σ (U.getD q 0) = some (n, t, L) → (L.flatMap xmit).length ≤ 121 ∧ L.length ≤ 16 := fun q hq n t L e => by
        have := (hM _ (h6 _ (xmem_getD (d := 0) hq))).2 n t L e
        exact ⟨this.2.2.2.2, this.2.2.2.1⟩
      show Wp _ _ _ _ _ _ _ _ _ _ (fun r S' => r = some (.int (xB ((U.drop (k + 1)).all (fun s => (σ s).isSome)))) ∧ xFl (fun i _ => i = 213 ∨ i = 214 ∨ i = 217 ∨ i = 218) S S' ∧ (((U.drop (k + 1)).all (fun s => (σ s).isSome)) = true → (∀ q, q < U.length → xSw S' σ v (xbts y) (U.getD q 0))))
      refine wp_iload_n dX12_prepare_83 rfl (wp_aload_n dX12_prepare_84 rfl rfl (gv11_385 dX12_prepare_85 (xsh hX sh_187) ku ?_))
      refine wn_icmp_ge dX12_prepare_88 rfl (by omega) (by omega) (fun c88 => absurd c88 (by omega)) (fun c88 => ?_)
      refine wp_aload_n dX12_prepare_91 rfl rfl (g11_330 dX12_prepare_92 (xsh hX sh_187) (xrr hX r187_51) (wp_iload_n dX12_prepare_95 rfl (wn_iaload dX12_prepare_96 (xsh hX sh_212) rfl (by omega) (by decide) vu (wp_istore_n dX12_prepare_97 ⟨Nat.le_of_ble_eq_true rfl, Or.inr rfl⟩ rfl (wp_aload_n dX12_prepare_98 rfl rfl (wp_iload_n dX12_prepare_99 rfl (wp_iv2 dX12_prepare_100 k11_231 q_X12_has (by decide) (xsh hX sh_187) (by decide) (Nat.le_of_ble_eq_true rfl) gh ?_)))))))
      refine wb_if_ne dX12_prepare_103 rfl (fun c103 => ?_) (fun c103 => absurd c103 (by simp))
      refine wp_aload_n dX12_prepare_108 rfl rfl (g11_349 dX12_prepare_109 (xsh hX sh_187) (xrr hX r187_57) (wp_iload_n dX12_prepare_112 rfl (wp_iconst (v := nI 0) dX12_prepare_113 rfl (wn_zastore dX12_prepare_114 (xsh hX sh_218) rfl (by omega) (by decide) rfl (wp_iconst (v := nI 0) dX12_prepare_115 rfl (wp_istore_n dX12_prepare_116 ⟨Nat.le_of_ble_eq_true rfl, Or.inr rfl⟩ rfl ?_))))))
      refine pr_lines (k := k) (s := U.getD k 0) (v := v) (y := y) hs ok hn h121 h16 L.length 0 _ (Nat.zero_add _) (F1.XC hX) (M.fr F1 (fun i q h => by omega)) (hT.fr F1 (fun q h => by omega) (fun a q h => by omega)) (hY.fr F1 (fun i q h => by omega)) ⟨fun q hq => absurd hq (Nat.not_lt_zero q), xI_same _ _ _ _⟩ (fun S1 y3 f1 h1 => ?_)
      have F2 : xFl (fun i q => xFs (U.getD k 0) i q) S S1 := (F1.mono (fun i q h => Or.inr (Or.inr h))).tt f1
      have F3 : xFl (fun i _ => i = 213 ∨ i = 214 ∨ i = 217 ∨ i = 218) S S1 := F2.mono (fun i q h => by rcases h with h | h | h <;> omega)
      have X1 := F2.XC hX
      rw [List.take_length] at h1
      have ih2 := fun y2 y3 => ih (k + 1) S1 y2 y3 (by omega) X1 (hM.fr F3 (fun i q h => by omega)) (hT.fr F3 (fun q h => by omega) (fun a q h => by omega)) (hY.fr F3 (fun i q h => by omega)) ⟨F3.i hu.1 (by omega), fun q hq => F3.i (hu.2 q hq) (by omega)⟩ (fun q hq => by
        rcases Decidable.em (U.getD q 0 = U.getD k 0) with w | w
        · rw [w]
          intro n' t' L' e'
          rw [e] at e'
          cases e'
          exact h1
        · rcases Nat.lt_or_ge q k with w2 | w2
          · exact (h q w2).fr F2 (hok q (by omega)) (fun i' q' h' h'' => by unfold xFs at h' h''; omega)
          · exact absurd (by rw [show q = k by omega]) w)
      refine wp_iinc dX12_prepare_139 rfl (nI_1 _) ⟨Nat.le_of_ble_eq_true rfl, Or.inr rfl⟩ rfl (wp_goto dX12_prepare_142 rfl ?_)
      refine (ih2 _ _).mono ?_
      rintro r S' ⟨z1, z2, z3⟩
      exact ⟨z1, F3.tt z2, z3⟩
