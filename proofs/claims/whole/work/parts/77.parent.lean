/-! parent, both sides -/
/-- the days of the slots, in the class and in the reference -/
def xDC (S : xS) (ρ : Nat → Nat) (σ : xSv) (δ : Nat → Int32) : Prop := ∀ k, k < 6 → σ k ≠ none → S.2.1 (ρ k) 8 = δ k
def xDM (S : xS) (σ : xSv) (δ : Nat → Int32) : Prop := ∀ k, k < 6 → σ k ≠ none → S.2.1 204 k = δ k
theorem xDC.fm {S S' : xS} {ρ : Nat → Nat} {σ : xSv} {δ : Nat → Int32} {P R : Nat → Nat → Prop} (h : xDC S ρ σ δ) (hr : xro ρ) (hf : xFm P R S S') (hn : ∀ a, xRo a → ¬ P a 8) : xDC S' ρ σ δ := fun k hk e => hf.i (h k hk e) (hn _ (hr.1 k (by omega)))
theorem xDM.fr {S S' : xS} {σ : xSv} {δ : Nat → Int32} {P : Nat → Nat → Prop} (h : xDM S σ δ) (hf : xFl P S S') (hn : ∀ k, ¬ P 204 k) : xDM S' σ δ := fun k hk e => hf.i (h k hk e) (hn k)
/-- whether t's rhyme is an elder of s's -/
def xel (σ : xSv) (δ : Nat → Int32) (s t : Nat) : Bool := (σ t).isSome && decide (δ t < δ s)
/-- the CHANGES of two slots' rhymes -/
def xcsn (σ : xSv) (t s : Nat) : Nat := match σ t, σ s with
  | some (_, t1, L1), some (_, t2, L2) => xchs t1 L1 t2 L2 L1.length L2.length
  | _, _ => 0
theorem xcsn_le (σ : xSv) (t s : Nat) : xcsn σ t s ≤ 1000000 := by
  unfold xcsn
  split
  · exact xfs_le _ _ _ _ _
  · omega
/-- the parent among the first k slots, with its CHANGES -/
def xpa (cs : Nat → Nat) (el : Nat → Bool) : Nat → Option (Nat × Nat)
  | 0 => none
  | k + 1 => if el k = true then (match xpa cs el k with
      | none => some (k, cs k)
      | some bf => if cs k < bf.2 then some (k, cs k) else some bf) else xpa cs el k
theorem xpa_b {cs : Nat → Nat} {el : Nat → Bool} (h : ∀ k, cs k ≤ 1000000) : ∀ (k b f : Nat), xpa cs el k = some (b, f) → b < k ∧ f ≤ 1000000
  | 0, b, f, e => by cases e
  | k + 1, b, f, e => by
    have hk := h k
    rw [xpa] at e
    split at e
    · split at e
      · cases e; exact ⟨by omega, hk⟩
      · rename_i bf ebf
        split at e
        · cases e; exact ⟨by omega, hk⟩
        · have e2 : bf = (b, f) := Option.some.inj e
          subst e2
          have := xpa_b h k b f ebf
          omega
    · have := xpa_b h k b f e
      omega
def xpb : Option (Nat × Nat) → Int32
  | none => -1
  | some (b, _) => nI b
def xpf : Option (Nat × Nat) → Nat
  | none => 0
  | some (_, f) => f
theorem xpa_F {cs : Nat → Nat} {el : Nat → Bool} {k : Nat} (h : el k = false) : xpa cs el (k + 1) = xpa cs el k := by rw [xpa, if_neg (by rw [h]; decide)]
theorem xpa_N {cs : Nat → Nat} {el : Nat → Bool} {k : Nat} (h : el k = true) (e : xpa cs el k = none) : xpa cs el (k + 1) = some (k, cs k) := by rw [xpa, if_pos h, e]
theorem xpa_L {cs : Nat → Nat} {el : Nat → Bool} {k b f : Nat} (h : el k = true) (e : xpa cs el k = some (b, f)) (hl : cs k < f) : xpa cs el (k + 1) = some (k, cs k) := by
  rw [xpa, if_pos h, e]
  exact if_pos hl
theorem xpa_G {cs : Nat → Nat} {el : Nat → Bool} {k b f : Nat} (h : el k = true) (e : xpa cs el k = some (b, f)) (hl : f ≤ cs k) : xpa cs el (k + 1) = some (b, f) := by
  rw [xpa, if_pos h, e]
  exact if_neg (Nat.not_lt.mpr hl)
theorem xge_m1 {a : Nat} (ha : a < 2 ^ 31) : ¬ nI a < 0 := fun e => nI_pos ha e
theorem c_elderIn {t : Nat} (d : Nat) {ρ : Nat → Nat} {σ : xSv} {δ : Nat → Int32} {s : Nat} (hr : xro ρ) (hs : s < 6) (hσ : σ s ≠ none) (ht : t < 6) {S : xS} (hX : XC S) (hS : xSl S ρ σ) (hD : xDC S ρ σ δ) : xcall false (d + 2) j_X11_elderIn [.ref 0, .int (nI t), .ref (ρ s)] S (some (if xel σ δ s t = true then .ref (ρ t) else .null)) S := by
  have hc := ((hr.1 s (by omega)).sh hX).1
  have he := ((hr.1 t (by omega)).sh hX).1
  have hot := hr.1 t (by omega)
  obtain ⟨h1, h2, h3⟩ := hS t ht
  have ds := hD s hs hσ
  cases e : σ t with
  | none =>
    have gn := c_rhymeIn_nil d hot ht hX h1 (h2 e)
    rw [show xel σ δ s t = false by unfold xel; rw [e]; rfl, if_neg (by decide)]
    refine xcall_intro (ls := [.ref 0, .int (nI t), .ref (ρ s), .float 0]) q_X11_elderIn (by decide) rfl (Nat.le_of_ble_eq_true rfl) rfl ?_
    exact wp_aload_n dX11_elderIn_0 rfl rfl (wp_iload_n dX11_elderIn_1 rfl (wp_iv2 dX11_elderIn_2 k10_155 q_X11_rhymeIn (by decide) (xsh hX sh_0) (by decide) (Nat.le_of_ble_eq_true rfl) gn (wp_astore_n dX11_elderIn_5 rfl ⟨Nat.le_of_ble_eq_true rfl, Or.inr rfl⟩ rfl (wp_aload_n dX11_elderIn_6 rfl rfl (wp_ifnull_N dX11_elderIn_7 rfl (wp_aconst_null dX11_elderIn_25 (wp_areturn dX11_elderIn_26 rfl rfl ⟨rfl, rfl⟩)))))))
  | some x =>
    obtain ⟨n, t1, L⟩ := x
    have gn := c_rhymeIn d hot ht hX h1 (h3 n t1 L e).1
    have dt := hD t ht (by rw [e]; intro w; cases w)
    rcases Decidable.em (δ t < δ s) with w | w
    · rw [show xel σ δ s t = true by unfold xel; rw [e, decide_eq_true w]; rfl, if_pos rfl]
      refine xcall_intro (ls := [.ref 0, .int (nI t), .ref (ρ s), .float 0]) q_X11_elderIn (by decide) rfl (Nat.le_of_ble_eq_true rfl) rfl ?_
      refine wp_aload_n dX11_elderIn_0 rfl rfl (wp_iload_n dX11_elderIn_1 rfl (wp_iv2 dX11_elderIn_2 k10_155 q_X11_rhymeIn (by decide) (xsh hX sh_0) (by decide) (Nat.le_of_ble_eq_true rfl) gn (wp_astore_n dX11_elderIn_5 rfl ⟨Nat.le_of_ble_eq_true rfl, Or.inr rfl⟩ rfl (wp_aload_n dX11_elderIn_6 rfl rfl (wp_ifnull_R dX11_elderIn_7 rfl (wp_aload_n dX11_elderIn_10 rfl rfl (gv10_163 dX11_elderIn_11 he dt (wp_aload_n dX11_elderIn_14 rfl rfl (gv10_163 dX11_elderIn_15 hc ds ?_)))))))))
      refine wp_icmp_ge dX11_elderIn_18 rfl (fun c18 => absurd c18 (Int32.not_le.mpr w)) (fun c18 => ?_)
      exact wp_aload_n dX11_elderIn_21 rfl rfl (wp_goto dX11_elderIn_22 rfl (wp_areturn dX11_elderIn_26 rfl rfl ⟨rfl, rfl⟩))
    · rw [show xel σ δ s t = false by unfold xel; rw [e, decide_eq_false w]; rfl, if_neg (by decide)]
      refine xcall_intro (ls := [.ref 0, .int (nI t), .ref (ρ s), .float 0]) q_X11_elderIn (by decide) rfl (Nat.le_of_ble_eq_true rfl) rfl ?_
      refine wp_aload_n dX11_elderIn_0 rfl rfl (wp_iload_n dX11_elderIn_1 rfl (wp_iv2 dX11_elderIn_2 k10_155 q_X11_rhymeIn (by decide) (xsh hX sh_0) (by decide) (Nat.le_of_ble_eq_true rfl) gn (wp_astore_n dX11_elderIn_5 rfl ⟨Nat.le_of_ble_eq_true rfl, Or.inr rfl⟩ rfl (wp_aload_n dX11_elderIn_6 rfl rfl (wp_ifnull_R dX11_elderIn_7 rfl (wp_aload_n dX11_elderIn_10 rfl rfl (gv10_163 dX11_elderIn_11 he dt (wp_aload_n dX11_elderIn_14 rfl rfl (gv10_163 dX11_elderIn_15 hc ds ?_)))))))))
      refine wp_icmp_ge dX11_elderIn_18 rfl (fun c18 => ?_) (fun c18 => absurd c18 (not_not_intro (Int32.not_lt.mp w)))
      exact wp_aconst_null dX11_elderIn_25 (wp_areturn dX11_elderIn_26 rfl rfl ⟨rfl, rfl⟩)
theorem xSl.fb {S S' : xS} {ρ : Nat → Nat} {σ : xSv} (h : xSl S ρ σ) (hr : xro ρ) (hf : xFl (fun i _ => i = 171 ∨ (137 ≤ i ∧ i ≤ 152) ∨ (154 ≤ i ∧ i ≤ 170)) S S') : xSl S' ρ σ := h.fm hr (hf.m (R := fun _ _ => False)) (fun k _ => id) (fun a i k ha hi => by have := ha.m; omega)
theorem xDC.fb {S S' : xS} {ρ : Nat → Nat} {σ : xSv} {δ : Nat → Int32} (h : xDC S ρ σ δ) (hr : xro ρ) (hf : xFl (fun i _ => i = 171 ∨ (137 ≤ i ∧ i ≤ 152) ∨ (154 ≤ i ∧ i ≤ 170)) S S') : xDC S' ρ σ δ := h.fm hr (hf.m (R := fun _ _ => False)) (fun a ha => by have := ha.m; omega)
theorem pr_loop {ρ : Nat → Nat} {σ : xSv} {δ : Nat → Int32} {s : Nat} {x1 : Value} {d : Nat} (hr : xro ρ) (hs : s < 6) (hσ : σ s ≠ none) : ∀ (j t : Nat) (S : xS) (y6 y7 : Value), t + j = 6 → XC S → xSl S ρ σ → xDC S ρ σ δ → Wp false (d + 6) 10 cX11_parent (some .int) false 20 [.ref 0, x1, .ref (ρ s), .int (xpb (xpa (fun t => xcsn σ t s) (xel σ δ s) t)), .int (nI (xpf (xpa (fun t => xcsn σ t s) (xel σ δ s) t))), .int (nI t), y6, y7] [] S (fun r S' => r = some (.int (xpb (xpa (fun t => xcsn σ t s) (xel σ δ s) 6))) ∧ xFl (fun i _ => i = 171 ∨ (137 ≤ i ∧ i ≤ 152) ∨ (154 ≤ i ∧ i ≤ 170)) S S') := by
  intro j
  induction j with
  | zero =>
    intro t S y6 y7 ht hX hS hD
    have htt : t = 6 := by omega
    subst htt
    refine wp_iload dX11_parent_20 rfl (wp_bipush (v := nI 6) dX11_parent_22 rfl ?_)
    refine wn_icmp_ge dX11_parent_24 rfl (by omega) (by omega) (fun c24 => ?_) (fun c24 => absurd c24 (by omega))
    exact wp_iload_n dX11_parent_78 rfl (wp_ireturn dX11_parent_79 rfl rfl ⟨rfl, xFl.rf S⟩)
  | succ j ih =>
    intro t S y6 y7 ht hX hS hD
    have hc := ((hr.1 s (by omega)).sh hX).1
    have ge := c_elderIn (t := t) (d + 3) hr hs hσ (by omega) hX hS hD
    cases e : xel σ δ s t with
    | false =>
      rw [e, if_neg (by decide)] at ge
      have nx := ih (t + 1) S
      rw [xpa_F e] at nx
      refine wp_iload dX11_parent_20 rfl (wp_bipush (v := nI 6) dX11_parent_22 rfl ?_)
      refine wn_icmp_ge dX11_parent_24 rfl (by omega) (by omega) (fun c24 => absurd c24 (by omega)) (fun c24 => ?_)
      exact wp_aload_n dX11_parent_27 rfl rfl (wp_iload dX11_parent_28 rfl (wp_aload_n dX11_parent_30 rfl rfl (wp_iv3 dX11_parent_31 k10_283 q_X11_elderIn (by decide) (xsh hX sh_0) (by decide) (Nat.le_of_ble_eq_true rfl) ge (wp_astore dX11_parent_34 rfl ⟨Nat.le_of_ble_eq_true rfl, Or.inr rfl⟩ rfl (wp_aload dX11_parent_36 rfl rfl (wp_ifnull_N dX11_parent_38 rfl (wp_iinc dX11_parent_72 rfl (nI_1 _) ⟨Nat.le_of_ble_eq_true rfl, Or.inr rfl⟩ rfl (wp_goto dX11_parent_75 rfl (nx _ _ (by omega) hX hS hD)))))))))
    | true =>
      rw [e, if_pos rfl] at ge
      have et : ∃ n1 t1 L1, σ t = some (n1, t1, L1) := by
        unfold xel at e
        cases e2 : σ t with
        | none => rw [e2] at e; cases e
        | some x => exact ⟨x.1, x.2.1, x.2.2, rfl⟩
      have es : ∃ n2 t2 L2, σ s = some (n2, t2, L2) := by
        cases e2 : σ s with
        | none => exact absurd e2 hσ
        | some x => exact ⟨x.1, x.2.1, x.2.2, rfl⟩
      obtain ⟨n1, t1, L1, et⟩ := et
      obtain ⟨n2, t2, L2, es⟩ := es
      have V1 := ((hS t (by omega)).2.2 n1 t1 L1 et).2
      have V2 := ((hS s hs).2.2 n2 t2 L2 es).2
      obtain ⟨S1, gb, f1⟩ := c_between d (hr.1 t (by omega)) (hr.1 s (by omega)) hX V1 V2
      have X1 := f1.XC hX
      have ec : xcsn σ t s = xchs t1 L1 t2 L2 L1.length L2.length := by unfold xcsn; rw [et, es]
      rw [← ec] at gb
      have bc := xcsn_le σ t s
      have nx := fun y6 y7 => ih (t + 1) S1 y6 y7 (by omega) X1 (hS.fb hr f1) (hD.fb hr f1)
      have lift : ∀ y6 y7, Wp false (d + 6) 10 cX11_parent (some .int) false 20 [.ref 0, x1, .ref (ρ s), .int (xpb (xpa (fun t => xcsn σ t s) (xel σ δ s) (t + 1))), .int (nI (xpf (xpa (fun t => xcsn σ t s) (xel σ δ s) (t + 1)))), .int (nI (t + 1)), y6, y7] [] S1 (fun r S' => r = some (.int (xpb (xpa (fun t => xcsn σ t s) (xel σ δ s) 6))) ∧ xFl (fun i _ => i = 171 ∨ (137 ≤ i ∧ i ≤ 152) ∨ (154 ≤ i ∧ i ≤ 170)) S S') := fun y6 y7 => (nx y6 y7).mono (fun r S' h => ⟨h.1, f1.tt h.2⟩)
      cases ep : (xpa (fun t => xcsn σ t s) (xel σ δ s) t) with
      | none =>
        rw [xpa_N e ep] at lift
        refine wp_iload dX11_parent_20 rfl (wp_bipush (v := nI 6) dX11_parent_22 rfl ?_)
        refine wn_icmp_ge dX11_parent_24 rfl (by omega) (by omega) (fun c24 => absurd c24 (by omega)) (fun c24 => ?_)
        refine wp_aload_n dX11_parent_27 rfl rfl (wp_iload dX11_parent_28 rfl (wp_aload_n dX11_parent_30 rfl rfl (wp_iv3 dX11_parent_31 k10_283 q_X11_elderIn (by decide) (xsh hX sh_0) (by decide) (Nat.le_of_ble_eq_true rfl) ge (wp_astore dX11_parent_34 rfl ⟨Nat.le_of_ble_eq_true rfl, Or.inr rfl⟩ rfl (wp_aload dX11_parent_36 rfl rfl (wp_ifnull_R dX11_parent_38 rfl (wp_aload_n dX11_parent_41 rfl rfl (g10_86 dX11_parent_42 (xsh hX sh_0) (xrr hX r0_16) (wp_aload dX11_parent_45 rfl rfl (wp_aload_n dX11_parent_47 rfl rfl (wp_iv3 dX11_parent_48 k10_279 q_X0_between (by decide) (xsh hX sh_133) (by decide) (Nat.le_of_ble_eq_true rfl) gb (wp_istore dX11_parent_51 ⟨Nat.le_of_ble_eq_true rfl, Or.inr rfl⟩ rfl (wp_iload_n dX11_parent_53 rfl (wp_iconst (v := -1) dX11_parent_54 rfl ?_))))))))))))))
        refine wp_icmp_eq dX11_parent_55 rfl (fun c55 => ?_) (fun c55 => absurd c55 (not_not_intro rfl))
        exact wp_iload dX11_parent_65 rfl (wp_istore_n dX11_parent_67 ⟨Nat.le_of_ble_eq_true rfl, Or.inr rfl⟩ rfl (wp_iload dX11_parent_68 rfl (wp_istore dX11_parent_70 ⟨Nat.le_of_ble_eq_true rfl, Or.inr rfl⟩ rfl (wp_iinc dX11_parent_72 rfl (nI_1 _) ⟨Nat.le_of_ble_eq_true rfl, Or.inr rfl⟩ rfl (wp_goto dX11_parent_75 rfl (lift _ _))))))
      | some bf =>
        obtain ⟨b, f⟩ := bf
        have bb := xpa_b (fun k => xcsn_le σ k s) t b f ep
        rcases Nat.lt_or_ge (xcsn σ t s) f with w | w
        · rw [xpa_L (cs := fun t => xcsn σ t s) e ep w] at lift
          have w' : xcsn σ t s < xpf (some (b, f)) := w
          have bf' : xpf (some (b, f)) ≤ 1000000 := bb.2
          refine wp_iload dX11_parent_20 rfl (wp_bipush (v := nI 6) dX11_parent_22 rfl ?_)
          refine wn_icmp_ge dX11_parent_24 rfl (by omega) (by omega) (fun c24 => absurd c24 (by omega)) (fun c24 => ?_)
          refine wp_aload_n dX11_parent_27 rfl rfl (wp_iload dX11_parent_28 rfl (wp_aload_n dX11_parent_30 rfl rfl (wp_iv3 dX11_parent_31 k10_283 q_X11_elderIn (by decide) (xsh hX sh_0) (by decide) (Nat.le_of_ble_eq_true rfl) ge (wp_astore dX11_parent_34 rfl ⟨Nat.le_of_ble_eq_true rfl, Or.inr rfl⟩ rfl (wp_aload dX11_parent_36 rfl rfl (wp_ifnull_R dX11_parent_38 rfl (wp_aload_n dX11_parent_41 rfl rfl (g10_86 dX11_parent_42 (xsh hX sh_0) (xrr hX r0_16) (wp_aload dX11_parent_45 rfl rfl (wp_aload_n dX11_parent_47 rfl rfl (wp_iv3 dX11_parent_48 k10_279 q_X0_between (by decide) (xsh hX sh_133) (by decide) (Nat.le_of_ble_eq_true rfl) gb (wp_istore dX11_parent_51 ⟨Nat.le_of_ble_eq_true rfl, Or.inr rfl⟩ rfl (wp_iload_n dX11_parent_53 rfl (wp_iconst (v := -1) dX11_parent_54 rfl ?_))))))))))))))
          refine wp_icmp_eq dX11_parent_55 rfl (fun c55 => absurd c55 (nI_m1 (by omega))) (fun c55 => ?_)
          refine wp_iload dX11_parent_58 rfl (wp_iload dX11_parent_60 rfl ?_)
          refine wn_icmp_ge dX11_parent_62 rfl (by omega) (by omega) (fun c62 => absurd c62 (by omega)) (fun c62 => ?_)
          exact wp_iload dX11_parent_65 rfl (wp_istore_n dX11_parent_67 ⟨Nat.le_of_ble_eq_true rfl, Or.inr rfl⟩ rfl (wp_iload dX11_parent_68 rfl (wp_istore dX11_parent_70 ⟨Nat.le_of_ble_eq_true rfl, Or.inr rfl⟩ rfl (wp_iinc dX11_parent_72 rfl (nI_1 _) ⟨Nat.le_of_ble_eq_true rfl, Or.inr rfl⟩ rfl (wp_goto dX11_parent_75 rfl (lift _ _))))))
        · rw [xpa_G (cs := fun t => xcsn σ t s) e ep w] at lift
          have w' : xpf (some (b, f)) ≤ xcsn σ t s := w
          have bf' : xpf (some (b, f)) ≤ 1000000 := bb.2
          refine wp_iload dX11_parent_20 rfl (wp_bipush (v := nI 6) dX11_parent_22 rfl ?_)
          refine wn_icmp_ge dX11_parent_24 rfl (by omega) (by omega) (fun c24 => absurd c24 (by omega)) (fun c24 => ?_)
          refine wp_aload_n dX11_parent_27 rfl rfl (wp_iload dX11_parent_28 rfl (wp_aload_n dX11_parent_30 rfl rfl (wp_iv3 dX11_parent_31 k10_283 q_X11_elderIn (by decide) (xsh hX sh_0) (by decide) (Nat.le_of_ble_eq_true rfl) ge (wp_astore dX11_parent_34 rfl ⟨Nat.le_of_ble_eq_true rfl, Or.inr rfl⟩ rfl (wp_aload dX11_parent_36 rfl rfl (wp_ifnull_R dX11_parent_38 rfl (wp_aload_n dX11_parent_41 rfl rfl (g10_86 dX11_parent_42 (xsh hX sh_0) (xrr hX r0_16) (wp_aload dX11_parent_45 rfl rfl (wp_aload_n dX11_parent_47 rfl rfl (wp_iv3 dX11_parent_48 k10_279 q_X0_between (by decide) (xsh hX sh_133) (by decide) (Nat.le_of_ble_eq_true rfl) gb (wp_istore dX11_parent_51 ⟨Nat.le_of_ble_eq_true rfl, Or.inr rfl⟩ rfl (wp_iload_n dX11_parent_53 rfl (wp_iconst (v := -1) dX11_parent_54 rfl ?_))))))))))))))
          refine wp_icmp_eq dX11_parent_55 rfl (fun c55 => absurd c55 (nI_m1 (by omega))) (fun c55 => ?_)
          refine wp_iload dX11_parent_58 rfl (wp_iload dX11_parent_60 rfl ?_)
          refine wn_icmp_ge dX11_parent_62 rfl (by omega) (by omega) (fun c62 => ?_) (fun c62 => absurd c62 (by omega))
          exact wp_iinc dX11_parent_72 rfl (nI_1 _) ⟨Nat.le_of_ble_eq_true rfl, Or.inr rfl⟩ rfl (wp_goto dX11_parent_75 rfl (lift _ _))
theorem c_parent_no {sv : Int32} (d : Nat) {S : xS} (hX : XC S) (g1 : xcall false (d + 5) j_X11_rhymeIn [.ref 0, .int sv] S (some .null) S) : xcall false (d + 6) j_X11_parent [.ref 0, .int sv] S (some (.int (-1))) S := by
  refine xcall_intro (ls := [.ref 0, .int sv, .float 0, .float 0, .float 0, .float 0, .float 0, .float 0]) q_X11_parent (by decide) rfl (Nat.le_of_ble_eq_true rfl) rfl ?_
  exact wp_aload_n dX11_parent_0 rfl rfl (wp_iload_n dX11_parent_1 rfl (wp_iv2 dX11_parent_2 k10_155 q_X11_rhymeIn (by decide) (xsh hX sh_0) (by decide) (Nat.le_of_ble_eq_true rfl) g1 (wp_astore_n dX11_parent_5 rfl ⟨Nat.le_of_ble_eq_true rfl, Or.inr rfl⟩ rfl (wp_aload_n dX11_parent_6 rfl rfl (wp_ifnonnull_N dX11_parent_7 rfl (wp_iconst (v := -1) dX11_parent_10 rfl (wp_ireturn dX11_parent_11 rfl rfl ⟨rfl, rfl⟩)))))))
theorem c_parent {sv : Int32} {ρ : Nat → Nat} {σ : xSv} {δ : Nat → Int32} {s : Nat} (d : Nat) (hr : xro ρ) (hs : s < 6) (hσ : σ s ≠ none) {S : xS} (hX : XC S) (hS : xSl S ρ σ) (hD : xDC S ρ σ δ) (g1 : xcall false (d + 5) j_X11_rhymeIn [.ref 0, .int sv] S (some (.ref (ρ s))) S) : ∃ S', xcall false (d + 6) j_X11_parent [.ref 0, .int sv] S (some (.int (xpb (xpa (fun t => xcsn σ t s) (xel σ δ s) 6)))) S' ∧ xFl (fun i _ => i = 171 ∨ (137 ≤ i ∧ i ≤ 152) ∨ (154 ≤ i ∧ i ≤ 170)) S S' := by
  obtain ⟨r, S', g, rfl, z⟩ := xcall_some (al := false) (d := d + 6) (ls := [.ref 0, .int sv, .float 0, .float 0, .float 0, .float 0, .float 0, .float 0]) (S := S) (as := [.ref 0, .int sv]) q_X11_parent (by decide) rfl (Nat.le_of_ble_eq_true rfl) rfl
    (P := (fun r S' => r = some (.int (xpb (xpa (fun t => xcsn σ t s) (xel σ δ s) 6))) ∧ xFl (fun i _ => i = 171 ∨ (137 ≤ i ∧ i ≤ 152) ∨ (154 ≤ i ∧ i ≤ 170)) S S')) (by
      exact wp_aload_n dX11_parent_0 rfl rfl (wp_iload_n dX11_parent_1 rfl (wp_iv2 dX11_parent_2 k10_155 q_X11_rhymeIn (by decide) (xsh hX sh_0) (by decide) (Nat.le_of_ble_eq_true rfl) g1 (wp_astore_n dX11_parent_5 rfl ⟨Nat.le_of_ble_eq_true rfl, Or.inr rfl⟩ rfl (wp_aload_n dX11_parent_6 rfl rfl (wp_ifnonnull_R dX11_parent_7 rfl (wp_iconst (v := -1) dX11_parent_12 rfl (wp_istore_n dX11_parent_13 ⟨Nat.le_of_ble_eq_true rfl, Or.inr rfl⟩ rfl (wp_iconst (v := nI 0) dX11_parent_14 rfl (wp_istore dX11_parent_15 ⟨Nat.le_of_ble_eq_true rfl, Or.inr rfl⟩ rfl (wp_iconst (v := nI 0) dX11_parent_17 rfl (wp_istore dX11_parent_18 ⟨Nat.le_of_ble_eq_true rfl, Or.inr rfl⟩ rfl (pr_loop hr hs hσ 6 0 S _ _ rfl hX hS hD)))))))))))))
  exact ⟨S', g, z⟩
theorem pm_loop {σ : xSv} {δ : Nat → Int32} {s d : Nat} (hs : s < 6) (hσ : σ s ≠ none) : ∀ (j t : Nat) (S : xS) (y5 : Value), t + j = 6 → XC S → xMl S σ → xDM S σ δ → Wp false (d + 4) 11 cX12_parent (some .int) false 22 [.ref 187, .int (nI s), .int (xpb (xpa (fun t => xcsn σ t s) (xel σ δ s) t)), .int (nI (xpf (xpa (fun t => xcsn σ t s) (xel σ δ s) t))), .int (nI t), y5] [] S (fun r S' => r = some (.int (xpb (xpa (fun t => xcsn σ t s) (xel σ δ s) 6))) ∧ xFl (fun i _ => i = 222 ∨ i = 223 ∨ i = 224 ∨ i = 225) S S') := by
  intro j
  induction j with
  | zero =>
    intro t S y5 ht hX hM hD
    have htt : t = 6 := by omega
    subst htt
    refine wp_iload dX12_parent_22 rfl (wp_bipush (v := nI 6) dX12_parent_24 rfl ?_)
    refine wn_icmp_ge dX12_parent_26 rfl (by omega) (by omega) (fun c26 => ?_) (fun c26 => absurd c26 (by omega))
    exact wp_iload_n dX12_parent_91 rfl (wp_ireturn dX12_parent_92 rfl rfl ⟨rfl, xFl.rf S⟩)
  | succ j ih =>
    intro t S y5 ht hX hM hD
    have gh := m_has_n (k := t) (d + 3) (by omega) hX hM
    have ds := hD s hs hσ
    cases et : σ t with
    | none =>
      have e : xel σ δ s t = false := by unfold xel; rw [et]; rfl
      rw [et] at gh
      have nx := fun y5 => ih (t + 1) S y5 (by omega) hX hM hD
      rw [xpa_F e] at nx
      refine wp_iload dX12_parent_22 rfl (wp_bipush (v := nI 6) dX12_parent_24 rfl ?_)
      refine wn_icmp_ge dX12_parent_26 rfl (by omega) (by omega) (fun c26 => absurd c26 (by omega)) (fun c26 => ?_)
      refine wp_aload_n dX12_parent_29 rfl rfl (wp_iload dX12_parent_30 rfl (wp_iv2 dX12_parent_32 k11_231 q_X12_has (by decide) (xsh hX sh_187) (by decide) (Nat.le_of_ble_eq_true rfl) gh ?_))
      refine wb_if_eq dX12_parent_35 rfl (fun c35 => ?_) (fun c35 => absurd c35 (by decide))
      exact wp_iinc dX12_parent_85 rfl (nI_1 _) ⟨Nat.le_of_ble_eq_true rfl, Or.inr rfl⟩ rfl (wp_goto dX12_parent_88 rfl (nx _))
    | some x =>
      obtain ⟨n1, t1, L1⟩ := x
      rw [et] at gh
      have dt := hD t (by omega) (by rw [et]; intro w; cases w)
      rcases Decidable.em (δ t < δ s) with w | w
      · have e : xel σ δ s t = true := by unfold xel; rw [et, decide_eq_true w]; rfl
        have es : ∃ n2 t2 L2, σ s = some (n2, t2, L2) := by
          cases e2 : σ s with
          | none => exact absurd e2 hσ
          | some x => exact ⟨x.1, x.2.1, x.2.2, rfl⟩
        obtain ⟨n2, t2, L2, es⟩ := es
        obtain ⟨M1, ok1, hn1, h161, hm1⟩ := (hM t (by omega)).2 n1 t1 L1 et
        obtain ⟨M2, ok2, hn2, h162, hm2⟩ := (hM s hs).2 n2 t2 L2 es
        obtain ⟨S1, gb, f1⟩ := m_changesOf d (show t < 6 by omega) hs ok1 ok2 hn1 hn2 hm1 hm2 h161 h162 hX M1 M2
        have X1 := f1.XC hX
        have ec : xcsn σ t s = xchs t1 L1 t2 L2 L1.length L2.length := by unfold xcsn; rw [et, es]
        rw [← ec] at gb
        have bc := xcsn_le σ t s
        have lift : ∀ y5, Wp false (d + 4) 11 cX12_parent (some .int) false 22 [.ref 187, .int (nI s), .int (xpb (xpa (fun t => xcsn σ t s) (xel σ δ s) (t + 1))), .int (nI (xpf (xpa (fun t => xcsn σ t s) (xel σ δ s) (t + 1)))), .int (nI (t + 1)), y5] [] S1 (fun r S' => r = some (.int (xpb (xpa (fun t => xcsn σ t s) (xel σ δ s) 6))) ∧ xFl (fun i _ => i = 222 ∨ i = 223 ∨ i = 224 ∨ i = 225) S S') := fun y5 => (ih (t + 1) S1 y5 (by omega) X1 (hM.fr f1 (fun i k h => by omega)) (hD.fr f1 (fun k h => by omega))).mono (fun r S' h => ⟨h.1, f1.tt h.2⟩)
        cases ep : (xpa (fun t => xcsn σ t s) (xel σ δ s) t) with
        | none =>
          rw [xpa_N e ep] at lift
          refine wp_iload dX12_parent_22 rfl (wp_bipush (v := nI 6) dX12_parent_24 rfl ?_)
          refine wn_icmp_ge dX12_parent_26 rfl (by omega) (by omega) (fun c26 => absurd c26 (by omega)) (fun c26 => ?_)
          refine wp_aload_n dX12_parent_29 rfl rfl (wp_iload dX12_parent_30 rfl (wp_iv2 dX12_parent_32 k11_231 q_X12_has (by decide) (xsh hX sh_187) (by decide) (Nat.le_of_ble_eq_true rfl) gh ?_))
          refine wb_if_eq dX12_parent_35 rfl (fun c35 => absurd c35 (by simp)) (fun c35 => ?_)
          refine wp_aload_n dX12_parent_38 rfl rfl (g11_225 dX12_parent_39 (xsh hX sh_187) (xrr hX r187_38) (wp_iload dX12_parent_42 rfl (wn_iaload dX12_parent_44 (xsh hX sh_204) rfl (by omega) (by decide) dt (wp_aload_n dX12_parent_45 rfl rfl (g11_225 dX12_parent_46 (xsh hX sh_187) (xrr hX r187_38) (wp_iload_n dX12_parent_49 rfl (wn_iaload dX12_parent_50 (xsh hX sh_204) rfl (by omega) (by decide) ds ?_)))))))
          refine wp_icmp_lt dX12_parent_51 rfl (fun c51 => ?_) (fun c51 => absurd c51 (not_not_intro w))
          refine wp_aload_n dX12_parent_57 rfl rfl (wp_iload dX12_parent_58 rfl (wp_iload_n dX12_parent_60 rfl (wp_iv3 dX12_parent_61 k11_545 q_X12_changesOf (by decide) (xsh hX sh_187) (by decide) (Nat.le_of_ble_eq_true rfl) gb (wp_istore dX12_parent_64 ⟨Nat.le_of_ble_eq_true rfl, Or.inr rfl⟩ rfl (wp_iload_n dX12_parent_66 rfl ?_)))))
          refine wp_if_lt dX12_parent_67 rfl (fun c67 => ?_) (fun c67 => absurd c67 (not_not_intro (show (-1 : Int32) < 0 by decide)))
          exact wp_iload dX12_parent_79 rfl (wp_istore_n dX12_parent_81 ⟨Nat.le_of_ble_eq_true rfl, Or.inr rfl⟩ rfl (wp_iload dX12_parent_82 rfl (wp_istore_n dX12_parent_84 ⟨Nat.le_of_ble_eq_true rfl, Or.inr rfl⟩ rfl (wp_iinc dX12_parent_85 rfl (nI_1 _) ⟨Nat.le_of_ble_eq_true rfl, Or.inr rfl⟩ rfl (wp_goto dX12_parent_88 rfl (lift _))))))
        | some bf =>
          obtain ⟨b, f⟩ := bf
          have bb := xpa_b (fun k => xcsn_le σ k s) t b f ep
          have bf' : xpf (some (b, f)) ≤ 1000000 := bb.2
          rcases Nat.lt_or_ge (xcsn σ t s) f with w2 | w2
          · rw [xpa_L (cs := fun t => xcsn σ t s) e ep w2] at lift
            have w' : xcsn σ t s < xpf (some (b, f)) := w2
            refine wp_iload dX12_parent_22 rfl (wp_bipush (v := nI 6) dX12_parent_24 rfl ?_)
            refine wn_icmp_ge dX12_parent_26 rfl (by omega) (by omega) (fun c26 => absurd c26 (by omega)) (fun c26 => ?_)
            refine wp_aload_n dX12_parent_29 rfl rfl (wp_iload dX12_parent_30 rfl (wp_iv2 dX12_parent_32 k11_231 q_X12_has (by decide) (xsh hX sh_187) (by decide) (Nat.le_of_ble_eq_true rfl) gh ?_))
            refine wb_if_eq dX12_parent_35 rfl (fun c35 => absurd c35 (by simp)) (fun c35 => ?_)
            refine wp_aload_n dX12_parent_38 rfl rfl (g11_225 dX12_parent_39 (xsh hX sh_187) (xrr hX r187_38) (wp_iload dX12_parent_42 rfl (wn_iaload dX12_parent_44 (xsh hX sh_204) rfl (by omega) (by decide) dt (wp_aload_n dX12_parent_45 rfl rfl (g11_225 dX12_parent_46 (xsh hX sh_187) (xrr hX r187_38) (wp_iload_n dX12_parent_49 rfl (wn_iaload dX12_parent_50 (xsh hX sh_204) rfl (by omega) (by decide) ds ?_)))))))
            refine wp_icmp_lt dX12_parent_51 rfl (fun c51 => ?_) (fun c51 => absurd c51 (not_not_intro w))
            refine wp_aload_n dX12_parent_57 rfl rfl (wp_iload dX12_parent_58 rfl (wp_iload_n dX12_parent_60 rfl (wp_iv3 dX12_parent_61 k11_545 q_X12_changesOf (by decide) (xsh hX sh_187) (by decide) (Nat.le_of_ble_eq_true rfl) gb (wp_istore dX12_parent_64 ⟨Nat.le_of_ble_eq_true rfl, Or.inr rfl⟩ rfl (wp_iload_n dX12_parent_66 rfl ?_)))))
            refine wp_if_lt dX12_parent_67 rfl (fun c67 => absurd c67 (xge_m1 (by omega))) (fun c67 => ?_)
            refine wp_iload dX12_parent_70 rfl (wp_iload_n dX12_parent_72 rfl ?_)
            refine wn_icmp_lt dX12_parent_73 rfl (by omega) (by omega) (fun c73 => ?_) (fun c73 => absurd c73 (by omega))
            exact wp_iload dX12_parent_79 rfl (wp_istore_n dX12_parent_81 ⟨Nat.le_of_ble_eq_true rfl, Or.inr rfl⟩ rfl (wp_iload dX12_parent_82 rfl (wp_istore_n dX12_parent_84 ⟨Nat.le_of_ble_eq_true rfl, Or.inr rfl⟩ rfl (wp_iinc dX12_parent_85 rfl (nI_1 _) ⟨Nat.le_of_ble_eq_true rfl, Or.inr rfl⟩ rfl (wp_goto dX12_parent_88 rfl (lift _))))))
          · rw [xpa_G (cs := fun t => xcsn σ t s) e ep w2] at lift
            have w' : xpf (some (b, f)) ≤ xcsn σ t s := w2
            refine wp_iload dX12_parent_22 rfl (wp_bipush (v := nI 6) dX12_parent_24 rfl ?_)
            refine wn_icmp_ge dX12_parent_26 rfl (by omega) (by omega) (fun c26 => absurd c26 (by omega)) (fun c26 => ?_)
            refine wp_aload_n dX12_parent_29 rfl rfl (wp_iload dX12_parent_30 rfl (wp_iv2 dX12_parent_32 k11_231 q_X12_has (by decide) (xsh hX sh_187) (by decide) (Nat.le_of_ble_eq_true rfl) gh ?_))
            refine wb_if_eq dX12_parent_35 rfl (fun c35 => absurd c35 (by simp)) (fun c35 => ?_)
            refine wp_aload_n dX12_parent_38 rfl rfl (g11_225 dX12_parent_39 (xsh hX sh_187) (xrr hX r187_38) (wp_iload dX12_parent_42 rfl (wn_iaload dX12_parent_44 (xsh hX sh_204) rfl (by omega) (by decide) dt (wp_aload_n dX12_parent_45 rfl rfl (g11_225 dX12_parent_46 (xsh hX sh_187) (xrr hX r187_38) (wp_iload_n dX12_parent_49 rfl (wn_iaload dX12_parent_50 (xsh hX sh_204) rfl (by omega) (by decide) ds ?_)))))))
            refine wp_icmp_lt dX12_parent_51 rfl (fun c51 => ?_) (fun c51 => absurd c51 (not_not_intro w))
            refine wp_aload_n dX12_parent_57 rfl rfl (wp_iload dX12_parent_58 rfl (wp_iload_n dX12_parent_60 rfl (wp_iv3 dX12_parent_61 k11_545 q_X12_changesOf (by decide) (xsh hX sh_187) (by decide) (Nat.le_of_ble_eq_true rfl) gb (wp_istore dX12_parent_64 ⟨Nat.le_of_ble_eq_true rfl, Or.inr rfl⟩ rfl (wp_iload_n dX12_parent_66 rfl ?_)))))
            refine wp_if_lt dX12_parent_67 rfl (fun c67 => absurd c67 (xge_m1 (by omega))) (fun c67 => ?_)
            refine wp_iload dX12_parent_70 rfl (wp_iload_n dX12_parent_72 rfl ?_)
            refine wn_icmp_lt dX12_parent_73 rfl (by omega) (by omega) (fun c73 => absurd c73 (by omega)) (fun c73 => ?_)
            exact wp_goto dX12_parent_76 rfl (wp_iinc dX12_parent_85 rfl (nI_1 _) ⟨Nat.le_of_ble_eq_true rfl, Or.inr rfl⟩ rfl (wp_goto dX12_parent_88 rfl (lift _)))
      · have e : xel σ δ s t = false := by unfold xel; rw [et, decide_eq_false w]; rfl
        have nx := fun y5 => ih (t + 1) S y5 (by omega) hX hM hD
        rw [xpa_F e] at nx
        refine wp_iload dX12_parent_22 rfl (wp_bipush (v := nI 6) dX12_parent_24 rfl ?_)
        refine wn_icmp_ge dX12_parent_26 rfl (by omega) (by omega) (fun c26 => absurd c26 (by omega)) (fun c26 => ?_)
        refine wp_aload_n dX12_parent_29 rfl rfl (wp_iload dX12_parent_30 rfl (wp_iv2 dX12_parent_32 k11_231 q_X12_has (by decide) (xsh hX sh_187) (by decide) (Nat.le_of_ble_eq_true rfl) gh ?_))
        refine wb_if_eq dX12_parent_35 rfl (fun c35 => absurd c35 (by simp)) (fun c35 => ?_)
        refine wp_aload_n dX12_parent_38 rfl rfl (g11_225 dX12_parent_39 (xsh hX sh_187) (xrr hX r187_38) (wp_iload dX12_parent_42 rfl (wn_iaload dX12_parent_44 (xsh hX sh_204) rfl (by omega) (by decide) dt (wp_aload_n dX12_parent_45 rfl rfl (g11_225 dX12_parent_46 (xsh hX sh_187) (xrr hX r187_38) (wp_iload_n dX12_parent_49 rfl (wn_iaload dX12_parent_50 (xsh hX sh_204) rfl (by omega) (by decide) ds ?_)))))))
        refine wp_icmp_lt dX12_parent_51 rfl (fun c51 => absurd c51 w) (fun c51 => ?_)
        exact wp_goto dX12_parent_54 rfl (wp_iinc dX12_parent_85 rfl (nI_1 _) ⟨Nat.le_of_ble_eq_true rfl, Or.inr rfl⟩ rfl (wp_goto dX12_parent_88 rfl (nx _)))
theorem m_parent_no {sv : Int32} (d : Nat) {S : xS} (hX : XC S) (g1 : xcall false (d + 3) j_X12_has [.ref 187, .int sv] (xSI S 187 0 (nI 0)) (some (.int (xB false))) (xSI S 187 0 (nI 0))) : xcall false (d + 4) j_X12_parent [.ref 187, .int sv] S (some (.int (-1))) (xSI S 187 0 (nI 0)) := by
  refine xcall_intro (ls := [.ref 187, .int sv, .float 0, .float 0, .float 0, .float 0]) q_X12_parent (by decide) rfl (Nat.le_of_ble_eq_true rfl) rfl ?_
  refine wp_aload_n dX12_parent_0 rfl rfl (wp_iconst (v := nI 0) dX12_parent_1 rfl (p11_1 dX12_parent_2 (xsh hX sh_187) (wp_aload_n dX12_parent_5 rfl rfl (wp_iload_n dX12_parent_6 rfl (wp_iv2 dX12_parent_7 k11_231 q_X12_has (by decide) (xsh hX sh_187) (by decide) (Nat.le_of_ble_eq_true rfl) g1 ?_)))))
  refine wb_if_ne dX12_parent_10 rfl (fun c10 => absurd c10 (by decide)) (fun c10 => ?_)
  exact wp_iconst (v := -1) dX12_parent_13 rfl (wp_ireturn dX12_parent_14 rfl rfl ⟨rfl, rfl⟩)
theorem m_parent {σ : xSv} {δ : Nat → Int32} {s : Nat} (d : Nat) (hs : s < 6) (hσ : σ s ≠ none) {S : xS} (hX : XC S) (hM : xMl S σ) (hD : xDM S σ δ) (g1 : xcall false (d + 3) j_X12_has [.ref 187, .int (nI s)] (xSI S 187 0 (nI 0)) (some (.int (xB true))) (xSI S 187 0 (nI 0))) : ∃ S', xcall false (d + 4) j_X12_parent [.ref 187, .int (nI s)] S (some (.int (xpb (xpa (fun t => xcsn σ t s) (xel σ δ s) 6)))) S' ∧ xFl (fun i k => (i = 187 ∧ k = 0) ∨ i = 222 ∨ i = 223 ∨ i = 224 ∨ i = 225) S S' := by
  have F0 : xFl (fun i k => i = 187 ∧ k = 0) S (xSI S 187 0 (nI 0)) := (xFl.rf S).SI ⟨rfl, rfl⟩
  obtain ⟨r, S', g, rfl, z⟩ := xcall_some (al := false) (d := d + 4) (ls := [.ref 187, .int (nI s), .float 0, .float 0, .float 0, .float 0]) (S := S) (as := [.ref 187, .int (nI s)]) q_X12_parent (by decide) rfl (Nat.le_of_ble_eq_true rfl) rfl
    (P := fun r S' => r = some (.int (xpb (xpa (fun t => xcsn σ t s) (xel σ δ s) 6))) ∧ xFl (fun i _ => i = 222 ∨ i = 223 ∨ i = 224 ∨ i = 225) (xSI S 187 0 (nI 0)) S') (by
      refine wp_aload_n dX12_parent_0 rfl rfl (wp_iconst (v := nI 0) dX12_parent_1 rfl (p11_1 dX12_parent_2 (xsh hX sh_187) (wp_aload_n dX12_parent_5 rfl rfl (wp_iload_n dX12_parent_6 rfl (wp_iv2 dX12_parent_7 k11_231 q_X12_has (by decide) (xsh hX sh_187) (by decide) (Nat.le_of_ble_eq_true rfl) g1 ?_)))))
      refine wb_if_ne dX12_parent_10 rfl (fun c10 => ?_) (fun c10 => absurd c10 (by decide))
      exact wp_iconst (v := -1) dX12_parent_15 rfl (wp_istore_n dX12_parent_16 ⟨Nat.le_of_ble_eq_true rfl, Or.inr rfl⟩ rfl (wp_iconst (v := nI 0) dX12_parent_17 rfl (wp_istore_n dX12_parent_18 ⟨Nat.le_of_ble_eq_true rfl, Or.inr rfl⟩ rfl (wp_iconst (v := nI 0) dX12_parent_19 rfl (wp_istore dX12_parent_20 ⟨Nat.le_of_ble_eq_true rfl, Or.inr rfl⟩ rfl (pm_loop hs hσ 6 0 (xSI S 187 0 (nI 0)) _ rfl (F0.XC hX) (hM.fr F0 (fun i k h => by omega)) (hD.fr F0 (fun k h => by omega)))))))))
  exact ⟨S', g, (F0.mono (fun i k h => Or.inl h)).tt (z.mono (fun i k h => Or.inr h))⟩
