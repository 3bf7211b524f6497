/-! mixed of the class, the call -/
theorem xSl.fx {S S' : xS} {ρ : Nat → Nat} {σ : xSv} (h : xSl S ρ σ) (hr : xro ρ) (hf : xFl (fun i _ => 137 ≤ i ∧ i ≤ 185) S S') : xSl S' ρ σ := h.fm hr (hf.m (R := fun _ _ => False)) (fun k _ => id) (fun a i k ha hi => by have := ha.m; omega)
theorem xDC.fx {S S' : xS} {ρ : Nat → Nat} {σ : xSv} {δ : Nat → Int32} (h : xDC S ρ σ δ) (hr : xro ρ) (hf : xFl (fun i _ => 137 ≤ i ∧ i ≤ 185) S S') : xDC S' ρ σ δ := h.fm hr (hf.m (R := fun _ _ => False)) (fun a ha => by have := ha.m; omega)
theorem mxl_loop {ρ : Nat → Nat} {σ : xSv} {δ : Nat → Int32} {s n2 : Nat} {t2 : Nat → Nat} {L2 : List xLn} {x1 : Value} {w d : Nat} (hw : w ≤ 3) (hr : xro ρ) (hs : s < 6) (es : σ s = some (n2, t2, L2)) : ∀ (r t : Nat) (S : xS) (y5 : Value), t + r = 6 → XC S → xSl S ρ σ → xDC S ρ σ δ → xAB S (xel σ δ s) (xahn σ s) (xbhn σ s) L2.length t → Wp false (d + 6) 10 cX11_mixed (some .int) false 24 [.ref 0, x1, .int (nI w), .ref (ρ s), .int (nI t), y5] [] S (fun r S' => r = some (.int (xmx (xmo (xel σ δ s) (xmc σ s L2.length) L2.length 6) w)) ∧ xFl (fun i _ => 137 ≤ i ∧ i ≤ 185) S S') := by
  have hσ : σ s ≠ none := by rw [es]; intro w; cases w
  intro r
  induction r with
  | zero =>
    intro t S y5 ht hX hS hD hA
    have htt : t = 6 := by omega
    subst htt
    have V2 := ((hS s hs).2.2 n2 t2 L2 es).2
    have gm := c_mixture (w := w) (d + 2) hw hr hs hσ (xRok_1 V2.2.2.2.2.2.2.1) V2.2.2.2.2.2.2.2.2.1 hX hS hD V2.2.2.2.2.1 hA
    refine wp_iload dX11_mixed_24 rfl (wp_bipush (v := nI 6) dX11_mixed_26 rfl ?_)
    refine wn_icmp_ge dX11_mixed_28 rfl (by omega) (by omega) (fun c28 => ?_) (fun c28 => absurd c28 (by omega))
    exact wp_aload_n dX11_mixed_63 rfl rfl (wp_aload_n dX11_mixed_64 rfl rfl (wp_iload_n dX11_mixed_65 rfl (wp_iv3 dX11_mixed_66 k10_291 q_X11_mixture (by decide) (xsh hX sh_0) (by decide) (Nat.le_of_ble_eq_true rfl) gm (wp_ireturn dX11_mixed_69 rfl rfl ⟨rfl, xFl.rf S⟩))))
  | succ r ih =>
    intro t S y5 ht hX hS hD hA
    have ge := c_elderIn (t := t) (d + 3) hr hs hσ (by omega) hX hS hD
    have V2 := ((hS s hs).2.2 n2 t2 L2 es).2
    have h162 := V2.2.2.2.2.2.2.2.2.1
    cases e : xel σ δ s t with
    | false =>
      rw [e, if_neg (by decide)] at ge
      have nx := fun y5 => ih (t + 1) S y5 (by omega) hX hS hD (fun p hp ep => by
        rcases Nat.lt_or_ge p t with q | q
        · exact hA p q ep
        · rw [show p = t by omega, e] at ep; cases ep)
      refine wp_iload dX11_mixed_24 rfl (wp_bipush (v := nI 6) dX11_mixed_26 rfl ?_)
      refine wn_icmp_ge dX11_mixed_28 rfl (by omega) (by omega) (fun c28 => absurd c28 (by omega)) (fun c28 => ?_)
      exact wp_aload_n dX11_mixed_31 rfl rfl (wp_iload dX11_mixed_32 rfl (wp_aload_n dX11_mixed_34 rfl rfl (wp_iv3 dX11_mixed_35 k10_283 q_X11_elderIn (by decide) (xsh hX sh_0) (by decide) (Nat.le_of_ble_eq_true rfl) ge (wp_astore dX11_mixed_38 rfl ⟨Nat.le_of_ble_eq_true rfl, Or.inr rfl⟩ rfl (wp_aload dX11_mixed_40 rfl rfl (wp_ifnull_N dX11_mixed_42 rfl (wp_iinc dX11_mixed_57 rfl (nI_1 _) ⟨Nat.le_of_ble_eq_true rfl, Or.inr rfl⟩ rfl (wp_goto dX11_mixed_60 rfl (nx _)))))))))
    | true =>
      rw [e, if_pos rfl] at ge
      have et : ∃ n1 t1 L1, σ t = some (n1, t1, L1) := by
        unfold xel at e
        cases e2 : σ t with
        | none => rw [e2] at e; cases e
        | some x => exact ⟨x.1, x.2.1, x.2.2, rfl⟩
      obtain ⟨n1, t1, L1, et⟩ := et
      have V1 := ((hS t (by omega)).2.2 n1 t1 L1 et).2
      obtain ⟨S1, gw, f1, c1⟩ := c_weighParts (s := t) (show t < 6 by omega) d (hr.1 t (by omega)) (hr.1 s (by omega)) hX V1 V2
      have F1 : xFl (fun i _ => 137 ≤ i ∧ i ≤ 185) S S1 := f1.mono (fun i k h => by omega)
      have X1 := f1.XC hX
      have e1 : ∀ i, xahn σ s t i = xah t1 L1 t2 L2 i := fun i => by unfold xahn; rw [et, es]
      have e2 : ∀ i, xbhn σ s t i = xbh t1 L1 t2 L2 i := fun i => by unfold xbhn; rw [et, es]
      have nx := fun y5 => ih (t + 1) S1 y5 (by omega) X1 (hS.fx hr F1) (hD.fx hr F1) (fun p hp ep i hi => by
        rcases Nat.lt_or_ge p t with q | q
        · exact ⟨f1.i (hA p q ep i hi).1 (by omega), f1.i (hA p q ep i hi).2 (by omega)⟩
        · rw [show p = t by omega, e1, e2]; exact c1 i hi)
      have lift : ∀ y5, Wp false (d + 6) 10 cX11_mixed (some .int) false 24 [.ref 0, x1, .int (nI w), .ref (ρ s), .int (nI (t + 1)), y5] [] S1 (fun r S' => r = some (.int (xmx (xmo (xel σ δ s) (xmc σ s L2.length) L2.length 6) w)) ∧ xFl (fun i _ => 137 ≤ i ∧ i ≤ 185) S S') := fun y5 => (nx y5).mono (fun r S' h => ⟨h.1, F1.tt h.2⟩)
      refine wp_iload dX11_mixed_24 rfl (wp_bipush (v := nI 6) dX11_mixed_26 rfl ?_)
      refine wn_icmp_ge dX11_mixed_28 rfl (by omega) (by omega) (fun c28 => absurd c28 (by omega)) (fun c28 => ?_)
      exact wp_aload_n dX11_mixed_31 rfl rfl (wp_iload dX11_mixed_32 rfl (wp_aload_n dX11_mixed_34 rfl rfl (wp_iv3 dX11_mixed_35 k10_283 q_X11_elderIn (by decide) (xsh hX sh_0) (by decide) (Nat.le_of_ble_eq_true rfl) ge (wp_astore dX11_mixed_38 rfl ⟨Nat.le_of_ble_eq_true rfl, Or.inr rfl⟩ rfl (wp_aload dX11_mixed_40 rfl rfl (wp_ifnull_R dX11_mixed_42 rfl (wp_aload_n dX11_mixed_45 rfl rfl (g10_86 dX11_mixed_46 (xsh hX sh_0) (xrr hX r0_16) (wp_iload dX11_mixed_49 rfl (wp_aload dX11_mixed_51 rfl rfl (wp_aload_n dX11_mixed_53 rfl rfl (wp_iv4 dX11_mixed_54 k10_287 q_X0_weighParts (by decide) (xsh hX sh_133) (by decide) (Nat.le_of_ble_eq_true rfl) gw (wp_iinc dX11_mixed_57 rfl (nI_1 _) ⟨Nat.le_of_ble_eq_true rfl, Or.inr rfl⟩ rfl (wp_goto dX11_mixed_60 rfl (lift _)))))))))))))))
theorem c_mixed_no1 {sv wv : Int32} (d : Nat) {S : xS} (hX : XC S) (g1 : xcall false (d + 5) j_X11_rhymeIn [.ref 0, .int sv] S (some .null) S) : xcall false (d + 6) j_X11_mixed [.ref 0, .int sv, .int wv] S (some (.int (-1))) S := by
  refine xcall_intro (ls := [.ref 0, .int sv, .int wv, .float 0, .float 0, .float 0]) q_X11_mixed (by decide) rfl (Nat.le_of_ble_eq_true rfl) rfl ?_
  exact wp_aload_n dX11_mixed_0 rfl rfl (wp_iload_n dX11_mixed_1 rfl (wp_iv2 dX11_mixed_2 k10_155 q_X11_rhymeIn (by decide) (xsh hX sh_0) (by decide) (Nat.le_of_ble_eq_true rfl) g1 (wp_astore_n dX11_mixed_5 rfl ⟨Nat.le_of_ble_eq_true rfl, Or.inr rfl⟩ rfl (wp_aload_n dX11_mixed_6 rfl rfl (wp_ifnull_N dX11_mixed_7 rfl (wp_iconst (v := -1) dX11_mixed_19 rfl (wp_ireturn dX11_mixed_20 rfl rfl ⟨rfl, rfl⟩)))))))
theorem c_mixed_no2 {sv wv : Int32} {a : Nat} (hw : wv < 0 ∨ ¬ wv ≤ 3) (d : Nat) {S : xS} (hX : XC S) (g1 : xcall false (d + 5) j_X11_rhymeIn [.ref 0, .int sv] S (some (.ref a)) S) : xcall false (d + 6) j_X11_mixed [.ref 0, .int sv, .int wv] S (some (.int (-1))) S := by
  rcases Decidable.em (wv < 0) with w | w
  · refine xcall_intro (ls := [.ref 0, .int sv, .int wv, .float 0, .float 0, .float 0]) q_X11_mixed (by decide) rfl (Nat.le_of_ble_eq_true rfl) rfl ?_
    refine wp_aload_n dX11_mixed_0 rfl rfl (wp_iload_n dX11_mixed_1 rfl (wp_iv2 dX11_mixed_2 k10_155 q_X11_rhymeIn (by decide) (xsh hX sh_0) (by decide) (Nat.le_of_ble_eq_true rfl) g1 (wp_astore_n dX11_mixed_5 rfl ⟨Nat.le_of_ble_eq_true rfl, Or.inr rfl⟩ rfl (wp_aload_n dX11_mixed_6 rfl rfl (wp_ifnull_R dX11_mixed_7 rfl (wp_iload_n dX11_mixed_10 rfl ?_))))))
    refine wp_if_lt dX11_mixed_11 rfl (fun c11 => ?_) (fun c11 => absurd c11 (not_not_intro w))
    exact wp_iconst (v := -1) dX11_mixed_19 rfl (wp_ireturn dX11_mixed_20 rfl rfl ⟨rfl, rfl⟩)
  · refine xcall_intro (ls := [.ref 0, .int sv, .int wv, .float 0, .float 0, .float 0]) q_X11_mixed (by decide) rfl (Nat.le_of_ble_eq_true rfl) rfl ?_
    refine wp_aload_n dX11_mixed_0 rfl rfl (wp_iload_n dX11_mixed_1 rfl (wp_iv2 dX11_mixed_2 k10_155 q_X11_rhymeIn (by decide) (xsh hX sh_0) (by decide) (Nat.le_of_ble_eq_true rfl) g1 (wp_astore_n dX11_mixed_5 rfl ⟨Nat.le_of_ble_eq_true rfl, Or.inr rfl⟩ rfl (wp_aload_n dX11_mixed_6 rfl rfl (wp_ifnull_R dX11_mixed_7 rfl (wp_iload_n dX11_mixed_10 rfl ?_))))))
    refine wp_if_lt dX11_mixed_11 rfl (fun c11 => absurd c11 w) (fun c11 => ?_)
    refine wp_iload_n dX11_mixed_14 rfl (wp_iconst (v := nI 3) dX11_mixed_15 rfl ?_)
    refine wp_icmp_le dX11_mixed_16 rfl (fun c16 => absurd c16 (fun h => hw.elim w (fun q => q h))) (fun c16 => ?_)
    exact wp_iconst (v := -1) dX11_mixed_19 rfl (wp_ireturn dX11_mixed_20 rfl rfl ⟨rfl, rfl⟩)
theorem c_mixed {sv : Int32} {ρ : Nat → Nat} {σ : xSv} {δ : Nat → Int32} {s n2 : Nat} {t2 : Nat → Nat} {L2 : List xLn} {w : Nat} (hw : w ≤ 3) (d : Nat) (hr : xro ρ) (hs : s < 6) (es : σ s = some (n2, t2, L2)) {S : xS} (hX : XC S) (hS : xSl S ρ σ) (hD : xDC S ρ σ δ) (g1 : xcall false (d + 5) j_X11_rhymeIn [.ref 0, .int sv] S (some (.ref (ρ s))) S) : ∃ S', xcall false (d + 6) j_X11_mixed [.ref 0, .int sv, .int (nI w)] S (some (.int (xmx (xmo (xel σ δ s) (xmc σ s L2.length) L2.length 6) w))) S' ∧ xFl (fun i _ => 137 ≤ i ∧ i ≤ 185) S S' := by
  obtain ⟨r, S', g, rfl, z⟩ := xcall_some (al := false) (d := d + 6) (ls := [.ref 0, .int sv, .int (nI w), .float 0, .float 0, .float 0]) (S := S) (as := [.ref 0, .int sv, .int (nI w)]) q_X11_mixed (by decide) rfl (Nat.le_of_ble_eq_true rfl) rfl
    (P := (fun r S' => r = some (.int (xmx (xmo (xel σ δ s) (xmc σ s L2.length) L2.length 6) w)) ∧ xFl (fun i _ => 137 ≤ i ∧ i ≤ 185) S S')) (by
      refine wp_aload_n dX11_mixed_0 rfl rfl (wp_iload_n dX11_mixed_1 rfl (wp_iv2 dX11_mixed_2 k10_155 q_X11_rhymeIn (by decide) (xsh hX sh_0) (by decide) (Nat.le_of_ble_eq_true rfl) g1 (wp_astore_n dX11_mixed_5 rfl ⟨Nat.le_of_ble_eq_true rfl, Or.inr rfl⟩ rfl (wp_aload_n dX11_mixed_6 rfl rfl (wp_ifnull_R dX11_mixed_7 rfl (wp_iload_n dX11_mixed_10 rfl ?_))))))
      refine wn_if_lt dX11_mixed_11 rfl (by omega) ?_
      refine wp_iload_n dX11_mixed_14 rfl (wp_iconst (v := nI 3) dX11_mixed_15 rfl ?_)
      refine wn_icmp_le dX11_mixed_16 rfl (by omega) (by omega) (fun c16 => ?_) (fun c16 => absurd c16 (by omega))
      exact wp_iconst (v := nI 0) dX11_mixed_21 rfl (wp_istore dX11_mixed_22 ⟨Nat.le_of_ble_eq_true rfl, Or.inr rfl⟩ rfl (mxl_loop hw hr hs es 6 0 S _ rfl hX hS hD (fun p hp => absurd hp (Nat.not_lt_zero p)))))
  exact ⟨S', g, z⟩
