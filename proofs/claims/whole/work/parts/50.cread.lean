/-! A RHYME's text: the class reads it whole -/
def xcra (t : Nat → Nat) (m : Nat) (big : Bool) : Nat → xRw → Except (Nat × Nat) (List (Nat × Nat) × List Nat)
  | 0, (s, Q, F, _, _, sb) => if big = true ∨ s < 4 then .error (1, m) else if sb = false then .error (3, 0) else .ok (Q, F ++ [Q.length])
  | j + 1, (s, Q, F, w, tb, sb) => match xcst (t (m - (j + 1))) (m - (j + 1)) s Q F w tb sb with
    | .error e => .error (e, m - (j + 1))
    | .ok r => xcra t m big j r
/-- what holds at a place of the text -/
def xRI (p : Nat) (r : xRw) : Prop := r.1 ≤ 6 ∧ 2 * r.2.1.length ≤ p + (if r.1 = 0 ∨ r.1 = 3 then 0 else 1) ∧ (4 ≤ r.1 → 0 < r.2.1.length) ∧ (r.1 = 4 → r.2.2.2.1 ≤ 12) ∧ 0 < r.2.2.1.length ∧ r.2.2.1.length ≤ 16
theorem xRI_ti {c p : Nat} {Q : List (Nat × Nat)} {F : List Nat} {tb sb : Bool} {r : xRw} (h : xcti c p Q F tb sb = .ok r) (hq : 2 * Q.length ≤ p) (hf : 0 < F.length ∧ F.length ≤ 16) : xRI (p + 1) r := by
  unfold xcti at h
  split at h
  · cases h
  · rename_i k hk
    split at h
    · cases h
    · cases h
      have hl := xlen1 Q (p, k)
      refine ⟨?_, ?_, fun _ => ?_, fun _ => by show (1 : Nat) ≤ 12; decide, hf.1, hf.2⟩
      · show (if k = 0 then 4 else if k = 4 then 6 else 5) ≤ 6
        repeat' split
        all_goals decide
      · show 2 * (Q ++ [(p, k)]).length ≤ p + 1 + _
        rw [hl, if_neg]
        · omega
        · show ¬ ((if k = 0 then 4 else if k = 4 then 6 else 5) = 0 ∨ (if k = 0 then 4 else if k = 4 then 6 else 5) = 3)
          repeat' split
          all_goals decide
      · show 0 < (Q ++ [(p, k)]).length
        rw [hl]; omega
theorem xRI_tb {c p w : Nat} {Q : List (Nat × Nat)} {F : List Nat} {tb sb : Bool} {r : xRw} (h : xctb c Q F w tb sb = .ok r) (hq : 2 * Q.length ≤ p + 1) (hf : 0 < F.length ∧ F.length ≤ 16) : xRI (p + 1) r := by
  unfold xctb at h
  split at h
  · cases h
    exact ⟨by show (3 : Nat) ≤ 6; decide, by show 2 * Q.length ≤ p + 1 + 0; omega, fun w => absurd w (by show ¬ 4 ≤ 3; decide), fun w => absurd w (by show ¬ (3 : Nat) = 4; decide), hf.1, hf.2⟩
  · split at h
    · split at h
      · cases h
      · rename_i hl
        cases h
        have hl2 := xlen1 F Q.length
        exact ⟨by show (0 : Nat) ≤ 6; decide, by show 2 * Q.length ≤ p + 1 + 0; omega, fun w => absurd w (by show ¬ 4 ≤ 0; decide), fun w => absurd w (by show ¬ (0 : Nat) = 4; decide), by show 0 < (F ++ [Q.length]).length; omega, by show (F ++ [Q.length]).length ≤ 16; omega⟩
    · cases h
theorem xRI_step {c p s w : Nat} {Q : List (Nat × Nat)} {F : List Nat} {tb sb : Bool} {r : xRw} (h : xcst c p s Q F w tb sb = .ok r) (hI : xRI p (s, Q, F, w, tb, sb)) : xRI (p + 1) r := by
  obtain ⟨i1, i2, i3, i4, i5⟩ := hI
  replace i1 : s ≤ 6 := i1
  replace i2 : 2 * Q.length ≤ p + (if s = 0 ∨ s = 3 then 0 else 1) := i2
  replace i3 : 4 ≤ s → 0 < Q.length := i3
  replace i4 : s = 4 → w ≤ 12 := i4
  replace i5 : 0 < F.length ∧ F.length ≤ 16 := i5
  unfold xcst at h
  rcases (show s = 0 ∨ s = 1 ∨ s = 2 ∨ s = 3 ∨ s = 4 ∨ s = 5 ∨ s = 6 by omega) with rfl | rfl | rfl | rfl | rfl | rfl | rfl
  · rw [if_pos rfl] at h
    rw [if_pos (Or.inl rfl)] at i2
    split at h
    · cases h
      have hl := xlen1 Q (p, 5)
      exact ⟨by show (1 : Nat) ≤ 6; decide, by show 2 * (Q ++ [(p, 5)]).length ≤ p + 1 + 1; omega, fun w => absurd w (by show ¬ 4 ≤ 1; decide), fun w => absurd w (by show ¬ (1 : Nat) = 4; decide), i5.1, i5.2⟩
    · exact xRI_ti h (by omega) i5
  · rw [if_neg (by decide), if_pos rfl] at h
    rw [if_neg (by decide)] at i2
    split at h
    · cases h
      exact ⟨by show (2 : Nat) ≤ 6; decide, by show 2 * Q.length ≤ p + 1 + 1; omega, fun w => absurd w (by show ¬ 4 ≤ 2; decide), fun w => absurd w (by show ¬ (2 : Nat) = 4; decide), i5.1, i5.2⟩
    · cases h
  · rw [if_neg (by decide), if_neg (by decide), if_pos rfl] at h
    rw [if_neg (by decide)] at i2
    split at h
    · cases h
      exact ⟨by show (3 : Nat) ≤ 6; decide, by show 2 * Q.length ≤ p + 1 + 0; omega, fun w => absurd w (by show ¬ 4 ≤ 3; decide), fun w => absurd w (by show ¬ (3 : Nat) = 4; decide), i5.1, i5.2⟩
    · cases h
  · rw [if_neg (by decide), if_neg (by decide), if_neg (by decide), if_pos rfl] at h
    rw [if_pos (Or.inr rfl)] at i2
    exact xRI_ti h (by omega) i5
  · rw [if_neg (by decide), if_neg (by decide), if_neg (by decide), if_neg (by decide), if_pos rfl] at h
    rw [if_neg (by decide)] at i2
    have i3' := i3 (by decide)
    split at h
    · split at h
      · cases h
      · cases h
        exact ⟨by show (4 : Nat) ≤ 6; decide, by show 2 * Q.length ≤ p + 1 + 1; omega, fun _ => i3', fun _ => by show w + 1 ≤ 12; omega, i5.1, i5.2⟩
    · split at h
      · cases h
        have hl := xqset_len Q
        exact ⟨by show (5 : Nat) ≤ 6; decide, by show 2 * (xqset Q).length ≤ p + 1 + 1; omega, fun _ => by show 0 < (xqset Q).length; omega, fun w => absurd w (by show ¬ (5 : Nat) = 4; decide), i5.1, i5.2⟩
      · exact xRI_tb h (by omega) i5
  · rw [if_neg (by decide), if_neg (by decide), if_neg (by decide), if_neg (by decide), if_neg (by decide), if_pos rfl] at h
    rw [if_neg (by decide)] at i2
    exact xRI_tb h (by omega) i5
  · rw [if_neg (by decide), if_neg (by decide), if_neg (by decide), if_neg (by decide), if_neg (by decide), if_neg (by decide)] at h
    cases h
/-- a rhyme's rows in the class -/
def xRR (a : Nat) (S : xS) (m : Nat) (t : Nat → Nat) (Q : List (Nat × Nat)) (F : List Nat) : Prop :=
  S.2.1 a 1 = nI m ∧ (∀ k, k < m → S.2.1 (a + 1) k = nI (t k)) ∧ S.2.1 a 5 = nI Q.length ∧ (∀ i, i < Q.length → S.2.1 (a + 2) i = nI (Q.getD i (0, 0)).1 ∧ S.2.1 (a + 3) i = nI (Q.getD i (0, 0)).2) ∧ S.2.1 a 7 = nI (F.length - 1) ∧ ∀ l, l < F.length → S.2.1 (a + 5) l = nI (F.getD l 0)
def xFRr (a i k : Nat) : Prop := i = a ∨ i = a + 1 ∨ i = a + 2 ∨ i = a + 3 ∨ i = a + 5
theorem xFR1_r (a i k : Nat) (h : xFR1 a i k) : xFRr a i k := by unfold xFR1 at h; unfold xFRr; omega
def xROut (a : Nat) (t : Nat → Nat) (m : Nat) (S' : xS) (k : Int32) (X : Except (Nat × Nat) (List (Nat × Nat) × List Nat)) : Prop :=
  (∀ e q, X = .error (e, q) → k = -1 - nI q ∧ S'.2.1 a 10 = nI e ∧ S'.2.1 a 9 = nI 0) ∧ (∀ Q F, X = .ok (Q, F) → k = nI (F.length - 1) ∧ S'.2.1 a 10 = nI 0 ∧ S'.2.1 a 9 = nI 1 ∧ S'.2.1 a 8 = nI 0 ∧ xRR a S' m t Q F)
theorem c_refuseR {a : Nat} (d : Nat) (ho : xRo a) {S : xS} (hX : XC S) (e q : Nat) : xcall false d j_X3_refuse [.ref a, .int (nI e), .int (nI q)] S (some (.int (-1 - nI q))) (xSI S a 10 (nI e)) := by
  obtain ⟨ha, h1, h2, h3, h4, h5, q0, q2, q3, q4, q6⟩ := ho.sh hX
  refine xcall_intro (ls := [.ref a, .int (nI e), .int (nI q)]) q_X3_refuse (by decide) rfl (Nat.le_of_ble_eq_true rfl) rfl ?_
  exact wp_aload_n dX3_refuse_0 rfl rfl (wp_iload_n dX3_refuse_1 rfl (p3_70 dX3_refuse_2 ha (wp_iconst (v := -1) dX3_refuse_5 rfl (wp_iload_n dX3_refuse_6 rfl (wv_isub dX3_refuse_7 rfl (wp_ireturn dX3_refuse_8 rfl rfl ⟨rfl, rfl⟩))))))
theorem xcti_e {c p e : Nat} {Q : List (Nat × Nat)} {F : List Nat} {tb sb : Bool} (h : xcti c p Q F tb sb = .error e) : e = 1 ∨ e = 2 := by
  unfold xcti at h
  split at h
  · cases h; exact Or.inl rfl
  · split at h
    · cases h; exact Or.inl rfl
    · cases h
theorem xctb_e {c w e : Nat} {Q : List (Nat × Nat)} {F : List Nat} {tb sb : Bool} (h : xctb c Q F w tb sb = .error e) : e = 1 ∨ e = 2 := by
  unfold xctb at h
  repeat' split at h
  all_goals first | (cases h; done) | (cases h; decide)
theorem xcst_e {c p s w e : Nat} {Q : List (Nat × Nat)} {F : List Nat} {tb sb : Bool} (h : xcst c p s Q F w tb sb = .error e) : e = 1 ∨ e = 2 := by
  unfold xcst at h
  repeat' split at h
  all_goals first | exact xcti_e h | exact xctb_e h | (cases h; done) | (cases h; decide)
theorem rr_loop {a n m d : Nat} {t : Nat → Nat} (ho : xRo a) (hm : m = min n 240) (hn : n ≤ 260) : ∀ (j i s w : Nat) (Q : List (Nat × Nat)) (F : List Nat) (tb sb : Bool) (S : xS) (y : Value), i + j = m → XC S → xCR a S (s, Q, F, w, tb, sb) → xRI i (s, Q, F, w, tb, sb) → S.2.1 a 1 = nI m → S.2.1 a 9 = nI 0 → S.2.1 a 8 = nI 0 → (∀ k, k < i → S.2.1 (a + 1) k = nI (t k)) → (∀ k, k < n → t k < 256 ∧ S.2.1 2 k = nI (t k)) → Wp false (d + 5) 3 cX3_read (some .int) false 62 [.ref a, .ref 2, .int (nI n), .int (nI i), y] [] S (fun r S' => ∃ k, r = some (.int k) ∧ xFl (xFRr a) S S' ∧ xROut a t m S' k (xcra t m (decide (m < n)) j (s, Q, F, w, tb, sb))) := by
  intro j
  induction j with
  | zero =>
    intro i s w Q F tb sb S y hi hX hR hI hm1 h9 h8 htx hT
    have hou := ho
    unfold xRo at hou
    have him : i = m := by omega
    subst him
    obtain ⟨ha, h1, h2, h3, h4, h5, q0, q2, q3, q4, q6⟩ := ho.sh hX
    obtain ⟨r1, r2, r3, r4, r5, r6, r7, r8⟩ := id hR
    have k5 : S.2.1 a 5 = nI Q.length := r1
    have k7 : S.2.1 a 7 = nI F.length := r3
    have k11 : S.2.1 a 11 = nI s := r5
    have k13 : S.2.1 a 13 = xB tb := r7
    have k14 : S.2.1 a 14 = xB sb := r8
    have rf : xFl (xFR1 a) S S := xFl.rf S
    obtain ⟨i1, i2, i3, i4, i5⟩ := hI
    replace i1 : s ≤ 6 := i1
    replace i5 : 0 < F.length ∧ F.length ≤ 16 := i5
    have rg : xFl (xFRr a) S S := xFl.rf S
    have bad (e q : Nat) (EX : xcra t i (decide (i < n)) 0 (s, Q, F, w, tb, sb) = .error (e, q)) : xFl (xFRr a) S (xSI S a 10 (nI e)) ∧ xROut a t i (xSI S a 10 (nI e)) (-1 - nI q) (xcra t i (decide (i < n)) 0 (s, Q, F, w, tb, sb)) :=
      ⟨rg.SI (Or.inl rfl), fun e' q' h => (by rw [EX] at h; cases h; exact ⟨rfl, xI_same _ _ _ _, xi h9 (Or.inr (by decide))⟩), fun Q' F' h => (by rw [EX] at h; cases h)⟩
    rcases Nat.lt_or_ge i n with hbig | hbig
    · have EX : xcra t i (decide (i < n)) 0 (s, Q, F, w, tb, sb) = .error (1, i) := by unfold xcra; rw [if_pos (Or.inl (decide_eq_true hbig))]
      have gb := c_refuseR (d + 4) ho hX 1 i
      refine wp_iload_n dX3_read_62 rfl (wp_aload_n dX3_read_63 rfl rfl (gv3_57 dX3_read_64 ha hm1 ?_))
      refine wn_icmp_ge dX3_read_67 rfl (by omega) (by omega) (fun c67 => ?_) (fun c67 => absurd c67 (by omega))
      refine wp_iload_n dX3_read_108 rfl (wp_aload_n dX3_read_109 rfl rfl (gv3_57 dX3_read_110 ha hm1 ?_))
      refine wn_icmp_gt dX3_read_113 rfl (by omega) (by omega) (fun c113 => ?_) (fun c113 => absurd c113 (by omega))
      exact wp_aload_n dX3_read_124 rfl rfl (wp_iconst (v := nI 1) dX3_read_125 rfl (wp_aload_n dX3_read_126 rfl rfl (gv3_57 dX3_read_127 ha hm1 (wp_iv3 dX3_read_130 k3_64 q_X3_refuse (by decide) ha (by decide) (Nat.le_of_ble_eq_true rfl) gb (wp_ireturn dX3_read_133 rfl rfl ⟨_, rfl, bad 1 i EX⟩)))))
    · rcases Nat.lt_or_ge s 4 with hs4 | hs4
      · have EX : xcra t i (decide (i < n)) 0 (s, Q, F, w, tb, sb) = .error (1, i) := by unfold xcra; rw [if_pos (Or.inr hs4)]
        have gb := c_refuseR (d + 4) ho hX 1 i
        refine wp_iload_n dX3_read_62 rfl (wp_aload_n dX3_read_63 rfl rfl (gv3_57 dX3_read_64 ha hm1 ?_))
        refine wn_icmp_ge dX3_read_67 rfl (by omega) (by omega) (fun c67 => ?_) (fun c67 => absurd c67 (by omega))
        refine wp_iload_n dX3_read_108 rfl (wp_aload_n dX3_read_109 rfl rfl (gv3_57 dX3_read_110 ha hm1 ?_))
        refine wn_icmp_gt dX3_read_113 rfl (by omega) (by omega) (fun c113 => absurd c113 (by omega)) (fun c113 => ?_)
        refine wp_aload_n dX3_read_116 rfl rfl (gv3_42 dX3_read_117 ha k11 (wp_iconst (v := nI 4) dX3_read_120 rfl ?_))
        refine wn_icmp_ge dX3_read_121 rfl (by omega) (by omega) (fun c121 => absurd c121 (by omega)) (fun c121 => ?_)
        exact wp_aload_n dX3_read_124 rfl rfl (wp_iconst (v := nI 1) dX3_read_125 rfl (wp_aload_n dX3_read_126 rfl rfl (gv3_57 dX3_read_127 ha hm1 (wp_iv3 dX3_read_130 k3_64 q_X3_refuse (by decide) ha (by decide) (Nat.le_of_ble_eq_true rfl) gb (wp_ireturn dX3_read_133 rfl rfl ⟨_, rfl, bad 1 i EX⟩)))))
      · cases sb with
        | false =>
          have EX : xcra t i (decide (i < n)) 0 (s, Q, F, w, tb, false) = .error (3, 0) := by unfold xcra; rw [if_neg (by simp; omega), if_pos rfl]
          have gb := c_refuseR (d + 4) ho hX 3 0
          refine wp_iload_n dX3_read_62 rfl (wp_aload_n dX3_read_63 rfl rfl (gv3_57 dX3_read_64 ha hm1 ?_))
          refine wn_icmp_ge dX3_read_67 rfl (by omega) (by omega) (fun c67 => ?_) (fun c67 => absurd c67 (by omega))
          refine wp_iload_n dX3_read_108 rfl (wp_aload_n dX3_read_109 rfl rfl (gv3_57 dX3_read_110 ha hm1 ?_))
          refine wn_icmp_gt dX3_read_113 rfl (by omega) (by omega) (fun c113 => absurd c113 (by omega)) (fun c113 => ?_)
          refine wp_aload_n dX3_read_116 rfl rfl (gv3_42 dX3_read_117 ha k11 (wp_iconst (v := nI 4) dX3_read_120 rfl ?_))
          refine wn_icmp_ge dX3_read_121 rfl (by omega) (by omega) (fun c121 => ?_) (fun c121 => absurd c121 (by omega))
          refine wp_aload_n dX3_read_134 rfl rfl (gv3_48 dX3_read_135 ha k14 ?_)
          refine wb_if_ne dX3_read_138 rfl (fun c138 => absurd c138 (by decide)) (fun c138 => ?_)
          exact wp_aload_n dX3_read_141 rfl rfl (wp_iconst (v := nI 3) dX3_read_142 rfl (wp_iconst (v := nI 0) dX3_read_143 rfl (wp_iv3 dX3_read_144 k3_64 q_X3_refuse (by decide) ha (by decide) (Nat.le_of_ble_eq_true rfl) gb (wp_ireturn dX3_read_147 rfl rfl ⟨_, rfl, bad 3 0 EX⟩))))
        | true =>
          have EX : xcra t i (decide (i < n)) 0 (s, Q, F, w, tb, true) = .ok (Q, F ++ [Q.length]) := by unfold xcra; rw [if_neg (by simp; omega), if_neg (by decide)]
          have ge := c_endLine (d + 4) ho hX k5 k7 i5
          have k7b : (xSI S (a + 5) F.length (nI Q.length)).2.1 a 7 = nI F.length := xi k7 (Or.inl (by omega))
          have hl := xlen1 F Q.length
          have ff : xFl (xFRr a) S (xSI (xSI (xSI S (a + 5) F.length (nI Q.length)) a 10 (nI 0)) a 9 (nI 1)) := ((rg.SI (Or.inr (Or.inr (Or.inr (Or.inr rfl))))).SI (Or.inl rfl)).SI (Or.inl rfl)
          have kx : ∀ x v, S.2.1 a x = v → x ≠ 9 ∧ x ≠ 10 → (xSI (xSI (xSI S (a + 5) F.length (nI Q.length)) a 10 (nI 0)) a 9 (nI 1)).2.1 a x = v := fun x v h hx => xi (xi (xi h (Or.inl (by omega))) (Or.inr hx.2)) (Or.inr hx.1)
          have out : xROut a t i (xSI (xSI (xSI S (a + 5) F.length (nI Q.length)) a 10 (nI 0)) a 9 (nI 1)) (nI F.length) (xcra t i (decide (i < n)) 0 (s, Q, F, w, tb, true)) := by
            refine ⟨fun e q h => (by rw [EX] at h; cases h), fun Q' F' h => ?_⟩
            rw [EX] at h
            cases h
            refine ⟨by rw [hl]; rfl, xi (xI_same _ _ _ _) (Or.inr (by decide)), xI_same _ _ _ _, kx 8 _ h8 (by decide), kx 1 _ hm1 (by decide), fun k hk => xi (xi (xi (htx k hk) (Or.inl (by omega))) (Or.inl (by omega))) (Or.inl (by omega)), kx 5 _ k5 (by decide), fun i hi => ⟨xi (xi (xi (r2 i hi).1 (Or.inl (by omega))) (Or.inl (by omega))) (Or.inl (by omega)), xi (xi (xi (r2 i hi).2 (Or.inl (by omega))) (Or.inl (by omega))) (Or.inl (by omega))⟩, by rw [hl]; exact kx 7 _ k7 (by decide), fun l hl2 => ?_⟩
            rw [xgetD_app l hl2]
            rw [hl] at hl2
            split
            · rename_i q; exact xi (xi (xi (r4 l q) (Or.inr (by omega))) (Or.inl (by omega))) (Or.inl (by omega))
            · rw [show l = F.length by omega]; exact xi (xi (xI_same _ _ _ _) (Or.inl (by omega))) (Or.inl (by omega))
          refine wp_iload_n dX3_read_62 rfl (wp_aload_n dX3_read_63 rfl rfl (gv3_57 dX3_read_64 ha hm1 ?_))
          refine wn_icmp_ge dX3_read_67 rfl (by omega) (by omega) (fun c67 => ?_) (fun c67 => absurd c67 (by omega))
          refine wp_iload_n dX3_read_108 rfl (wp_aload_n dX3_read_109 rfl rfl (gv3_57 dX3_read_110 ha hm1 ?_))
          refine wn_icmp_gt dX3_read_113 rfl (by omega) (by omega) (fun c113 => absurd c113 (by omega)) (fun c113 => ?_)
          refine wp_aload_n dX3_read_116 rfl rfl (gv3_42 dX3_read_117 ha k11 (wp_iconst (v := nI 4) dX3_read_120 rfl ?_))
          refine wn_icmp_ge dX3_read_121 rfl (by omega) (by omega) (fun c121 => ?_) (fun c121 => absurd c121 (by omega))
          refine wp_aload_n dX3_read_134 rfl rfl (gv3_48 dX3_read_135 ha k14 ?_)
          refine wb_if_ne dX3_read_138 rfl (fun c138 => ?_) (fun c138 => absurd c138 (by decide))
          exact wp_aload_n dX3_read_148 rfl rfl (wp_iv1 dX3_read_149 k3_67 q_X3_endLine (by decide) ha (by decide) (Nat.le_of_ble_eq_true rfl) ge (wp_aload_n dX3_read_152 rfl rfl (wp_iconst (v := nI 0) dX3_read_153 rfl (p3_70 dX3_read_154 ha (wp_aload_n dX3_read_157 rfl rfl (wp_iconst (v := nI 1) dX3_read_158 rfl (p3_28 dX3_read_159 ha (Or.inr rfl) (wp_aload_n dX3_read_162 rfl rfl (gv3_39 dX3_read_163 ha (xi (xi k7b (Or.inr (by decide))) (Or.inr (by decide))) (wp_ireturn dX3_read_166 rfl rfl ⟨_, rfl, ff, out⟩))))))))))
  | succ j ih =>
    intro i s w Q F tb sb S y hi hX hR hI hm1 h9 h8 htx hT
    have hou := ho
    unfold xRo at hou
    have ein : m - (j + 1) = i := by omega
    obtain ⟨ha, h1, h2, h3, h4, h5, q0, q2, q3, q4, q6⟩ := ho.sh hX
    obtain ⟨hc, hch⟩ := hT i (by omega)
    have hI0 := hI
    obtain ⟨i1, i2, i3, i4, i5⟩ := hI
    replace i1 : s ≤ 6 := i1
    replace i2 : 2 * Q.length ≤ i + (if s = 0 ∨ s = 3 then 0 else 1) := i2
    replace i3 : 4 ≤ s → 0 < Q.length := i3
    replace i4 : s = 4 → w ≤ 12 := i4
    replace i5 : 0 < F.length ∧ F.length ≤ 16 := i5
    have hq1 : Q.length < 120 ∨ (s ≠ 0 ∧ s ≠ 3) := by
      rcases Decidable.em (s = 0 ∨ s = 3) with q | q
      · rw [if_pos q] at i2; omega
      · omega
    have hq2 : Q.length ≤ 120 := by split at i2 <;> omega
    have F0 : xFl (fun x k => x = a + 1 ∧ k = i) S (xSI S (a + 1) i (nI (t i))) := (xFl.rf S).SI ⟨rfl, rfl⟩
    have R1 : xCR a (xSI S (a + 1) i (nI (t i))) (s, Q, F, w, tb, sb) := by
      obtain ⟨z1, z2, z3, z4, z5, z6, z7, z8⟩ := hR
      exact ⟨F0.i z1 (by omega), fun i hi => ⟨F0.i (z2 i hi).1 (by omega), F0.i (z2 i hi).2 (by omega)⟩, F0.i z3 (by omega), fun i hi => F0.i (z4 i hi) (by omega), F0.i z5 (by omega), fun e => F0.i (z6 e) (by omega), F0.i z7 (by omega), F0.i z8 (by omega)⟩
    obtain ⟨S2, g2, f2, z2⟩ := c_rtake (p := i) d ho (S := xSI S (a + 1) i (nI (t i))) hX R1 hc (by omega) i1 hq1 (fun e => i3 (by omega)) hq2 i4 i5
    have X2 := f2.XC (F0.XC hX)
    have FF : xFl (xFRr a) S S2 := (F0.mono (fun x k h => Or.inr (Or.inl h.1))).tt (f2.mono (xFR1_r a))
    have m2 : S2.2.1 a 1 = nI m := f2.i (F0.i hm1 (by omega)) (by unfold xFR1; omega)
    have q9 : S2.2.1 a 9 = nI 0 := f2.i (F0.i h9 (by omega)) (by unfold xFR1; omega)
    have q8 : S2.2.1 a 8 = nI 0 := f2.i (F0.i h8 (by omega)) (by unfold xFR1; omega)
    have tx2 : ∀ k, k < i + 1 → S2.2.1 (a + 1) k = nI (t k) := by
      intro k hk
      refine f2.i ?_ (by unfold xFR1; omega)
      rcases Nat.lt_or_ge k i with q | q
      · exact F0.i (htx k q) (by omega)
      · rw [show k = i by omega]; exact xI_same _ _ _ _
    have T2 : ∀ k, k < n → t k < 256 ∧ S2.2.1 2 k = nI (t k) := fun k hk => ⟨(hT k hk).1, f2.i (F0.i (hT k hk).2 (by omega)) (by unfold xFR1; omega)⟩
    cases hst : xcst (t i) i s Q F w tb sb with
    | error e =>
      have EX : xcra t m (decide (m < n)) (j + 1) (s, Q, F, w, tb, sb) = .error (e, i) := by rw [xcra, ein, hst]
      rw [hst] at g2
      have he : e = 1 ∨ e = 2 := xcst_e hst
      have gb := c_refuseR (d + 4) ho X2 e i
      have out : xROut a t m (xSI S2 a 10 (nI e)) (-1 - nI i) (xcra t m (decide (m < n)) (j + 1) (s, Q, F, w, tb, sb)) :=
        ⟨fun e' q' h => (by rw [EX] at h; cases h; exact ⟨rfl, xI_same _ _ _ _, xi q9 (Or.inr (by decide))⟩), fun Q' F' h => (by rw [EX] at h; cases h)⟩
      have ff := FF.SI (a := a) (k := 10) (v := nI e) (Or.inl rfl)
      have g2' : xcall false (d + 4) j_X3_take [.ref a, .int (nI (t i)), .int (nI i)] (xSI S (a + 1) i (nI (t i))) (some (.int (nI e))) S2 := g2
      refine wp_iload_n dX3_read_62 rfl (wp_aload_n dX3_read_63 rfl rfl (gv3_57 dX3_read_64 (by first | exact ha | exact (f2.sh ha)) hm1 ?_))
      refine wn_icmp_ge dX3_read_67 rfl (by omega) (by omega) (fun c67 => absurd c67 (by omega)) (fun c67 => ?_)
      refine wp_aload_n dX3_read_70 rfl rfl (g3_11 dX3_read_71 (by first | exact ha | exact (f2.sh ha)) q0 (wp_iload_n dX3_read_74 rfl (wp_aload_n dX3_read_75 rfl rfl (wp_iload_n dX3_read_76 rfl (wn_caload dX3_read_77 (xsh hX sh_2) rfl (by omega) (by decide) hch (wn_castore dX3_read_78 h1 rfl (by omega) (by decide) (xnc (by omega)) (wp_aload_n dX3_read_79 rfl rfl (wp_aload_n dX3_read_80 rfl rfl (wp_iload_n dX3_read_81 rfl (wn_caload dX3_read_82 (xsh hX sh_2) rfl (by omega) (by decide) (xi hch (Or.inl (by omega))) (wp_iload_n dX3_read_83 rfl (wp_iv3 dX3_read_84 k3_60 q_X3_take (by decide) (by first | exact ha | exact (f2.sh ha)) (by decide) (Nat.le_of_ble_eq_true rfl) g2' (wp_istore dX3_read_87 ⟨Nat.le_of_ble_eq_true rfl, Or.inr rfl⟩ rfl (wp_iload dX3_read_89 rfl ?_))))))))))))))
      refine wn_if_eq dX3_read_91 rfl (by omega) (fun c91 => absurd c91 (by omega)) (fun c91 => ?_)
      exact wp_aload_n dX3_read_94 rfl rfl (wp_iload dX3_read_95 rfl (wp_iload_n dX3_read_97 rfl (wp_iv3 dX3_read_98 k3_64 q_X3_refuse (by decide) (by first | exact ha | exact (f2.sh ha)) (by decide) (Nat.le_of_ble_eq_true rfl) gb (wp_ireturn dX3_read_101 rfl rfl ⟨_, rfl, ff, out⟩))))
    | ok r =>
      obtain ⟨s2, Q2, F2, w2, tb2, sb2⟩ := r
      have EX : xcra t m (decide (m < n)) (j + 1) (s, Q, F, w, tb, sb) = xcra t m (decide (m < n)) j (s2, Q2, F2, w2, tb2, sb2) := by rw [xcra, ein, hst]
      rw [hst] at g2
      rw [EX]
      have g2' : xcall false (d + 4) j_X3_take [.ref a, .int (nI (t i)), .int (nI i)] (xSI S (a + 1) i (nI (t i))) (some (.int (nI 0))) S2 := g2
      refine wp_iload_n dX3_read_62 rfl (wp_aload_n dX3_read_63 rfl rfl (gv3_57 dX3_read_64 ha hm1 ?_))
      refine wn_icmp_ge dX3_read_67 rfl (by omega) (by omega) (fun c67 => absurd c67 (by omega)) (fun c67 => ?_)
      refine wp_aload_n dX3_read_70 rfl rfl (g3_11 dX3_read_71 ha q0 (wp_iload_n dX3_read_74 rfl (wp_aload_n dX3_read_75 rfl rfl (wp_iload_n dX3_read_76 rfl (wn_caload dX3_read_77 (xsh hX sh_2) rfl (by omega) (by decide) hch (wn_castore dX3_read_78 h1 rfl (by omega) (by decide) (xnc (by omega)) (wp_aload_n dX3_read_79 rfl rfl (wp_aload_n dX3_read_80 rfl rfl (wp_iload_n dX3_read_81 rfl (wn_caload dX3_read_82 (xsh hX sh_2) rfl (by omega) (by decide) (xi hch (Or.inl (by omega))) (wp_iload_n dX3_read_83 rfl (wp_iv3 dX3_read_84 k3_60 q_X3_take (by decide) ha (by decide) (Nat.le_of_ble_eq_true rfl) g2' (wp_istore dX3_read_87 ⟨Nat.le_of_ble_eq_true rfl, Or.inr rfl⟩ rfl (wp_iload dX3_read_89 rfl ?_))))))))))))))
      refine wn_if_eq dX3_read_91 rfl (by omega) (fun c91 => ?_) (fun c91 => absurd c91 (by omega))
      refine wp_iinc dX3_read_102 rfl (nI_1 _) ⟨Nat.le_of_ble_eq_true rfl, Or.inr rfl⟩ rfl (wp_goto dX3_read_105 rfl ?_)
      refine (ih (i + 1) s2 w2 Q2 F2 tb2 sb2 S2 _ (by omega) X2 (z2 _ hst) (xRI_step hst hI0) m2 q9 q8 tx2 T2).mono ?_
      rintro r S' ⟨k, y1, y2, y3⟩
      exact ⟨k, y1, FF.tt y2, y3⟩
theorem c_rread {a n : Nat} {t : Nat → Nat} (d : Nat) (ho : xRo a) (hn : n ≤ 260) {S : xS} (hX : XC S) (hT : ∀ k, k < n → t k < 256 ∧ S.2.1 2 k = nI (t k)) : ∃ k S', xcall false (d + 5) j_X3_read [.ref a, .ref 2, .int (nI n)] S (some (.int k)) S' ∧ xFl (xFRr a) S S' ∧ xROut a t (min n 240) S' k (xcra t (min n 240) (decide (min n 240 < n)) (min n 240) (0, [], [0], 0, false, false)) := by
  obtain ⟨ha, h1, h2, h3, h4, h5, q0, q2, q3, q4, q6⟩ := ho.sh hX
  have hou := ho
  unfold xRo at hou
  have FA : xFl (fun i k => i = a ∨ i = a + 5) S (xSI (xSI (xSI (xSI (xSI (xSI (xSI (xSI (xSI (S) a 9 (nI 0)) a 8 (nI 0)) a 5 (nI 0)) a 7 (nI 1)) (a + 5) 0 (nI 0)) a 11 (nI 0)) a 13 (nI 0)) a 14 (nI 0)) a 1 (nI (min n 240))) := ((((((((((xFl.rf S)).SI (a := a) (k := 9) (Or.inl rfl)).SI (a := a) (k := 8) (Or.inl rfl)).SI (a := a) (k := 5) (Or.inl rfl)).SI (a := a) (k := 7) (Or.inl rfl)).SI (a := a + 5) (k := 0) (Or.inr rfl)).SI (a := a) (k := 11) (Or.inl rfl)).SI (a := a) (k := 13) (Or.inl rfl)).SI (a := a) (k := 14) (Or.inl rfl)).SI (a := a) (k := 1) (Or.inl rfl)
  have RA : xCR a (xSI (xSI (xSI (xSI (xSI (xSI (xSI (xSI (xSI (S) a 9 (nI 0)) a 8 (nI 0)) a 5 (nI 0)) a 7 (nI 1)) (a + 5) 0 (nI 0)) a 11 (nI 0)) a 13 (nI 0)) a 14 (nI 0)) a 1 (nI (min n 240))) (0, [], [0], 0, false, false) := by
    refine ⟨?_, fun i hi => absurd hi (Nat.not_lt_zero i), ?_, fun i hi => ?_, ?_, fun e => absurd e (fun w => by cases w), ?_, ?_⟩
    · exact xi (xi (xi (xi (xi (xi (xI_same _ _ _ _) (Or.inr (by decide))) (Or.inl (by omega))) (Or.inr (by decide))) (Or.inr (by decide))) (Or.inr (by decide))) (Or.inr (by decide))
    · exact xi (xi (xi (xi (xi (xI_same _ _ _ _) (Or.inl (by omega))) (Or.inr (by decide))) (Or.inr (by decide))) (Or.inr (by decide))) (Or.inr (by decide))
    · have : i = 0 := by have h : i < 1 := hi; omega
      subst this
      exact xi (xi (xi (xi (xI_same _ _ _ _) (Or.inl (by omega))) (Or.inl (by omega))) (Or.inl (by omega))) (Or.inl (by omega))
    · exact xi (xi (xi (xI_same _ _ _ _) (Or.inr (by decide))) (Or.inr (by decide))) (Or.inr (by decide))
    · exact xi (xi (xI_same _ _ _ _) (Or.inr (by decide))) (Or.inr (by decide))
    · exact xi (xI_same _ _ _ _) (Or.inr (by decide))
  have A9 : (xSI (xSI (xSI (xSI (xSI (xSI (xSI (xSI (xSI (S) a 9 (nI 0)) a 8 (nI 0)) a 5 (nI 0)) a 7 (nI 1)) (a + 5) 0 (nI 0)) a 11 (nI 0)) a 13 (nI 0)) a 14 (nI 0)) a 1 (nI (min n 240))).2.1 a 9 = nI 0 := xi (xi (xi (xi (xi (xi (xi (xi (xI_same _ _ _ _) (Or.inr (by decide))) (Or.inr (by decide))) (Or.inr (by decide))) (Or.inl (by omega))) (Or.inr (by decide))) (Or.inr (by decide))) (Or.inr (by decide))) (Or.inr (by decide))
  have A8 : (xSI (xSI (xSI (xSI (xSI (xSI (xSI (xSI (xSI (S) a 9 (nI 0)) a 8 (nI 0)) a 5 (nI 0)) a 7 (nI 1)) (a + 5) 0 (nI 0)) a 11 (nI 0)) a 13 (nI 0)) a 14 (nI 0)) a 1 (nI (min n 240))).2.1 a 8 = nI 0 := xi (xi (xi (xi (xi (xi (xi (xI_same _ _ _ _) (Or.inr (by decide))) (Or.inr (by decide))) (Or.inl (by omega))) (Or.inr (by decide))) (Or.inr (by decide))) (Or.inr (by decide))) (Or.inr (by decide))
  have A1 : (xSI (xSI (xSI (xSI (xSI (xSI (xSI (xSI (xSI (S) a 9 (nI 0)) a 8 (nI 0)) a 5 (nI 0)) a 7 (nI 1)) (a + 5) 0 (nI 0)) a 11 (nI 0)) a 13 (nI 0)) a 14 (nI 0)) a 1 (nI (min n 240))).2.1 a 1 = nI (min n 240) := xI_same _ _ _ _
  have key : ∃ r S', xcall false (d + 5) j_X3_read [.ref a, .ref 2, .int (nI n)] S r S' ∧ (∃ k, r = some (.int k) ∧ xFl (xFRr a) (xSI (xSI (xSI (xSI (xSI (xSI (xSI (xSI (xSI (S) a 9 (nI 0)) a 8 (nI 0)) a 5 (nI 0)) a 7 (nI 1)) (a + 5) 0 (nI 0)) a 11 (nI 0)) a 13 (nI 0)) a 14 (nI 0)) a 1 (nI (min n 240))) S' ∧ xROut a t (min n 240) S' k (xcra t (min n 240) (decide (min n 240 < n)) (min n 240) (0, [], [0], 0, false, false))) := by
    refine xcall_some (ls := [.ref a, .ref 2, .int (nI n), .float 0, .float 0]) q_X3_read (by decide) rfl (Nat.le_of_ble_eq_true rfl) rfl ?_
    exact wp_aload_n dX3_read_0 rfl rfl (wp_iconst (v := nI 0) dX3_read_1 rfl (p3_28 dX3_read_2 ha (Or.inl rfl) (wp_aload_n dX3_read_5 rfl rfl (wp_iconst (v := nI 0) dX3_read_6 rfl (p3_32 dX3_read_7 ha (wp_aload_n dX3_read_10 rfl rfl (wp_iconst (v := nI 0) dX3_read_11 rfl (p3_36 dX3_read_12 ha (wp_aload_n dX3_read_15 rfl rfl (wp_iconst (v := nI 1) dX3_read_16 rfl (p3_39 dX3_read_17 ha (wp_aload_n dX3_read_20 rfl rfl (g3_25 dX3_read_21 ha q6 (wp_iconst (v := nI 0) dX3_read_24 rfl (wp_iconst (v := nI 0) dX3_read_25 rfl (wn_iastore dX3_read_26 h5 rfl (by omega) (by decide) (wp_aload_n dX3_read_27 rfl rfl (wp_iconst (v := nI 0) dX3_read_28 rfl (p3_42 dX3_read_29 ha (wp_aload_n dX3_read_32 rfl rfl (wp_iconst (v := nI 0) dX3_read_33 rfl (p3_45 dX3_read_34 ha (Or.inl rfl) (wp_aload_n dX3_read_37 rfl rfl (wp_iconst (v := nI 0) dX3_read_38 rfl (p3_48 dX3_read_39 ha (Or.inl rfl) (wp_aload_n dX3_read_42 rfl rfl (wp_iload_n dX3_read_43 rfl (wp_aload_n dX3_read_44 rfl rfl (g3_11 dX3_read_45 ha q0 (wp_alen dX3_read_48 h1 ⟨by decide, by decide⟩ rfl (wp_aload_n dX3_read_49 rfl rfl (wp_alen (v := nI 260) dX3_read_50 (xsh hX sh_2) ⟨by decide, by decide⟩ rfl (wn_min dX3_read_51 k3_51 (Nat.le_of_ble_eq_true rfl) (by omega) (by omega) rfl (wn_min dX3_read_54 k3_51 (Nat.le_of_ble_eq_true rfl) (by omega) (by omega) rfl (p3_57 dX3_read_57 ha (wp_iconst (v := nI 0) dX3_read_60 rfl (wp_istore_n dX3_read_61 ⟨Nat.le_of_ble_eq_true rfl, Or.inr rfl⟩ rfl (rr_loop ho rfl hn (min n 240) 0 0 0 [] [0] false false (xSI (xSI (xSI (xSI (xSI (xSI (xSI (xSI (xSI (S) a 9 (nI 0)) a 8 (nI 0)) a 5 (nI 0)) a 7 (nI 1)) (a + 5) 0 (nI 0)) a 11 (nI 0)) a 13 (nI 0)) a 14 (nI 0)) a 1 (nI (min n 240))) _ (by omega) (FA.XC hX) RA ⟨by decide, by decide, fun w => absurd w (by decide), fun w => absurd w (fun q => by cases q), by decide, by decide⟩ A1 A9 A8 (fun k hk => absurd hk (Nat.not_lt_zero k)) (fun k hk => ⟨(hT k hk).1, FA.i (hT k hk).2 (by omega)⟩)))))))))))))))))))))))))))))))))))))))
  obtain ⟨r, S', g, k, rfl, z1, z2⟩ := key
  exact ⟨k, S', g, (FA.mono (fun i k h => h.elim (fun e => Or.inl e) (fun e => Or.inr (Or.inr (Or.inr (Or.inr e)))))).tt z1, z2⟩
