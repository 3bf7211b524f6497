/-! THE LAW'S CASES -/
section XLC
variable {p : Program} {l : Launch} {e : Env} {s : State} {m : MethodId} {args : Array Value} {below : List Frame} {meth : Method} {c : Code} {Q : State → Prop} {z : Nat} {D : va_G} {cy : Nat → ClassId} {sa sv : Nat → Nat} {b L : Nat} {xs : Nat → Int32} {rS : Option Value × xS}
/-- what stands in the law -/
def xLaw (p : Program) (l : Launch) (s : State) (m : MethodId) (args : Array Value) (meth : Method) (c : Code) (z : Nat) (D : va_G) (cy : Nat → ClassId) (sa sv : Nat → Nat) (b L : Nat) (xs : Nat → Int32) (rS : Option Value × xS) : Prop := (∀ C Sl, C ≤ 601024 → Sl ≤ 7293034 → xCx p room_1 s m args meth c z D cy sa sv 16 cL_law ret false 7 C Sl) ∧ xXG z s ∧ va_X b L xs s s.heap ∧ b < s.heap.size ∧ b < z ∧ sa 9 = b ∧ L < 2 ^ 31 ∧ rS.2.1 = xSH ∧ l.stackTraces = false
abbrev xls (i : Nat) (v5 v6 : Value) : List Value := [.retAddr 9, .ref 0, .ref 187, .ref 230, .int (nI i), v5, v6]
def xAt (p : Program) (l : Launch) (e : Env) (s : State) (m : MethodId) (args : Array Value) (below : List Frame) (meth : Method) (c : Code) (Q : State → Prop) (z : Nat) (D : va_G) (cy : Nat → ClassId) (sa : Nat → Nat) (rS : Option Value × xS) (C Sl pc i : Nat) (v5 v6 : Value) (st : List Value) (S : xS) : Prop := xGoT p l e room_1 s m args below meth c Q false z D cy sa 7 C Sl rS pc (xls i v5 v6) st S
/-- how it goes on behind a case -/
def xKt (p : Program) (l : Launch) (e : Env) (s : State) (m : MethodId) (args : Array Value) (below : List Frame) (meth : Method) (c : Code) (Q : State → Prop) (z : Nat) (D : va_G) (cy : Nat → ClassId) (sa : Nat → Nat) (rS : Option Value × xS) (N C Sl i : Nat) : Prop := ∀ (S' : xS) (N' C' Sl' : Nat) (v5 v6 : Value), xR S' N' → N' ≤ N + 50 → C' ≤ C + 1 → Sl' ≤ Sl + 6 → xcat2 (some v5) = false → xcat2 (some v6) = false → xGoT p l e room_1 s m args below meth c Q false z D cy sa 7 C' Sl' rS 1037 (xls i v5 v6) [] S'
theorem xR.XC {S : xS} {N : Nat} (h : xR S N) : XC S := by
  obtain ⟨c, δ, n, t, ou, hi, fv, ho, h1, h2, hC, hZ, hN, hM, hz⟩ := h
  exact hC.X
theorem xsz_eq {S S1 : xS} (h : S1.1 = S.1) : xsz S1 = xsz S := by unfold xsz; rw [h]
set_option maxRecDepth 100000 in
/-- the same call on both sides, an int -/
theorem lc_pair {pc pa pb i N C Sl kc km jc jm nc nm mlc mlm : Nat} {off : Int} {yc ym : MethodName} {bc bm : ByteArray} {rc rm : Option FieldType} {as : List Value} {S : xS} {v5 v6 : Value} (Wl : xLaw p l s m args meth c z D cy sa sv b L xs rS) (hC : C ≤ 601024) (hSl : Sl ≤ 7293034)
    (d0 : decode cL_law pc = .ok (.aload_n 1, 1)) (a1 : ∀ st S, xGoT p l e room_1 s m args below meth c Q false z D cy sa 7 C Sl rS pa (xls i v5 v6) (as.reverse ++ st) S → xGoT p l e room_1 s m args below meth c Q false z D cy sa 7 C Sl rS (pc + 1) (xls i v5 v6) st S)
    (d1 : decode cL_law pa = .ok (.invokevirtual kc, 3)) (d2 : decode cL_law (pa + 3) = .ok (.aload_n 2, 1)) (a2 : ∀ st S, xGoT p l e room_1 s m args below meth c Q false z D cy sa 7 C Sl rS pb (xls i v5 v6) (as.reverse ++ st) S → xGoT p l e room_1 s m args below meth c Q false z D cy sa 7 C Sl rS (pa + 3 + 1) (xls i v5 v6) st S)
    (d3 : decode cL_law pb = .ok (.invokevirtual km, 3)) (d4 : decode cL_law (pb + 3) = .ok (.if_icmp .eq off, 3)) (ht : xtgt (pb + 3) off = some 1037)
    (qc : xMI jc = (10, nc, mlc, yc, bc, rc, false, false)) (hjc : jc < 296) (hsc : (xMP.getD jc (0, 0, 0, 0)).2.2.2 ≠ 99999) (wc : Cond.methodLink (xNm 16) kc yc ∈ xAL)
    (qm : xMI jm = (11, nm, mlm, ym, bm, rm, false, false)) (hjm : jm < 296) (hsm : (xMP.getD jm (0, 0, 0, 0)).2.2.2 ≠ 99999) (wm : Cond.methodLink (xNm 16) km ym ∈ xAL)
    (hX : XC S) (hok : xOk S N jc jm as) (hk : xKt p l e s m args below meth c Q z D cy sa rS N C Sl i) (h5 : xcat2 (some v5) = false) (h6 : xcat2 (some v6) = false) : xGoT p l e room_1 s m args below meth c Q false z D cy sa 7 C Sl rS pc (xls i v5 v6) [] S := by
  obtain ⟨Wx, hXG, hv, hbl, hbz, hsa, hL, hrS, hfl⟩ := Wl
  have X := Wx C Sl hC hSl
  obtain ⟨k, S1, S2, N', hN', g1, g2, hR2⟩ := hok
  have e1 := (xcall_same g1).1
  have e2 := (xcall_same g2).1
  have s1 : S1.1 = xSH := e1.trans hX.1
  refine lr_aload_n (x := .ref 0) X d0 rfl rfl (a1 _ _ ?_)
  refine lr_iv (as' := as) (r := []) (dd := 40) (v := some (.int k)) X qc hjc (by decide) hsc wc (xsh hX sh_0) rfl (Nat.zero_le _) g1 e1 (by decide) (by decide) (by rw [hrS, hX.1]; exact Nat.le_refl _) (Nat.le_of_eq (xsz_eq (hrS.trans hX.1.symm)).symm) d1 ?_
  refine lr_aload_n (x := .ref 187) X d2 rfl rfl (a2 _ _ ?_)
  refine lr_iv (as' := as) (r := [.int k]) (dd := 40) (v := some (.int k)) X qm hjm (by decide) hsm wm (by rw [s1]; exact sh_187) rfl (Nat.le_of_ble_eq_true rfl) g2 e2 (by decide) (by decide) (by rw [hrS, s1]; exact Nat.le_refl _) (Nat.le_of_eq (xsz_eq (hrS.trans s1.symm)).symm) d3 ?_
  exact lr_icmp_eq_T X d4 ht rfl (hk S2 N' C Sl v5 v6 hR2 hN' (Nat.le_succ C) (by omega) h5 h6)
set_option maxRecDepth 100000 in
/-- the same, a long -/
theorem lc_pairL {pc pa pb i N C Sl kc km jc jm nc nm mlc mlm : Nat} {off : Int} {yc ym : MethodName} {bc bm : ByteArray} {rc rm : Option FieldType} {as : List Value} {S : xS} {v5 v6 : Value} (Wl : xLaw p l s m args meth c z D cy sa sv b L xs rS) (hC : C ≤ 601024) (hSl : Sl ≤ 7293034)
    (d0 : decode cL_law pc = .ok (.aload_n 1, 1)) (a1 : ∀ st S, xGoT p l e room_1 s m args below meth c Q false z D cy sa 7 C Sl rS pa (xls i v5 v6) (as.reverse ++ st) S → xGoT p l e room_1 s m args below meth c Q false z D cy sa 7 C Sl rS (pc + 1) (xls i v5 v6) st S)
    (d1 : decode cL_law pa = .ok (.invokevirtual kc, 3)) (d2 : decode cL_law (pa + 3) = .ok (.aload_n 2, 1)) (a2 : ∀ st S, xGoT p l e room_1 s m args below meth c Q false z D cy sa 7 C Sl rS pb (xls i v5 v6) (as.reverse ++ st) S → xGoT p l e room_1 s m args below meth c Q false z D cy sa 7 C Sl rS (pa + 3 + 1) (xls i v5 v6) st S)
    (d3 : decode cL_law pb = .ok (.invokevirtual km, 3)) (d35 : decode cL_law (pb + 3) = .ok (.lcmp, 1)) (d4 : decode cL_law (pb + 4) = .ok (.ifCond .eq off, 3)) (ht : xtgt (pb + 4) off = some 1037)
    (qc : xMI jc = (10, nc, mlc, yc, bc, rc, false, false)) (hjc : jc < 296) (hsc : (xMP.getD jc (0, 0, 0, 0)).2.2.2 ≠ 99999) (wc : Cond.methodLink (xNm 16) kc yc ∈ xAL)
    (qm : xMI jm = (11, nm, mlm, ym, bm, rm, false, false)) (hjm : jm < 296) (hsm : (xMP.getD jm (0, 0, 0, 0)).2.2.2 ≠ 99999) (wm : Cond.methodLink (xNm 16) km ym ∈ xAL)
    (hX : XC S) (hok : xOkL S N jc jm as) (hk : xKt p l e s m args below meth c Q z D cy sa rS N C Sl i) (h5 : xcat2 (some v5) = false) (h6 : xcat2 (some v6) = false) : xGoT p l e room_1 s m args below meth c Q false z D cy sa 7 C Sl rS pc (xls i v5 v6) [] S := by
  obtain ⟨Wx, hXG, hv, hbl, hbz, hsa, hL, hrS, hfl⟩ := Wl
  have X := Wx C Sl hC hSl
  obtain ⟨k, S1, S2, N', hN', g1, g2, hR2⟩ := hok
  have e1 := (xcall_same g1).1
  have e2 := (xcall_same g2).1
  have s1 : S1.1 = xSH := e1.trans hX.1
  refine lr_aload_n (x := .ref 0) X d0 rfl rfl (a1 _ _ ?_)
  refine lr_iv (as' := as) (r := []) (dd := 40) (v := some (.long k)) X qc hjc (by decide) hsc wc (xsh hX sh_0) rfl (Nat.zero_le _) g1 e1 (by decide) (by decide) (by rw [hrS, hX.1]; exact Nat.le_refl _) (Nat.le_of_eq (xsz_eq (hrS.trans hX.1.symm)).symm) d1 ?_
  refine lr_aload_n (x := .ref 187) X d2 rfl rfl (a2 _ _ ?_)
  refine lr_iv (as' := as) (r := [.long k]) (dd := 40) (v := some (.long k)) X qm hjm (by decide) hsm wm (by rw [s1]; exact sh_187) rfl (Nat.le_of_ble_eq_true rfl) g2 e2 (by decide) (by decide) (by rw [hrS, s1]; exact Nat.le_refl _) (Nat.le_of_eq (xsz_eq (hrS.trans s1.symm)).symm) d3 ?_
  refine lr_lcmp (x := k) (y := k) X d35 ?_
  exact lr_if_eq_T X d4 ht ((lg_cmp_eq k k).mpr rfl) (hk S2 N' C Sl v5 v6 hR2 hN' (Nat.le_succ C) (by omega) h5 h6)
theorem xw_thr : Cond.methodLink (xNm 16) 90 yX12_thrown ∈ xAL := xAL_of (p := 6137) (by decide +kernel) rfl
set_option maxRecDepth 100000 in
/-- a call that may throw -/
theorem lc_thr {pc pa pb i N C Sl kc km jm nm mlm mlL n : Nat} {off : Int} {yL ym : MethodName} {bL bm : ByteArray} {rm : Option FieldType} {hh : List (Nat × Nat × Nat × Nat)} {as : List Value} {S : xS} {v5 v6 : Value} (Wl : xLaw p l s m args meth c z D cy sa sv b L xs rS) (hC : C + 1 ≤ 601024) (hSl : Sl + 6 ≤ 7293034)
    (d0 : decode cL_law pc = .ok (.aload_n 1, 1)) (a1 : ∀ C Sl v5 v6 st S, C ≤ 601024 → Sl ≤ 7293034 → xGoT p l e room_1 s m args below meth c Q false z D cy sa 7 C Sl rS pa (xls i v5 v6) (as.reverse ++ st) S → xGoT p l e room_1 s m args below meth c Q false z D cy sa 7 C Sl rS (pc + 1) (xls i v5 v6) st S)
    (d1 : decode cL_law pa = .ok (.aload_n 3, 1)) (d2 : decode cL_law (pa + 1) = .ok (.invokestatic kc, 3)) (d3 : decode cL_law (pa + 4) = .ok (.istore 5, 2)) (d4 : decode cL_law (pa + 6) = .ok (.aload_n 2, 1))
    (a2 : ∀ C Sl v5 v6 st S, C ≤ 601024 → Sl ≤ 7293034 → xGoT p l e room_1 s m args below meth c Q false z D cy sa 7 C Sl rS pb (xls i v5 v6) (as.reverse ++ st) S → xGoT p l e room_1 s m args below meth c Q false z D cy sa 7 C Sl rS (pa + 6 + 1) (xls i v5 v6) st S)
    (d5 : decode cL_law pb = .ok (.invokevirtual km, 3)) (d6 : decode cL_law (pb + 3) = .ok (.istore 6, 2)) (d7 : decode cL_law (pb + 5) = .ok (.aload_n 2, 1)) (d8 : decode cL_law (pb + 6) = .ok (.invokevirtual 90, 3)) (d9 : decode cL_law (pb + 9) = .ok (.iload 5, 2)) (d10 : decode cL_law (pb + 11) = .ok (.if_icmp .eq 5, 3)) (d11 : decode cL_law (pb + 16) = .ok (.iload 5, 2)) (d12 : decode cL_law (pb + 18) = .ok (.ifCond .ne 15, 3)) (d13 : decode cL_law (pb + 21) = .ok (.aload_n 3, 1)) (d14 : decode cL_law (pb + 22) = .ok (.iconst 0, 1)) (d15 : decode cL_law (pb + 23) = .ok (.laload, 1)) (d16 : decode cL_law (pb + 24) = .ok (.iload 6, 2)) (d17 : decode cL_law (pb + 26) = .ok (.i2l, 1)) (d18 : decode cL_law (pb + 27) = .ok (.lcmp, 1)) (d19 : decode cL_law (pb + 28) = .ok (.ifCond .eq 5, 3)) (d20 : decode cL_law (pb + 33) = .ok (.goto off, 3))
    (t1 : xtgt (pb + 11) 5 = some (pb + 16)) (t2 : xtgt (pb + 18) 15 = some (pb + 33)) (t3 : xtgt (pb + 28) 5 = some (pb + 33)) (ht : xtgt (pb + 33) off = some 1037)
    (hw : Cond.methodLink (xNm 16) kc yL ∈ xAL) (hstt : Cond.static yL ∈ xAL) (hcw : Cond.codeWith yL bL mlL (some .int) hh ∈ xAL) (hinit : Cond.initialized yL.cls ∈ xAL) (hmm : yL.cls ≠ "java/lang/invoke/MethodHandle" ∧ yL.cls ≠ "java/lang/invoke/VarHandle" ∧ (parseMethodDescriptor yL.desc).map (fun d => d.parameters.length) = some n) (hml40 : mlL ≤ 40) (hlen : (Value.ref 0 :: (as ++ [Value.ref 230])).length = n)
    (qm : xMI jm = (11, nm, mlm, ym, bm, rm, false, false)) (hjm : jm < 296) (hsm : (xMP.getD jm (0, 0, 0, 0)).2.2.2 ≠ 99999) (wm : Cond.methodLink (xNm 16) km ym ∈ xAL)
    (hX : XC S) (hok : xThO l S N yL bL mlL hh jm as) (hk : xKt p l e s m args below meth c Q z D cy sa rS N C Sl i) (h5 : xcat2 (some v5) = false) (h6 : xcat2 (some v6) = false) : xGoT p l e room_1 s m args below meth c Q false z D cy sa 7 C Sl rS pc (xls i v5 v6) [] S := by
  obtain ⟨Wx, hXG, hv, hbl, hbz, hsa, hL, hrS, hfl⟩ := Wl
  have X := Wx C Sl (by omega) (by omega)
  have X' := Wx (C + 1) (Sl + 6) hC hSl
  obtain ⟨k, v, S1, S2, N', hN', hMet, s1, g2, e0, elong, hk01, hR2⟩ := hok
  have X2 := hR2.XC
  have e2 := (xcall_same g2).1
  have gt := m_thrown 40 X2
  rw [e0] at gt
  refine lr_aload_n (x := .ref 0) X d0 rfl rfl (a1 _ _ _ _ _ _ (by omega) (by omega) ?_)
  refine lr_aload_n (x := .ref 230) X d1 rfl rfl ?_
  refine lr_isL (as := .ref 0 :: (as ++ [.ref 230])) (r := []) (v := some (.int k)) X hXG (hMet z D cy sa sv) hw hstt hcw hinit hmm hml40 hlen (by simp) (Nat.zero_le _) (by decide) (by decide) hC hSl (hrS.trans hX.1.symm) (s1.trans hX.1.symm) d2 ?_
  refine lr_istore (x := k) (ls2 := xls i (.int k) v6) X' d3 ⟨Nat.le_of_ble_eq_true rfl, Or.inr rfl⟩ rfl ?_
  refine lr_aload_n (x := .ref 187) X' d4 rfl rfl (a2 _ _ _ _ _ _ hC hSl ?_)
  refine lr_iv (as' := as) (r := []) (dd := 40) (v := some (.int v)) X' qm hjm (by decide) hsm wm (by rw [s1]; exact sh_187) rfl (Nat.le_of_ble_eq_true rfl) g2 e2 (by decide) (by decide) (by rw [hrS, s1]; exact Nat.le_refl _) (Nat.le_of_eq (xsz_eq (hrS.trans s1.symm)).symm) d5 ?_
  refine lr_istore (x := v) (ls2 := xls i (.int k) (.int v)) X' d6 ⟨Nat.le_of_ble_eq_true rfl, Or.inr rfl⟩ rfl ?_
  refine lr_aload_n (x := .ref 187) X' d7 rfl rfl ?_
  refine lr_iv (as' := []) (r := []) (dd := 40) (v := some (.int k)) X' q_X12_thrown (by decide) (by decide) (by decide) xw_thr (xsh X2 sh_187) rfl (Nat.zero_le _) gt rfl (by decide) (by decide) (by rw [hrS, X2.1]; exact Nat.le_refl _) (Nat.le_of_eq (xsz_eq (hrS.trans X2.1.symm)).symm) d8 ?_
  refine lr_iload (x := k) X' d9 rfl (lr_icmp_eq_T (x := k) (y := k) X' d10 t1 rfl (lr_iload (x := k) X' d11 rfl ?_))
  have kk : xGoT p l e room_1 s m args below meth c Q false z D cy sa 7 (C + 1) (Sl + 6) rS (pb + 33) (xls i (.int k) (.int v)) [] S2 := lr_goto X' d20 ht (hk S2 N' (C + 1) (Sl + 6) (.int k) (.int v) hR2 hN' (Nat.le_refl _) (Nat.le_refl _) rfl rfl)
  rcases hk01 with hk0 | hk1
  · refine lr_if_ne_F (x := k) X' d12 t2 (fun w => w hk0) ?_
    refine lr_aload_n (x := .ref 230) X' d13 rfl rfl (lr_iconst (v := nI 0) X' d14 rfl (lr_lald (n := 1) X' (xsh X2 sh_230) (by decide) (by decide) d15 ?_))
    refine lr_iload (x := v) X' d16 rfl (lr_i2l (x := v) X' d17 (lr_lcmp X' d18 ?_))
    exact lr_if_eq_T X' d19 t3 ((lg_cmp_eq _ _).mpr (elong hk0)) kk
  · exact lr_if_ne_T (x := k) X' d12 t2 (by rw [hk1]; decide) kk
end XLC
