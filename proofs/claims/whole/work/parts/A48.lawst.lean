/-! THE LAW'S OWN octet AND share: what is thrown is caught -/
def xroomL : Room := { frames := 55, cells := 1, slots := 6, locals := 4000 }
theorem xW_AL {z : Nat} {cy : Nat → ClassId} {S : xS} {a n k : Nat} {x : Int64} (h : S.1[a]? = some (24, n)) : (xW z cy S).set a (z + a, .inl (cy 24, n, .inr (.inl (vp_updL (S.2.2.2 a) k x)))) = xW z cy (xSL S a k x) := by
  refine xW_set h rfl ?_ xce_SL_ne
  rw [xce_arr (by omega)]
  unfold xarr
  rw [if_neg (by omega), if_pos rfl]
  show (Sum.inl (cy 24, n, .inr (.inl (xu2 S.2.2.2 a k x a))) : va_E) = _
  rw [xu2_same]
  rfl
theorem xofWH {l : Launch} {y : MethodName} {ws ws' : List Cond} {rm : Room} {Pc : Array Value → State → Prop} {Qc : Array Value → State → Outcome → State → Prop} {mc ms : Nat} {free : Addr → Prop} {cc : ByteArray} {maxL : Nat} {ret : Option FieldType} {hh : List (Nat × Nat × Nat × Nat)}
    (hy : plainName y.cls = true) (hw : ws = Cond.codeWith y cc maxL ret hh :: ws')
    (body : ∀ p e s m args below meth c s₁, BodyLoose p l y (headSpec ws rm) cc maxL ret e s m args below meth c s₁ → c.maxLocals = maxL → c.exceptionTable.toList = tableOf hh → Pc args s →
      W p l e (headSpec ws rm).room s m args below meth c s.heap [] 0 0 (MQ below Qc args s mc ms free) (entryFrame m args maxL)) : Met l y ws rm Pc Qc mc ms free := by
  refine MetFree.of_bodyS (code := cc) (maxLocals := maxL) (ret := ret) hy ?_ ?_
  · intro args s m h hn
    obtain ⟨m9, meth, c, hn9, h1, h2, h3, h4, -, h5, h6, -⟩ := Cond.codeWith_spec (atoms_spec (ws := ws) h _ (by rw [hw]; exact List.mem_cons_self))
    cases hn.symm.trans hn9
    exact ⟨meth, c, h1, h2, h3, h4, h5, h6⟩
  · intro p e s m args below meth c s₁ B hml hP _
    have hh0 : s₁.heap = s.heap := by rw [B.state]; rfl
    have ht := vx_table (x := y) B (atoms_spec (ws := ws) B.pre _ (by rw [hw]; exact List.mem_cons_self))
    obtain ⟨t, a1, o, b1, b2, b3⟩ := body p e s m args below meth c s₁ B hml ht hP s₁ hh0 (Stand.of_body B)
    exact ⟨t, o, a1, b1, b2, ⟨b3.1, b3.2⟩⟩
section XLST
variable {p : Program} {l : Launch} {e : Env} {R : Room} {s : State} {m : MethodId} {args : Array Value} {below : List Frame} {meth : Method} {c : Code} {Q : State → Prop}
variable {al : Bool} {z : Nat} {D : va_G} {cy : Nat → ClassId} {sa sv : Nat → Nat} {o : Nat} {cc : ByteArray} {ret : Option FieldType} {ini : Bool} {nL C Sl : Nat} {rS : Option Value × xS} {pc : Nat} {ls st : List Value} {S : xS}
set_option maxRecDepth 100000 in
theorem xL_of {ml : Nat} {y : MethodName} {code : ByteArray} {ret : Option FieldType} {hh : List (Nat × Nat × Nat × Nat)} {as : List Value} {S S1 : xS} {v : Option Value} (hpl : plainName y.cls = true) (hcls : y.cls = xNm 16) (hx : (xargs as).length ≤ ml)
    (h : ∀ {p : Program} {e : Env} {R : Room} {s : State} {m : MethodId} {args : Array Value} {below : List Frame} {meth : Method} {c : Code}, xCx p R s m args meth c z D cy sa sv 16 code ret false ml 0 0 → xXG z s → c.exceptionTable.toList = tableOf hh → 55 ≤ R.frames → 4000 ≤ R.locals → 1 ≤ R.cells ∧ 6 ≤ R.slots →
      xGoT p l e R s m args below meth c (MQ below (xQ false z D cy sa v S1) args s 1 6 (fun q => z ≤ q)) false z D cy sa ml 0 0 (none, S) 0 (xent as ml) [] S) :
    Met l y (.codeWith y code ml ret hh :: xAL) xroomL (va_Pc (as.map (xup z sa)) (xPrX false z D cy sa sv S)) (xQ false z D cy sa v S1) 1 6 (fun q => z ≤ q) := by
  refine xofWH (cc := code) (maxL := ml) (ret := ret) (hh := hh) hpl rfl ?_
  intro p e s m args below meth c s₁ B hml ht hv
  obtain ⟨rfl, ⟨hG, hP, hal⟩, hXG⟩ := hv
  have hts := atoms_spec (ws := .codeWith y code ml ret hh :: xAL) B.pre
  have hown := findClass_of_methodNamed B.named
  rw [hcls] at hown
  have hl := lv_entry (as.map (xup z sa)) (n := ml) (by rw [xargs_sl]; exact hx)
  rw [lg_entry_eq]
  have X : xCx p (headSpec (.codeWith y code ml ret hh :: xAL) xroomL).room s m (as.map (xup z sa)).toArray meth c z D cy sa sv 16 code ret false ml 0 0 :=
    ⟨B.exec, B.bytes, hml, hown, fun w hw => hts w (List.mem_cons_of_mem _ hw), hG, fun hi => absurd hi Bool.false_ne_true, Nat.le_of_ble_eq_true rfl, Nat.le_of_ble_eq_true rfl, Nat.zero_le _, Nat.zero_le _, B.returns, B.notSynchronized⟩
  exact h X hXG ht (Nat.le_refl _) (Nat.le_refl _) ⟨Nat.le_refl _, Nat.le_refl _⟩ s.heap [] 0 0 _ (xent_len hx) hP (fun ha => absurd ha Bool.false_ne_true) va_S.rf (xlp_ent hl) rfl rfl
theorem lr_ret01 {v : Int32} (X : xCx p R s m args meth c z D cy sa sv o cc ret ini nL 0 0) (hr : ret = some .int) (hd : decode cc pc = .ok (.ireturn, 1)) (hrS : rS.2.1 = S.1) : xGoT p l e R s m args below meth c (MQ below (xQ false z D cy sa (some (.int v)) S) args s 1 6 (fun q => z ≤ q)) false z D cy sa nL 0 0 rS pc ls [.int v] S := by
  obtain ⟨hx, hb, hml, hown, hts, hG, hini, hRf, hRl, hCR, hSR, hrt, hlk⟩ := X
  intro H locs cells slots lsM h1 h2 h3 h4 h5 h6 h7
  have hc0 : cells = 0 := by rw [hrS] at h6; omega
  have hs0 : slots = 0 := by
    have e : xsz rS.2 = xsz S := by unfold xsz; rw [hrS]
    omega
  subst hc0
  subst hs0
  refine W.widen (k := 1) (n := 6) (Nat.zero_le _) (Nat.zero_le _) ?_
  exact W.iret hx hb (hrt.trans hr) (fun t ht hW => ⟨⟨rfl, by rw [ht]; exact h2, fun ha => absurd ha Bool.false_ne_true⟩, h4.F ht⟩) h4.2.2 hd hlk
theorem lr_last {a n j : Nat} {x : Int64} (X : xCx p R s m args meth c z D cy sa sv o cc ret ini nL C Sl) (ha : S.1[a]? = some (24, n)) (hn : n < 2 ^ 31) (hj : j < n) (hd : decode cc pc = .ok (.lastore, 1)) (k : xGoT p l e R s m args below meth c Q al z D cy sa nL C Sl rS (pc + 1) ls st (xSL S a j x)) : xGoT p l e R s m args below meth c Q al z D cy sa nL C Sl rS pc ls (.long x :: .int (nI j) :: .ref a :: st) S := by
  obtain ⟨hx, hb, hml, hown, hts, hG, hini, hRf, hRl, hCR, hSR, hrt, hlk⟩ := X
  intro H locs cells slots lsM h1 h2 h3 h4 h5 h6 h7
  have he := xW_get (z := z) (cy := cy) ha
  rw [xce_arr (by omega)] at he
  exact va_last hx hb hG.1 h2 (xW_D z cy S) (xS_self h4) a 4 (f := S.2.2.2 a) (n := n) he rfl (vp_in_nI hj hn) hd fun H1 locs1 hP1 _ hS1 => by
    rw [nI_clamp (by omega), xW_AL ha] at hP1
    exact xkeep (S := S) k rfl h1 h3 h4 h5 h6 h7 hP1 hS1
theorem xth_c13 : Cond.classLink (xNm 16) 13 xNSE ∈ xAL := xAL_of (p := 6059) (by decide +kernel) rfl
theorem xw_Lo : Cond.methodLink (xNm 16) 7 yX11_octet ∈ xAL := xAL_of (p := 6060) (by decide +kernel) rfl
theorem xw_Ls : Cond.methodLink (xNm 16) 15 yX11_share ∈ xAL := xAL_of (p := 6128) (by decide +kernel) rfl
set_option maxRecDepth 100000 in
/-- a call that throws, caught here -/
theorem lr_ivx {k0 j a nf o' n ml : Nat} {y : MethodName} {code : ByteArray} {ret2 : Option FieldType} {as' r : List Value} {S1 : xS} {x9 : ExceptionTableEntry} (X : xCx p R s m args meth c z D cy sa sv 16 cc ret ini nL 0 0) (hXG : xXG z s) (htab : c.exceptionTable.toList = [x9]) (hcov : covers x9 pc = true) (hct : x9.catchType = 13) (hq : xMI j = (o', n, ml, y, code, ret2, false, false)) (hj : j < 296) (ht12 : o' < 12) (hsel : (xMP.getD j (0, 0, 0, 0)).2.2.2 ≠ 99999) (hw : Cond.methodLink (xNm 16) k0 y ∈ xAL) (ha : S.1[a]? = some (o', nf)) (hst : st = as'.reverse ++ .ref a :: r) (hsm : (r.map fun v => v.category).sum ≤ 8) (hlen : (Value.ref a :: as').length = n)
    (hM : vx_Met l y (xws y code ml ret2) xroomT (va_Pc ((.ref a :: as').map (xup z sa)) (xPrX false z D cy sa sv S)) xnoQ (xXC z D cy S1) 1 6 (fun q => z ≤ q)) (hf : 55 ≤ R.frames) (hl : 4000 ≤ R.locals) (hR : 1 ≤ R.cells ∧ 6 ≤ R.slots) (hrS : rS.2.1 = S.1) (hd : decode cc pc = .ok (.invokevirtual k0, 3))
    (k : ∀ (H1 : Heap) (locs1 : List Loc) (lsM : Array Slot) (q : Nat), va_P D vwCl (xW z cy S1) H1 → va_S (fun q => z ≤ q) s.heap H1 locs1 → lv_has lsM nL (xlp z sa ls) → W p l e R s m args below meth c H1 locs1 1 6 Q (F0 m x9.handlerPc lsM [.ref q])) :
    xGoT p l e R s m args below meth c Q false z D cy sa nL 0 0 rS pc ls st S := by
  obtain ⟨hx, hb, hml, hown, hts, hG, hini, hRf, hRl, hCR, hSR, hrt, hlk⟩ := X
  intro H locs cells slots lsM h1 h2 h3 h4 h5 h6 h7
  have hc0 : cells = 0 := by rw [hrS] at h6; omega
  have hs0 : slots = 0 := by
    have e : xsz rS.2 = xsz S := by unfold xsz; rw [hrS]
    omega
  subst hc0
  subst hs0
  obtain ⟨m1, -, m3, m4, m5, m6, m7, m8, m9, m10, -, m12, m13⟩ := xM_ok hj hq
  have hsel2 := m5 rfl rfl hsel
  have he := xW_get (z := z) (cy := cy) ha
  rw [xce_obj (by omega)] at he
  have hrecv := va_recv hG.1 h2 (xcl_at ht12) he
  rw [(xC_ok ht12).2.1, ← m6] at hrecv
  have hPre : ∀ U : State, U.heap = H → s.WarmedH U.vm → va_Pc ((Value.ref a :: as').map (xup z sa)) (xPrX false z D cy sa sv S) ((Value.ref a :: as').map (xup z sa)).toArray U := fun U hU hW => ⟨rfl, ⟨xG_at hG h4 hU hW, by rw [hU]; exact h2, fun w => absurd w Bool.false_ne_true⟩, xXG_at hXG h4 hU hW⟩
  have hsum : 2 * (F0 m pc lsM (st.map (xup z sa))).monitorRoom + ((r.map (xup z sa)).map fun v => v.category).sum ≤ 8 := by
    have e : ((r.map (xup z sa)).map fun v => v.category) = (r.map fun v => v.category) := by rw [List.map_map]; exact List.map_congr_left fun v _ => xup_cat z sa v
    rw [e]
    have e2 : (F0 m pc lsM (st.map (xup z sa))).monitorRoom = 0 := rfl
    omega
  have hstack : (F0 m pc lsM (st.map (xup z sa))).stack = (as'.map (xup z sa)).reverse ++ .ref (z + a) :: r.map (xup z sa) := by
    show st.map (xup z sa) = _
    rw [hst]; simp [xup]
  have hn8 : (parseMethodDescriptor y.desc).map (fun d => d.parameters.length) = some (n - 1) := by rw [m8]; rfl
  have hlen' : (as'.map (xup z sa)).length = n - 1 := by rw [List.length_map]; have : as'.length + 1 = n := hlen; omega
  have hR2 : xroomT.frames + 1 ≤ R.frames ∧ 8 + (ml + 11) + xroomT.locals ≤ R.locals := ⟨by show 52 + 1 ≤ _; omega, by show 8 + (ml + 11) + 3500 ≤ _; omega⟩
  have hdec : decode cc (F0 m pc lsM (st.map (xup z sa))).pc = .ok (.invokevirtual k0, 3) := hd
  have cw := cwV (s := s) (R := R) (args := args) (own := xNm 16) (index := k0) (rm := xroomT) (mc := 1) (ms := 6) (n - 1) hts (xgood (ws := wsV (xNm 16) k0 y.cls y (xws y code ml ret2)) (fun w hw' => by
      rcases List.mem_append.mp hw' with hw' | hw'
      · simp only [List.mem_cons, List.not_mem_nil, or_false] at hw'
        rcases hw' with rfl | rfl | rfl | rfl
        · exact hw
        · exact m3 rfl
        · exact hsel2
        · exact m4
      · exact xws_in m1 w hw')) rfl rfl rfl ⟨rfl, m7.1, m7.2, hn8⟩ hR2
  intro T hT X0
  rcases vx_runV (As := as'.map (xup z sa)) (rest := r.map (xup z sa)) ⟨hx, hb, hml, hown, hts⟩ hM cw ⟨xPrX_blind, hrecv, hPre⟩ rfl hlen' (by show lsM.size = nL; exact h5.1) hstack hsum hdec ⟨by omega, by omega⟩ T hT X0 with ⟨v, st₀, t, T', L, h0, X', hL, e1, e2, hq9, st9⟩ | ⟨q, st₀, t, T', L, E, ce, h0, X', hL, e1, e2, ⟨hE, hP1, hF1⟩, hce, hcv, hcl, st9⟩
  · exact hq9.elim
  · subst hE
    have hS1 := (vx_keep (A0 := fun q => z ≤ q) (A1 := fun q => z ≤ q) h0 e1 h4 (fun q _ w => w) (fun q w => w) hL hF1).2.2
    have ct := vx_catch (p := p) (l := l) (e := e) (R := R) (s := s) (m := m) (args := args) (below := below) (meth := meth) (c := c) (Q := Q) (H := T'.heap) (locs := locs ++ L) (cells := 0 + 1) (slots := 0 + 6) (own := xNm 16) (name := xNSE) (E := xNSE) (ce := ce) (q := q) (pc := pc) (ls := lsM) (rest := r.map (xup z sa)) hown [] x9 [] htab (fun z hz => nomatch hz) hcov (by rw [hct]; decide) (by rw [hct]; exact hts _ xth_c13) (va_Nw.use rfl hXG.1) (by rw [e1]; exact hce) hcv hcl (k T'.heap (locs ++ L) lsM q (by rw [e1]; exact hP1) hS1 h5)
    obtain ⟨t2, a1, b1⟩ := ct T' rfl X'
    exact ⟨t2, st9.trans a1, b1⟩
set_option maxRecDepth 100000 in
theorem L_octet {iv v : Int32} {S S1 : xS} (hX : XC S) (hX1 : S1.1 = S.1) (hc : xcall false 40 j_X11_octet [.ref 0, .int iv] S (some (.int v)) S1) : Met l yL_octet (.codeWith yL_octet cL_octet 4 (some .int) [(0, 9, 12, 13)] :: xAL) xroomL (va_Pc ([.ref 0, .int iv, .ref 230].map (xup z sa)) (xPrX false z D cy sa sv S)) (xQ false z D cy sa (some (.int (nI 0))) (xSL S1 230 0 v.toInt64)) 1 6 (fun q => z ≤ q) := by
  refine xL_of (by decide +kernel) rfl (Nat.le_of_ble_eq_true rfl) (fun {p e R s m args below meth c} X hXG ht hf hlo hR => ?_)
  refine lr_aload_n (x := .ref 230) X dL_octet_0 rfl rfl (lr_iconst (v := nI 0) X dL_octet_1 rfl (lr_aload_n (x := .ref 0) X dL_octet_2 rfl rfl (lr_iload_n (x := iv) X dL_octet_3 rfl ?_)))
  refine lr_iv (as' := [.int iv]) (r := [.int (nI 0), .ref 230]) (dd := 40) (v := some (.int v)) X q_X11_octet (by decide) (by decide) (by decide) xw_Lo (xsh hX sh_0) rfl (Nat.le_of_ble_eq_true rfl) hc hX1 (by omega) (by omega) (Nat.le_refl _) (Nat.le_refl _) dL_octet_4 ?_
  refine lr_i2l (x := v) X dL_octet_7 (lr_last (n := 1) X (by rw [hX1]; exact xsh hX sh_230) (by decide) (by decide) dL_octet_8 (lr_goto X dL_octet_9 rfl (lr_iconst (v := nI 0) X dL_octet_15 rfl (lr_ret01 X rfl dL_octet_16 ?_))))
  exact hX1.symm
set_option maxRecDepth 100000 in
theorem L_octet_t {iv : Int32} {S S1 : xS} (hX : XC S) (hM : vx_Met l yX11_octet (xws yX11_octet cX11_octet 2 (some .int)) xroomT (va_Pc ([.ref 0, .int iv].map (xup z sa)) (xPrX false z D cy sa sv S)) xnoQ (xXC z D cy S1) 1 6 (fun q => z ≤ q)) : Met l yL_octet (.codeWith yL_octet cL_octet 4 (some .int) [(0, 9, 12, 13)] :: xAL) xroomL (va_Pc ([.ref 0, .int iv, .ref 230].map (xup z sa)) (xPrX false z D cy sa sv S)) (xQ false z D cy sa (some (.int (nI 1))) S1) 1 6 (fun q => z ≤ q) := by
  refine xL_of (by decide +kernel) rfl (Nat.le_of_ble_eq_true rfl) (fun {p e R s m args below meth c} X hXG ht hf hlo hR => ?_)
  refine lr_aload_n (x := .ref 230) X dL_octet_0 rfl rfl (lr_iconst (v := nI 0) X dL_octet_1 rfl (lr_aload_n (x := .ref 0) X dL_octet_2 rfl rfl (lr_iload_n (x := iv) X dL_octet_3 rfl ?_)))
  refine lr_ivx (as' := [.int iv]) (r := [.int (nI 0), .ref 230]) (x9 := ⟨0, 9, 12, 13⟩) X hXG ht (by decide) rfl q_X11_octet (by decide) (by decide) (by decide) xw_Lo (xsh hX sh_0) rfl (Nat.le_of_ble_eq_true rfl) rfl hM hf hlo hR rfl dL_octet_4 (fun H1 locs1 lsM q hP1 hS1 hl => ?_)
  obtain ⟨hx, hb, hml, hown, hts, hG, hini, hRf, hRl, hCR, hSR, hrt, hlk⟩ := X
  refine lv_astore_n (i := 3) (nL := 4) (lv := []) (lv' := [(3, .ref q)]) hx hb dL_octet_12 rfl ⟨hl.1, hl.2.1, fun q hq => nomatch hq⟩ (by decide) rfl fun ls' hl' => ?_
  refine lv_iconst (v := nI 1) hx hb dL_octet_13 rfl ?_
  exact W.iret hx hb hrt (fun t ht hW => ⟨⟨rfl, by rw [ht]; exact hP1, fun w => absurd w Bool.false_ne_true⟩, hS1.F ht⟩) hS1.2.2 dL_octet_14 hlk
set_option maxRecDepth 100000 in
theorem L_share {iv wv v : Int32} {S S1 : xS} (hX : XC S) (hX1 : S1.1 = S.1) (hc : xcall false 40 j_X11_share [.ref 0, .int iv, .int wv] S (some (.int v)) S1) : Met l yL_share (.codeWith yL_share cL_share 5 (some .int) [(0, 10, 13, 13)] :: xAL) xroomL (va_Pc ([.ref 0, .int iv, .int wv, .ref 230].map (xup z sa)) (xPrX false z D cy sa sv S)) (xQ false z D cy sa (some (.int (nI 0))) (xSL S1 230 0 v.toInt64)) 1 6 (fun q => z ≤ q) := by
  refine xL_of (by decide +kernel) rfl (Nat.le_of_ble_eq_true rfl) (fun {p e R s m args below meth c} X hXG ht hf hlo hR => ?_)
  refine lr_aload_n (x := .ref 230) X dL_share_0 rfl rfl (lr_iconst (v := nI 0) X dL_share_1 rfl (lr_aload_n (x := .ref 0) X dL_share_2 rfl rfl (lr_iload_n (x := iv) X dL_share_3 rfl (lr_iload_n (x := wv) X dL_share_4 rfl ?_))))
  refine lr_iv (as' := [.int iv, .int wv]) (r := [.int (nI 0), .ref 230]) (dd := 40) (v := some (.int v)) X q_X11_share (by decide) (by decide) (by decide) xw_Ls (xsh hX sh_0) rfl (Nat.le_of_ble_eq_true rfl) hc hX1 (by omega) (by omega) (Nat.le_refl _) (Nat.le_refl _) dL_share_5 ?_
  refine lr_i2l (x := v) X dL_share_8 (lr_last (n := 1) X (by rw [hX1]; exact xsh hX sh_230) (by decide) (by decide) dL_share_9 (lr_goto X dL_share_10 rfl (lr_iconst (v := nI 0) X dL_share_17 rfl (lr_ret01 X rfl dL_share_18 ?_))))
  exact hX1.symm
set_option maxRecDepth 100000 in
theorem L_share_t {iv wv : Int32} {S S1 : xS} (hX : XC S) (hM : vx_Met l yX11_share (xws yX11_share cX11_share 6 (some .int)) xroomT (va_Pc ([.ref 0, .int iv, .int wv].map (xup z sa)) (xPrX false z D cy sa sv S)) xnoQ (xXC z D cy S1) 1 6 (fun q => z ≤ q)) : Met l yL_share (.codeWith yL_share cL_share 5 (some .int) [(0, 10, 13, 13)] :: xAL) xroomL (va_Pc ([.ref 0, .int iv, .int wv, .ref 230].map (xup z sa)) (xPrX false z D cy sa sv S)) (xQ false z D cy sa (some (.int (nI 1))) S1) 1 6 (fun q => z ≤ q) := by
  refine xL_of (by decide +kernel) rfl (Nat.le_of_ble_eq_true rfl) (fun {p e R s m args below meth c} X hXG ht hf hlo hR => ?_)
  refine lr_aload_n (x := .ref 230) X dL_share_0 rfl rfl (lr_iconst (v := nI 0) X dL_share_1 rfl (lr_aload_n (x := .ref 0) X dL_share_2 rfl rfl (lr_iload_n (x := iv) X dL_share_3 rfl (lr_iload_n (x := wv) X dL_share_4 rfl ?_))))
  refine lr_ivx (as' := [.int iv, .int wv]) (r := [.int (nI 0), .ref 230]) (x9 := ⟨0, 10, 13, 13⟩) X hXG ht (by decide) rfl q_X11_share (by decide) (by decide) (by decide) xw_Ls (xsh hX sh_0) rfl (Nat.le_of_ble_eq_true rfl) rfl hM hf hlo hR rfl dL_share_5 (fun H1 locs1 lsM q hP1 hS1 hl => ?_)
  obtain ⟨hx, hb, hml, hown, hts, hG, hini, hRf, hRl, hCR, hSR, hrt, hlk⟩ := X
  refine lv_astore (i := 4) (nL := 5) (lv := []) (lv' := [(4, .ref q)]) hx hb dL_share_13 ⟨hl.1, hl.2.1, fun q hq => nomatch hq⟩ (by decide) rfl fun ls' hl' => ?_
  refine lv_iconst (v := nI 1) hx hb dL_share_15 rfl ?_
  exact W.iret hx hb hrt (fun t ht hW => ⟨⟨rfl, by rw [ht]; exact hP1, fun w => absurd w Bool.false_ne_true⟩, hS1.F ht⟩) hS1.2.2 dL_share_16 hlk
set_option maxRecDepth 100000 in
/-- a static call of the law's own, which has a table -/
theorem lr_isL {k0 ml n : Nat} {y : MethodName} {code : ByteArray} {ret2 : Option FieldType} {hh : List (Nat × Nat × Nat × Nat)} {as r : List Value} {v : Option Value} {S1 : xS} (X : xCx p R s m args meth c z D cy sa sv 16 cc ret ini nL C Sl) (hXG : xXG z s) (hM : Met l y (.codeWith y code ml ret2 hh :: xAL) xroomL (va_Pc (as.map (xup z sa)) (xPrX false z D cy sa sv S)) (xQ false z D cy sa v S1) 1 6 (fun q => z ≤ q)) (hw : Cond.methodLink (xNm 16) k0 y ∈ xAL) (hstt : Cond.static y ∈ xAL) (hcw : Cond.codeWith y code ml ret2 hh ∈ xAL) (hinit : Cond.initialized y.cls ∈ xAL) (hmm : y.cls ≠ "java/lang/invoke/MethodHandle" ∧ y.cls ≠ "java/lang/invoke/VarHandle" ∧ (parseMethodDescriptor y.desc).map (fun d => d.parameters.length) = some n) (hml40 : ml ≤ 40) (hlen : as.length = n) (hst : st = as.reverse ++ r) (hsm : (r.map fun v => v.category).sum ≤ 8) (hf : 56 ≤ R.frames) (hl : 4100 ≤ R.locals) (hC : C + 1 ≤ R.cells) (hSl : Sl + 6 ≤ R.slots) (hrS : rS.2.1 = S.1) (hsh : S1.1 = S.1) (hd : decode cc pc = .ok (.invokestatic k0, 3)) (k : xGoT p l e R s m args below meth c Q false z D cy sa nL (C + 1) (Sl + 6) rS (pc + 3) ls (v.toList ++ r) S1) : xGoT p l e R s m args below meth c Q false z D cy sa nL C Sl rS pc ls st S := by
  obtain ⟨hx, hb, hml, hown, hts, hG, hini, hRf, hRl, hCR, hSR, hrt, hlk⟩ := X
  intro H locs cells slots lsM h1 h2 h3 h4 h5 h6 h7
  have ez : xsz rS.2 = xsz S := by unfold xsz; rw [hrS]
  have ez1 : xsz S1 = xsz S := by unfold xsz; rw [hsh]
  have el : rS.2.1.length = S.1.length := by rw [hrS]
  have el1 : S1.1.length = S.1.length := by rw [hsh]
  have hPre : ∀ U : State, U.heap = H → s.WarmedH U.vm → va_Pc (as.map (xup z sa)) (xPrX false z D cy sa sv S) (as.map (xup z sa)).toArray U := fun U hU hW => ⟨rfl, ⟨xG_at hG h4 hU hW, by rw [hU]; exact h2, fun w => absurd w Bool.false_ne_true⟩, xXG_at hXG h4 hU hW⟩
  have hsum : 2 * (F0 m pc lsM (st.map (xup z sa))).monitorRoom + ((r.map (xup z sa)).map fun v => v.category).sum ≤ 8 := by
    have e : ((r.map (xup z sa)).map fun v => v.category) = (r.map fun v => v.category) := by rw [List.map_map]; exact List.map_congr_left fun v _ => xup_cat z sa v
    rw [e]
    have e2 : (F0 m pc lsM (st.map (xup z sa))).monitorRoom = 0 := rfl
    omega
  have hstack : (F0 m pc lsM (st.map (xup z sa))).stack = (as.map (xup z sa)).reverse ++ r.map (xup z sa) := by
    show st.map (xup z sa) = _
    rw [hst]; simp
  have hdec : decode cc (F0 m pc lsM (st.map (xup z sa))).pc = .ok (.invokestatic k0, 3) := hd
  have cw := vx_cwSW (s := s) (R := R) (args := args) (own := xNm 16) (index := k0) (rm := xroomL) (mc := 1) (ms := 6) (hh := hh) n hts (xgood (ws := va_wsS (xNm 16) k0 y (.codeWith y code ml ret2 hh :: xAL)) (fun w hw' => by
      rcases List.mem_append.mp hw' with hw' | hw'
      · simp only [List.mem_cons, List.not_mem_nil, or_false] at hw'
        rcases hw' with rfl | rfl | rfl
        · exact hw
        · exact hstt
        · exact hinit
      · rcases List.mem_cons.mp hw' with rfl | hw'
        · exact hcw
        · exact hw')) rfl rfl rfl hmm ⟨by show 55 + 1 ≤ _; omega, by show 8 + (ml + 11) + 4000 ≤ _; omega⟩
  refine xr_cont (vx_runSW (As := as.map (xup z sa)) (rest := r.map (xup z sa)) ⟨hx, hb, hml, hown, hts⟩ hM cw ⟨xPrX_blind, hPre⟩ rfl (by rw [List.length_map]; exact hlen) (by show lsM.size = nL; exact h5.1) hstack hsum hdec ⟨by omega, by omega⟩) h4 fun H1 locs1 hP1 hal1 hS1 => ?_
  have hh9 := k H1 locs1 (cells + 1) (slots + 6) lsM h1 hP1 (fun w => absurd w Bool.false_ne_true) hS1 h5 (by omega) (by omega)
  rw [List.map_append] at hh9
  cases v <;> exact hh9
end XLST
