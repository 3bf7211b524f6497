/-! THE START: both objects are made, and the loop is entered -/
theorem xmet_run {l : Launch} {al : Bool} {z : Nat} {D : va_G} {cy : Nat → ClassId} {sa sv : Nat → Nat} {d j o n ml N : Nat} {y : MethodName} {code : ByteArray} {ret : Option FieldType} {ini stt : Bool} {as : List Value} {S S1 : xS} {v : Option Value} (hj : j < 296) (hq : xMI j = (o, n, ml, y, code, ret, ini, stt)) (hx : (xargs as).length ≤ ml) (h : xrun al N d o code ret ini 0 (xent as ml) [] S = some (v, S1)) : xlater S S1 ∧
    Met l y (xws y code ml ret) (xroom d (S1.1.length - S.1.length) (xsz S1 - xsz S)) (va_Pc (as.map (xup z sa)) (xPre al z D cy sa sv S)) (xQ al z D cy sa v S1) (S1.1.length - S.1.length) (xsz S1 - xsz S) (fun q => z ≤ q) := by
  have hh := xsound (l := l) (z := z) (D := D) (cy := cy) (sa := sa) (sv := sv) xjHl xjHc _ _ _ _ _ _ _ _ _ _ _ h
  refine ⟨hh.1, xmet_of hj hq hx hh.1 (fun {p e R s m args below meth c C Sl} X hf hloc => ?_)⟩
  have h9 := hh.2 (p := p) (e := e) (R := R) (s := s) (m := m) (args := args) (below := below) (meth := meth) (c := c) (C := C) (Sl := Sl) (by rw [show (xent as ml).length = ml from xent_len hx]; exact X) hf hloc
  rw [show (xent as ml).length = ml from xent_len hx] at h9
  exact h9
section XSTART
variable {p : Program} {l : Launch} {e : Env} {R : Room} {s : State} {m : MethodId} {args : Array Value} {below : List Frame} {meth : Method} {c : Code} {Q : State → Prop}
variable {al : Bool} {z : Nat} {D : va_G} {cy : Nat → ClassId} {sa sv : Nat → Nat} {o : Nat} {cc : ByteArray} {ret : Option FieldType} {ini : Bool} {nL C Sl : Nat} {rS : Option Value × xS} {pc : Nat} {ls st : List Value} {S : xS}
theorem lr_al (h : xGoT p l e R s m args below meth c Q false z D cy sa nL C Sl rS pc ls st S) : xGoT p l e R s m args below meth c Q true z D cy sa nL C Sl rS pc ls st S := fun H locs cells slots lsM h1 h2 h3 h4 h5 h6 h7 => h H locs cells slots lsM h1 h2 (fun w => absurd w Bool.false_ne_true) h4 h5 h6 h7
set_option maxRecDepth 100000 in
theorem lr_new {k0 ci : Nat} (X : xCx p R s m args meth c z D cy sa sv o cc ret ini nL C Sl) (hal : al = true) (hci : ci < 12) (hcl : Cond.classLink (xNm o) k0 (xcl ci).1 ∈ xAL) (hm1 : S.1.length + 1 ≤ rS.2.1.length) (hm2 : xsz S + xnf ci ≤ xsz rS.2) (hd : decode cc pc = .ok (.new k0, 3)) (k : xGoT p l e R s m args below meth c Q al z D cy sa nL C Sl rS (pc + 3) ls (.ref S.1.length :: st) (xNew S ci (xnf ci))) : xGoT p l e R s m args below meth c Q al z D cy sa nL C Sl rS pc ls st S := by
  obtain ⟨hx, hb, hml, hown, hts, hG, hini, hRf, hRl, hCR, hSR, hrt, hlk⟩ := X
  intro H locs cells slots lsM h1 h2 h3 h4 h5 h6 h7
  obtain ⟨c1, c2, c3, c4, c5⟩ := xC_ok hci
  have hfs : ∀ j, j < (xcl ci).2.2 → defaultValue (xty ci j) = vp_V ((List.range (xnf ci)).map (xfv z (xNew S ci (xnf ci)) ci S.1.length)) j := by
    intro j hj
    rw [c1] at hj
    obtain ⟨-, c7, -⟩ := c5 j hj
    unfold vp_V
    rw [List.getD_eq_getElem?_getD, List.getElem?_map, List.getElem?_range hj]
    simp only [Option.map_some, Option.getD_some]
    unfold xfv xNew
    simp only [if_true]
    by_cases t1 : xtg ci j = 1
    · rw [if_pos t1]; rw [t1] at c7; cases hq : xty ci j <;> rw [hq] at c7 <;> first | (cases c7; done) | rfl
    · rw [if_neg t1]
      by_cases t2 : xtg ci j = 2
      · rw [if_pos t2]; rw [t2] at c7; cases hq : xty ci j <;> rw [hq] at c7 <;> first | (cases c7; done) | rfl
      · rw [if_neg t2]
        cases hq : xty ci j <;> rw [hq] at c7 <;> first | rfl | (unfold xtyc at c7; split at c7 <;> first | (cases c7; done) | (rename_i w1 w2 _ _; first | (exact absurd w2 t2) | (exact absurd w1 t1) | contradiction))
  refine va_new (C := (xcl ci).1) (T := (xcl ci).2.1) (N := (xcl ci).2.2) hx hb hts (xin_all hci) (xty ci) (fun k hk => (c5 k (by rw [← c1]; exact hk)).1) hown (hts _ hcl) (hts _ c3) (hts _ c4) hG.1 h2 (xW_D z cy S) h4 (fun q hq => Nat.le_trans hG.2.2.2.2.2.2.2.1 hq) (xcl_at hci) hfs (by omega) (by rw [c1]; omega) hd (fun q H1 hP1 hD1 hS1 => ?_)
  refine xW_size fun hsz => ?_
  obtain ⟨g1, g2⟩ := h3 hal
  obtain ⟨rfl, hsz2⟩ := xfresh hP1 hD1 (by omega)
  rw [xW_new (t := ci) (n := xnf ci) (by rw [xce_obj (by omega)])] at hP1
  exact k H1 locs (cells + 1) (slots + (xcl ci).2.2) lsM h1 hP1 (fun _ => ⟨by rw [xlen_new]; omega, by omega⟩) hS1 h5 (by rw [xlen_new]; omega) (by rw [xsz_new, c1]; omega)
theorem xlr_go2 {i : Instr} {len pc' : Nat} {ls' st' : List Value} {S' : xS} (row : ∀ go : Nat → List Value → List Value → xS → xO, (∀ pc ls st S, go pc ls st S = some rS → xGoT p l e R s m args below meth c Q al z D cy sa nL C Sl rS pc ls st S) → (∀ pc ls st S, go pc ls st S = some rS → xlater S rS.2) → xstep al o ret ini go (fun _ _ _ => none) i len pc ls st S = some rS → xGoT p l e R s m args below meth c Q al z D cy sa nL C Sl rS pc ls st S) (hs : ∀ go call, xstep al o ret ini go call i len pc ls st S = go pc' ls' st' S') (k : xGoT p l e R s m args below meth c Q al z D cy sa nL C Sl rS pc' ls' st' S') (hl : xlater S' rS.2) : xGoT p l e R s m args below meth c Q al z D cy sa nL C Sl rS pc ls st S :=
  row (xgk (fun pc ls st S => xGoT p l e R s m args below meth c Q al z D cy sa nL C Sl rS pc ls st S ∧ xlater S rS.2) rS) (fun pc ls st S h => (xgk_go (P := fun pc ls st S => xGoT p l e R s m args below meth c Q al z D cy sa nL C Sl rS pc ls st S ∧ xlater S rS.2) pc ls st S h).1) (fun pc ls st S h => (xgk_go (P := fun pc ls st S => xGoT p l e R s m args below meth c Q al z D cy sa nL C Sl rS pc ls st S ∧ xlater S rS.2) pc ls st S h).2) ((hs _ _).trans (xgk_in ⟨k, hl⟩))
set_option maxRecDepth 100000 in
theorem lr_newl (X : xCx p R s m args meth c z D cy sa sv o cc ret ini nL C Sl) (hal : al = true) (hd : decode cc pc = .ok (.newarray .long, 2)) (k : xGoT p l e R s m args below meth c Q al z D cy sa nL C Sl rS (pc + 2) ls (.ref S.1.length :: st) (xNew S 24 1)) (hl : xlater (xNew S 24 1) rS.2) : xGoT p l e R s m args below meth c Q al z D cy sa nL C Sl rS pc ls (.int (nI 1) :: st) S := by
  obtain ⟨hx, hb, hml, hown, hts, hG, hini, hRf, hRl, hCR, hSR, hrt, hlk⟩ := X
  intro H locs cells slots lsM h1 h2 h3 h4 h5 h6 h7
  obtain ⟨hm1, hm2⟩ := hl
  rw [xlen_new] at hm1
  rw [xsz_new] at hm2
  refine va_newa (atype := .long) (a0 := (1, .inr (.inl (fun _ => 0)))) hx hb (hts _ xarr_l) rfl hG.1 h2 (xW_D z cy S) h4 (fun q hq => Nat.le_trans hG.2.2.2.2.2.2.2.1 hq) (fun cA => by rw [vp_cell_l]; rfl) (by decide) (show (nI 1).toNatClampNeg = 1 by decide) (by decide) (by omega) (by omega) hd (fun q cA H1 hK1 hP1 hD1 hS1 => ?_)
  have hcA : cA = cy 24 := Option.some.inj ((hK1.2 8 (cA, .long) rfl).2.symm.trans (hG.1.2 4 (cy 24, .long) rfl).2)
  subst hcA
  refine xW_size fun hsz => ?_
  obtain ⟨g1, g2⟩ := h3 hal
  obtain ⟨rfl, hsz2⟩ := xfresh hP1 hD1 (by omega)
  rw [xW_new (t := 24) (n := 1) (by
    rw [xce_arr (by omega)]
    unfold xarr xNew
    simp only [if_true]
    rfl)] at hP1
  exact k H1 locs (cells + 1) (slots + 1) lsM h1 hP1 (fun _ => ⟨by rw [xlen_new]; omega, by omega⟩) hS1 h5 (by rw [xlen_new]; omega) (by rw [xsz_new]; omega)
set_option maxRecDepth 100000 in
theorem lr_init {k0 j a o' n ml dd : Nat} {y : MethodName} {code : ByteArray} {as' r : List Value} {S1 : xS} (X : xCx p R s m args meth c z D cy sa sv o cc ret ini nL C Sl) (hq : xMI j = (o', n, ml, y, code, none, true, false)) (hj : j < 296) (hw : Cond.methodLink (xNm o) k0 y ∈ xAL) (hst : st = as'.reverse ++ .ref a :: r) (hsm : (r.map fun v => v.category).sum ≤ 8) (hlen : (Value.ref a :: as').length = n) (hlt : xlater S S1)
    (hMet : Met l y (xws y code ml none) (xroom dd (S1.1.length - S.1.length) (xsz S1 - xsz S)) (va_Pc ((.ref a :: as').map (xup z sa)) (xPre al z D cy sa sv S)) (xQ al z D cy sa none S1) (S1.1.length - S.1.length) (xsz S1 - xsz S) (fun q => z ≤ q)) (hd1 : dd + 9 ≤ R.frames) (hd2 : 60 * (dd + 1) + 400 ≤ R.locals) (hrl : S1.1.length ≤ rS.2.1.length) (hrz : xsz S1 ≤ xsz rS.2) (hd : decode cc pc = .ok (.invokespecial k0, 3)) (k : xGoT p l e R s m args below meth c Q al z D cy sa nL C Sl rS (pc + 3) ls r S1) : xGoT p l e R s m args below meth c Q al z D cy sa nL C Sl rS pc ls st S := by
  obtain ⟨hx, hb, hml, hown, hts, hG, hini, hRf, hRl, hCR, hSR, hrt, hlk⟩ := X
  intro H locs cells slots lsM h1 h2 h3 h4 h5 h6 h7
  have q3 := hlt.1
  have q4 := hlt.2
  obtain ⟨m1, m2, m3, m4, m5, m6, m7, m8, m9, m10, m11, m12, m13⟩ := xM_ok hj hq
  have hPre : ∀ U : State, U.heap = H → s.WarmedH U.vm → va_Pc ((Value.ref a :: as').map (xup z sa)) (xPre al z D cy sa sv S) ((Value.ref a :: as').map (xup z sa)).toArray U := fun U hU hW => ⟨rfl, xG_at hG h4 hU hW, by rw [hU]; exact h2, fun ha => by rw [hU]; exact (h3 ha).1⟩
  have hroomC : cells + (S1.1.length - S.1.length) ≤ R.cells ∧ slots + (xsz S1 - xsz S) ≤ R.slots := ⟨by omega, by omega⟩
  have hsum : 2 * (F0 m pc lsM (st.map (xup z sa))).monitorRoom + ((r.map (xup z sa)).map fun v => v.category).sum ≤ 8 := by
    have e : ((r.map (xup z sa)).map fun v => v.category) = (r.map fun v => v.category) := by rw [List.map_map]; exact List.map_congr_left fun v _ => xup_cat z sa v
    rw [e]
    have e2 : (F0 m pc lsM (st.map (xup z sa))).monitorRoom = 0 := rfl
    omega
  have hstack : (F0 m pc lsM (st.map (xup z sa))).stack = (as'.map (xup z sa)).reverse ++ .ref (z + a) :: r.map (xup z sa) := by
    show st.map (xup z sa) = _
    rw [hst]; simp [xup]
  have hn8 : (parseMethodDescriptor y.desc).map (fun d => d.parameters.length) = some (n - 1) := by rw [m8]; rfl
  have hlen' : (as'.map (xup z sa)).length = n - 1 := by rw [List.length_map]; have : as'.length + 1 = n := hlen; omega
  have hR2 : (xroom dd (S1.1.length - S.1.length) (xsz S1 - xsz S)).frames + 1 ≤ R.frames ∧ 8 + (ml + 11) + (xroom dd (S1.1.length - S.1.length) (xsz S1 - xsz S)).locals ≤ R.locals := ⟨by show dd + 8 + 1 ≤ _; omega, by show 8 + (ml + 11) + (60 * dd + 400) ≤ _; omega⟩
  have hdec : decode cc (F0 m pc lsM (st.map (xup z sa))).pc = .ok (.invokespecial k0, 3) := hd
  have cw := cwI (s := s) (R := R) (args := args) (own := xNm o) (index := k0) (rm := xroom dd (S1.1.length - S.1.length) (xsz S1 - xsz S)) (mc := S1.1.length - S.1.length) (ms := xsz S1 - xsz S) (n - 1) hts (xgood (xws_in m1)) rfl rfl rfl (hts _ m4) (hts _ hw) (hts _ (m3 rfl)) (m10 rfl) ⟨m7.1, m7.2, hn8⟩ hR2
  refine xr_cont (va_runI (As := as'.map (xup z sa)) (rest := r.map (xup z sa)) ⟨hx, hb, hml, hown, hts⟩ hMet cw ⟨xPre_blind, hPre⟩ rfl hlen' (by show lsM.size = nL; exact h5.1) hstack hsum hdec hroomC) h4 fun H1 locs1 hP1 hal1 hS1 => ?_
  exact k H1 locs1 (cells + (S1.1.length - S.1.length)) (slots + (xsz S1 - xsz S)) lsM h1 hP1 (fun ha => ⟨hal1 ha, by have q1 := hal1 ha; have q2 := h3 ha; omega⟩) hS1 h5 (by omega) (by omega)
theorem xw_n8 : Cond.classLink (xNm 16) 8 (xcl 10).1 ∈ xAL := xAL_of (p := 1025) (by decide +kernel) rfl
theorem xw_n20 : Cond.classLink (xNm 16) 20 (xcl 11).1 ∈ xAL := xAL_of (p := 7120) (by decide +kernel) rfl
theorem xw_i19 : Cond.methodLink (xNm 16) 19 yX11_init ∈ xAL := xAL_of (p := 1027) (by decide +kernel) rfl
theorem xw_i22 : Cond.methodLink (xNm 16) 22 yX12_init ∈ xAL := xAL_of (p := 7121) (by decide +kernel) rfl
theorem xsz_SH : (xSH.map fun q => q.2).sum ≤ 7000000 := by decide +kernel
end XSTART
theorem xflt : flags0.contains noTraceFlag = true := by decide +kernel
set_option maxRecDepth 100000 in
theorem whole_start {p : Program} {e : Env} {s : State} {m : MethodId} {below : List Frame} {meth : Method} {c : Code} (l : Launch) (hflags : l.flags = flags0) {b L : Nat} {xs : Nat → Int32} (hL : L ≤ 3072) (C0 : lw_At p s m meth c b L xs) : W p l e room_1 s m #[Value.ref b] below meth c s.heap [] 0 0 (lw_Z below #[Value.ref b] s) (entryFrame m ([Value.ref b] : List Value).toArray 7) := by
  obtain ⟨hx, hb, hr, hml, hown, hts, hX, hbl, hlocks, hgv⟩ := id C0
  obtain ⟨D, cy, sa, sv, hsa, hG, hXG⟩ := xG_start hts hgv
  obtain ⟨S1, S2, e1, e2, l1, l2, hsh, hR0⟩ := xstart
  have hfl : l.stackTraces = false := by unfold Launch.stackTraces; rw [hflags, xflt]; rfl
  have hAL : ∀ w ∈ xAL, w.before #[Value.ref b] s = true := fun w hw => hts w (List.mem_filter.mp hw).1
  generalize hrS : ((some (.int 1), xNew S2 24 1) : Option Value × xS) = rS
  have hrS2 : rS.2 = xNew S2 24 1 := by rw [← hrS]
  have hrS1 : rS.2.1 = xSH := by rw [hrS2]; exact hsh
  have hz231 : rS.2.1.length = 231 := by rw [hrS1]; rfl
  have hzz : xsz rS.2 ≤ 7000000 := by unfold xsz; rw [hrS1]; exact xsz_SH
  have Wx : ∀ C Sl, C ≤ 601024 → Sl ≤ 7293034 → xCx p room_1 s m #[Value.ref b] meth c s.heap.size D cy sa sv 16 cL_law ret false 7 C Sl := fun C Sl h1 h2 => ⟨hx, hb, hml, hown, hAL, hG, fun h => absurd h Bool.false_ne_true, Nat.le_of_ble_eq_true rfl, Nat.le_of_ble_eq_true rfl, h1, h2, hr, hlocks⟩
  have Wl : xLaw p l s m #[Value.ref b] meth c s.heap.size D cy sa sv b L xs rS := ⟨Wx, hXG, hX, hbl, hbl, hsa, by omega, hrS1, hfl⟩
  have X := Wx 231 (xsz rS.2) (by decide) (by omega)
  obtain ⟨lt1, M1⟩ := xmet_run (l := l) (z := s.heap.size) (D := D) (cy := cy) (sa := sa) (sv := sv) (as := [.ref 0]) (show j_X11_init < 296 by decide) q_X11_init (Nat.le_of_ble_eq_true rfl) e1
  obtain ⟨lt2, M2⟩ := xmet_run (l := l) (z := s.heap.size) (D := D) (cy := cy) (sa := sa) (sv := sv) (as := [.ref 187]) (show j_X12_init < 296 by decide) q_X12_init (Nat.le_of_ble_eq_true rfl) e2
  have z0 : xsz xem = 0 := rfl
  have z1 : xsz (xNew xem 10 19) = xsz xem + 19 := xsz_new _ _ _
  have z2 : xsz (xNew S1 11 83) = xsz S1 + 83 := xsz_new _ _ _
  have z3 : xsz rS.2 = xsz S2 + 1 := by rw [hrS2]; exact xsz_new _ _ _
  have y1 := lt1.2
  have y2 := lt2.2
  have key : xGoT p l e room_1 s m #[Value.ref b] below meth c (lw_Z below #[Value.ref b] s) true s.heap.size D cy sa 7 231 (xsz rS.2) rS 0 [.retAddr 9, .float 0, .float 0, .float 0, .float 0, .float 0, .float 0] [] xem := by
    refine lr_new (ci := 10) X rfl (by decide) xw_n8 (by rw [hz231]; exact Nat.le_of_ble_eq_true rfl) (by show xsz xem + 19 ≤ _; omega) dL_law_0 ?_
    refine lr_dup (v := .ref 0) X dL_law_3 rfl ?_
    refine lr_init (as' := []) (a := 0) (r := [.ref 0]) (dd := 40) X q_X11_init (by decide) xw_i19 rfl (Nat.le_of_ble_eq_true rfl) rfl lt1 M1 (Nat.le_of_ble_eq_true rfl) (Nat.le_of_ble_eq_true rfl) (by rw [hz231, l1]; exact Nat.le_of_ble_eq_true rfl) (by omega) dL_law_4 ?_
    refine lr_astore_n (x := .ref 0) (ls2 := [.retAddr 9, .ref 0, .float 0, .float 0, .float 0, .float 0, .float 0]) X dL_law_7 rfl ⟨Nat.le_of_ble_eq_true rfl, Or.inr rfl⟩ rfl ?_
    refine lr_new (ci := 11) X rfl (by decide) xw_n20 (by rw [hz231, l1]; exact Nat.le_of_ble_eq_true rfl) (by show xsz S1 + 83 ≤ _; omega) dL_law_8 ?_
    rw [l1]
    refine lr_dup (v := .ref 187) X dL_law_11 rfl ?_
    refine lr_init (as' := []) (a := 187) (r := [.ref 187]) (dd := 40) X q_X12_init (by decide) xw_i22 rfl (Nat.le_of_ble_eq_true rfl) rfl lt2 M2 (Nat.le_of_ble_eq_true rfl) (Nat.le_of_ble_eq_true rfl) (by rw [hz231, l2]; exact Nat.le_of_ble_eq_true rfl) (by omega) dL_law_12 ?_
    refine lr_astore_n (x := .ref 187) (ls2 := [.retAddr 9, .ref 0, .ref 187, .float 0, .float 0, .float 0, .float 0]) X dL_law_15 rfl ⟨Nat.le_of_ble_eq_true rfl, Or.inr rfl⟩ rfl ?_
    refine lr_iconst (v := nI 1) X dL_law_16 rfl (lr_newl X rfl dL_law_17 ?_ (by rw [hrS2]; exact xlater_rf _))
    rw [l2]
    refine lr_astore_n (x := .ref 230) (ls2 := [.retAddr 9, .ref 0, .ref 187, .ref 230, .float 0, .float 0, .float 0]) X dL_law_19 rfl ⟨Nat.le_of_ble_eq_true rfl, Or.inr rfl⟩ rfl ?_
    refine lr_iconst (v := nI 0) X dL_law_20 rfl (lr_istore (x := nI 0) (ls2 := xls 0 (.float 0) (.float 0)) X dL_law_21 ⟨Nat.le_of_ble_eq_true rfl, Or.inr rfl⟩ rfl ?_)
    exact lr_al (law_head Wl rfl hL 513 0 (xNew S2 24 1) 0 231 (xsz rS.2) (.float 0) (.float 0) (by omega) (Nat.zero_le _) hR0 (by decide) (by decide) (by omega) rfl rfl)
  have hl := lv_entry ([Value.ref b]) (n := 7) (Nat.le_of_ble_eq_true rfl)
  rw [lg_entry_eq]
  have ee : ([Value.retAddr 9] : List Value).map (xup s.heap.size sa) = [Value.ref b] := by
    show [Value.ref (sa 9)] = [Value.ref b]
    rw [hsa]
  rw [← ee] at hl
  have hl9 := xlp_ent hl
  rw [ee] at hl9
  exact key s.heap [] 0 0 _ rfl (fun k q h => by simp [xW, xem] at h) (fun _ => ⟨rfl, rfl⟩) va_S.rf hl9 (by rw [hz231]; rfl) (by rw [z0]; omega)
