/-! WHAT OCTET AND SHARE OF THE CLASS THROW -/
abbrev xNSE : String := "java/util/NoSuchElementException"
abbrev xthN : List String := ["java/lang/RuntimeException", "java/lang/Exception"]
def xthB : List Cond := [.declares ⟨"java/lang/RuntimeException", "<init>", "()V"⟩, .declares ⟨"java/lang/Exception", "<init>", "()V"⟩, .declares ⟨"java/lang/Throwable", "<init>", "()V"⟩, .castable xNSE xNSE]
def xthP : List Nat := [1021, 1031, 1032] ++ (List.range 60).map (fun k => 6065 + k)
theorem xth_pl : ((vx_at0 (xNm 10) 193 xNSE xthN).filter goodWord).all (fun w => xthP.any (fun p => decide (xat p = some w))) = true := by decide +kernel
theorem xth_good : ∀ w ∈ (vx_at0 (xNm 10) 193 xNSE xthN).filter goodWord, w ∈ xAL := by
  intro w hw
  have h1 := List.all_eq_true.mp xth_pl w hw
  obtain ⟨p, -, hp⟩ := List.any_eq_true.mp h1
  exact List.mem_filter.mpr ⟨xat_in (of_decide_eq_true hp), (List.mem_filter.mp hw).2⟩
theorem xth_rest : ∀ w ∈ (vx_at0 (xNm 10) 193 xNSE xthN).filter (fun w => !goodWord w), w ∈ xthB := by decide +kernel
theorem xth_ot : ∀ w ∈ Cond.classLink (xNm 10) 191 xNSE :: Cond.initialized xNSE :: vx_at0 (xNm 10) 193 xNSE xthN, vx_ot w = true := by decide +kernel
theorem xth_ci : Cond.classLink (xNm 10) 191 xNSE ∈ xAL := xAL_of (p := 6064) (by decide +kernel) rfl
theorem xth_in : Cond.initialized xNSE ∈ xAL := xAL_of (p := 1024) (by decide +kernel) rfl
theorem xth_d1 : Cond.declares ⟨"java/lang/RuntimeException", "<init>", "()V"⟩ ∈ xNW := xNW_of (p := 6067) (by decide +kernel) rfl
theorem xth_d2 : Cond.declares ⟨"java/lang/Exception", "<init>", "()V"⟩ ∈ xNW := xNW_of (p := 6069) (by decide +kernel) rfl
theorem xth_d3 : Cond.declares ⟨"java/lang/Throwable", "<init>", "()V"⟩ ∈ xNW := xNW_of (p := 6071) (by decide +kernel) rfl
theorem xth_f1 : Bundle.fit xNSE = true := by decide +kernel
theorem xth_f2 : ∀ n ∈ xthN, Bundle.fit n = true := by decide +kernel
def xXG (z : Nat) (U : State) : Prop := va_Nw (.castable xNSE xNSE) U ∧ vx_Zq Bundle.tN "UNASSIGNED_STACK" Bundle.steD (fun q => z ≤ q) U U.heap ∧ vx_Zq Bundle.tN "SUPPRESSED_SENTINEL" Bundle.listD (fun q => z ≤ q) U U.heap
theorem xXG_same {z : Nat} {u U : State} (hv : u.vm = U.vm) (hh : u.heap = U.heap) (h : xXG z u) : xXG z U := by
  obtain ⟨h1, h2, h3⟩ := h
  have ha : u.vm.Alike U.vm := by rw [hv]; exact Vm.Alike.refl U.vm
  exact ⟨va_Nw.same rfl hv h1, by rw [← hh]; exact vx_Zq.moved ha h2, by rw [← hh]; exact vx_Zq.moved ha h3⟩
theorem xXG_at {z : Nat} {s U : State} {H : Heap} {locs : List Loc} (h : xXG z s) (hS : va_S (fun q => z ≤ q) s.heap H locs) (hH : U.heap = H) (hW : s.WarmedH U.vm) : xXG z U := by
  obtain ⟨h1, h2, h3⟩ := h
  exact ⟨va_Nw.warmC hW h1, by rw [hH]; exact (vx_Zq.moved hW.alike h2).kept hS.2.1, by rw [hH]; exact (vx_Zq.moved hW.alike h3).kept hS.2.1⟩
def xPrX (al : Bool) (z : Nat) (D : va_G) (cy : Nat → ClassId) (sa sv : Nat → Nat) (S : xS) (U : State) : Prop := xPre al z D cy sa sv S U ∧ xXG z U
theorem xPrX_blind {al : Bool} {z : Nat} {D : va_G} {cy : Nat → ClassId} {sa sv : Nat → Nat} {S : xS} {as : List Value} : FrameBlind (va_Pc as (xPrX al z D cy sa sv S)) := by
  intro a U g mk h
  obtain ⟨h1, ⟨h2, h3, h4⟩, h5⟩ := h
  exact ⟨h1, ⟨xG_same (u := U) rfl rfl h2, h3, h4⟩, xXG_same (u := U) rfl rfl h5⟩
/-- what is thrown, and the world behind it -/
def xXC (z : Nat) (D : va_G) (cy : Nat → ClassId) (S' : xS) : String → State → State → Prop := fun E st t => E = xNSE ∧ va_P D vwCl (xW z cy S') t.heap ∧ va_F (fun q => z ≤ q) st t
def xnoQ : Array Value → State → Outcome → State → Prop := fun _ _ _ _ => False
def xroomT : Room := { frames := 52, cells := 1, slots := 6, locals := 3500 }
section XTHR
variable {p : Program} {l : Launch} {e : Env} {R : Room} {s : State} {m : MethodId} {args : Array Value} {below : List Frame} {meth : Method} {c : Code} {Q : State → Prop}
variable {al : Bool} {z : Nat} {D : va_G} {cy : Nat → ClassId} {sa sv : Nat → Nat} {o : Nat} {cc : ByteArray} {ret : Option FieldType} {ini : Bool} {nL C Sl : Nat} {rS : Option Value × xS} {pc : Nat} {ls st : List Value} {S : xS}
set_option maxRecDepth 100000 in
theorem lr_throw (X : xCx p R s m args meth c z D cy sa sv 10 cc ret ini nL 0 0) (hXG : xXG z s) (hfl : l.stackTraces = false) (ht : ∀ x ∈ c.exceptionTable.toList, False) (hR : 1 ≤ R.cells ∧ 6 ≤ R.slots) (d0 : decode cc pc = .ok (.new 191, 3)) (d3 : decode cc (pc + 3) = .ok (.dup, 1)) (d4 : decode cc (pc + 4) = .ok (.invokespecial 193, 3)) (d7 : decode cc (pc + 7) = .ok (.athrow, 1)) (hrS : rS.2.1 = S.1) :
    xGoT p l e R s m args below meth c (vx_MQ below xnoQ (xXC z D cy S) args s 1 6 (fun q => z ≤ q)) false z D cy sa nL 0 0 rS pc ls [] S := by
  obtain ⟨hx, hb, hml, hown, hts, hG, hini, hRf, hRl, hCR, hSR, hrt, hlk⟩ := X
  intro H locs cells slots lsM h1 h2 h3 h4 h5 h6 h7
  have hc0 : cells = 0 := by rw [hrS] at h6; omega
  have hs0 : slots = 0 := by
    have e : xsz rS.2 = xsz S := by unfold xsz; rw [hrS]
    omega
  subst hc0
  subst hs0
  have hat : ∀ w ∈ vx_at0 (xNm 10) 193 xNSE xthN, w.before args s = true := vx_hat (B := xthB) (fun w hw => hts w (xth_good w hw)) xth_rest (vx_c (va_Nw.use rfl (hG.2.1 _ xth_d1)) (vx_c (va_Nw.use rfl (hG.2.1 _ xth_d2)) (vx_c (va_Nw.use rfl (hG.2.1 _ xth_d3)) (vx_c (va_Nw.use rfl hXG.1) vx_n))))
  refine vx_throw0 (own := xNm 10) (cls := xNSE) (names := xthN) (ik := 191) (ic := 193) (mc := 1) (ms := 6) (A := fun q => z ≤ q) hx hb hfl hown xth_f1 xth_f2 (hts _ xth_ci) (hts _ xth_in) hat xth_ot hXG.2.1 hXG.2.2 h4 (h5.1.trans hml.symm) d0 d3 d4 d7 (fun x hx => (ht x hx).elim) ?_ ?_ ?_ ?_ hlk ?_ h4.2.2 (Nat.le_refl _) (Nat.le_refl _)
  · show 2 + 3 < R.frames; omega
  · show 0 + (13 * (2 + 1) + 42) ≤ R.locals; omega
  · omega
  · omega
  · intro t ha hz hk
    exact ⟨rfl, h2.kept (fun k q hq => hk _ (vx_lt h2 hq)), Nat.le_trans h4.1 hz, fun q q1 q2 => (hk q (Nat.lt_of_lt_of_le q1 h4.1)).trans (h4.2.1 q q1 q2)⟩
set_option maxRecDepth 100000 in
theorem xvx_of {j n ml : Nat} {y : MethodName} {code : ByteArray} {ret : Option FieldType} {as : List Value} {S S1 : xS} (hj : j < 296) (hq : xMI j = (10, n, ml, y, code, ret, false, false)) (hx : (xargs as).length ≤ ml)
    (h : ∀ {p : Program} {e : Env} {R : Room} {s : State} {m : MethodId} {args : Array Value} {below : List Frame} {meth : Method} {c : Code}, xCx p R s m args meth c z D cy sa sv 10 code ret false ml 0 0 → xXG z s → (∀ x ∈ c.exceptionTable.toList, False) → 52 ≤ R.frames → 3500 ≤ R.locals → 1 ≤ R.cells ∧ 6 ≤ R.slots →
      xGoT p l e R s m args below meth c (vx_MQ below xnoQ (xXC z D cy S1) args s 1 6 (fun q => z ≤ q)) false z D cy sa ml 0 0 (none, S) 0 (xent as ml) [] S) :
    vx_Met l y (xws y code ml ret) xroomT (va_Pc (as.map (xup z sa)) (xPrX false z D cy sa sv S)) xnoQ (xXC z D cy S1) 1 6 (fun q => z ≤ q) := by
  obtain ⟨m1, m2, m3, m4, m5, m6, m7, m8, m9, m10, m11, m12, m13⟩ := xM_ok hj hq
  refine vx_ofW (cc := code) (maxL := ml) (ret := ret) m12 rfl ?_
  intro p e s m args below meth c s₁ B hml ht hv
  obtain ⟨rfl, ⟨hG, hP, hal⟩, hXG⟩ := hv
  have hts := atoms_spec (ws := xws y code ml ret) B.pre
  have hown := findClass_of_methodNamed B.named
  rw [m6] at hown
  have hl := lv_entry (as.map (xup z sa)) (n := ml) (by rw [xargs_sl]; exact hx)
  rw [lg_entry_eq]
  have X : xCx p (headSpec (xws y code ml ret) xroomT).room s m (as.map (xup z sa)).toArray meth c z D cy sa sv 10 code ret false ml 0 0 :=
    ⟨B.exec, B.bytes, hml, hown, fun w hw => hts w (List.mem_cons_of_mem _ hw), hG, fun hi => absurd hi Bool.false_ne_true, Nat.le_of_ble_eq_true rfl, Nat.le_of_ble_eq_true rfl, Nat.zero_le _, Nat.zero_le _, B.returns, B.notSynchronized⟩
  exact h X hXG ht (Nat.le_refl _) (Nat.le_refl _) ⟨Nat.le_refl _, Nat.le_refl _⟩ s.heap [] 0 0 _ (xent_len hx) hP (fun ha => absurd ha Bool.false_ne_true) va_S.rf (xlp_ent hl) rfl rfl
theorem lr_getI {k0 ci f zz a nf : Nat} {v : Int32} (X : xCx p R s m args meth c z D cy sa sv o cc ret ini nL C Sl) (hd : decode cc pc = .ok (.getfield k0, 3)) (hk : xlk o k0 = some [0, ci, f, zz]) (ha : S.1[a]? = some (ci, nf)) (hn : nf = xnf ci ∧ f < nf) (ht : ¬ xtg ci f = 1 ∧ ¬ xtg ci f = 2) (hv : S.2.1 a f = v) (k : xGoT p l e R s m args below meth c Q al z D cy sa nL C Sl rS (pc + 3) ls (.int v :: st) S) : xGoT p l e R s m args below meth c Q al z D cy sa nL C Sl rS pc ls (.ref a :: st) S := xlr_go (fun go hgo h => xs_getfield X hgo hd h) (fun go call => by obtain ⟨hn, hf⟩ := hn; subst hn; subst hv; simp only [xstep, xR1, hk, if_pos (And.intro ha hf), if_neg ht.1, if_neg ht.2]) k
theorem lr_if_lt_T {off : Int} {t : Nat} {x : Int32} (X : xCx p R s m args meth c z D cy sa sv o cc ret ini nL C Sl) (hd : decode cc pc = .ok (.ifCond .lt off, 3)) (ht : xtgt pc off = some t) (h : x < 0) (k : xGoT p l e R s m args below meth c Q al z D cy sa nL C Sl rS t ls st S) : xGoT p l e R s m args below meth c Q al z D cy sa nL C Sl rS pc ls (.int x :: st) S := xlr_go (fun go hgo h => xs_if_lt X hgo hd h) (fun go call => by simp only [xstep, xI1, xjmp, ht]; exact if_pos (show xcmp .lt x 0 = true from decide_eq_true h)) k
theorem lr_if_lt_F {off : Int} {t : Nat} {x : Int32} (X : xCx p R s m args meth c z D cy sa sv o cc ret ini nL C Sl) (hd : decode cc pc = .ok (.ifCond .lt off, 3)) (ht : xtgt pc off = some t) (h : ¬ x < 0) (k : xGoT p l e R s m args below meth c Q al z D cy sa nL C Sl rS (pc + 3) ls st S) : xGoT p l e R s m args below meth c Q al z D cy sa nL C Sl rS pc ls (.int x :: st) S := xlr_go (fun go hgo h => xs_if_lt X hgo hd h) (fun go call => by simp only [xstep, xI1, xjmp, ht]; exact if_neg (by rw [show xcmp .lt x 0 = false from decide_eq_false h]; exact Bool.false_ne_true)) k
theorem lr_icmp_ge_T {off : Int} {t : Nat} {x y : Int32} (X : xCx p R s m args meth c z D cy sa sv o cc ret ini nL C Sl) (hd : decode cc pc = .ok (.if_icmp .ge off, 3)) (ht : xtgt pc off = some t) (h : y ≤ x) (k : xGoT p l e R s m args below meth c Q al z D cy sa nL C Sl rS t ls st S) : xGoT p l e R s m args below meth c Q al z D cy sa nL C Sl rS pc ls (.int y :: .int x :: st) S := xlr_go (fun go hgo h => xs_icmp_ge X hgo hd h) (fun go call => by simp only [xstep, xI2, xjmp, ht]; exact if_pos (show xcmp .ge x y = true from decide_eq_true h)) k
theorem lr_icmp_le_F {off : Int} {t : Nat} {x y : Int32} (X : xCx p R s m args meth c z D cy sa sv o cc ret ini nL C Sl) (hd : decode cc pc = .ok (.if_icmp .le off, 3)) (ht : xtgt pc off = some t) (h : ¬ (x ≤ y)) (k : xGoT p l e R s m args below meth c Q al z D cy sa nL C Sl rS (pc + 3) ls st S) : xGoT p l e R s m args below meth c Q al z D cy sa nL C Sl rS pc ls (.int y :: .int x :: st) S := xlr_go (fun go hgo h => xs_icmp_le X hgo hd h) (fun go call => by simp only [xstep, xI2, xjmp, ht]; exact if_neg (by rw [show xcmp .le x y = false from decide_eq_false h]; exact Bool.false_ne_true)) k
set_option maxRecDepth 100000 in
theorem x_octet_throw {iv : Int32} {ol : Nat} {S : xS} (hX : XC S) (k13 : S.2.1 0 13 = nI ol) (hol : ol ≤ 240) (hno : ¬ ∃ i, i < ol ∧ iv = nI i) (hfl : l.stackTraces = false) : vx_Met l yX11_octet (xws yX11_octet cX11_octet 2 (some .int)) xroomT (va_Pc ([.ref 0, .int iv].map (xup z sa)) (xPrX false z D cy sa sv S)) xnoQ (xXC z D cy S) 1 6 (fun q => z ≤ q) := by
  refine xvx_of (j := j_X11_octet) (by decide) q_X11_octet (Nat.le_of_ble_eq_true rfl) (fun {p e R s m args below meth c} X hXG ht hf hlo hR => ?_)
  have thr := lr_throw (l := l) (e := e) (below := below) (pc := 21) (ls := [.ref 0, .int iv]) (S := S) (rS := (none, S)) X hXG hfl ht hR dX11_octet_21 dX11_octet_24 dX11_octet_25 dX11_octet_28 rfl
  refine lr_iload_n (x := iv) X dX11_octet_0 rfl ?_
  rcases Decidable.em (iv < 0) with w | w
  · exact lr_if_lt_T X dX11_octet_1 rfl w thr
  · refine lr_if_lt_F X dX11_octet_1 rfl w ?_
    refine lr_iload_n (x := iv) X dX11_octet_4 rfl (lr_aload_n (x := .ref 0) X dX11_octet_5 rfl rfl (lr_getI X dX11_octet_6 k10_188 (xsh hX sh_0) ⟨rfl, by decide⟩ ⟨by decide, by decide⟩ k13 ?_))
    obtain ⟨i, hi, rfl⟩ := nI_of w
    have hle : ol ≤ i := Nat.le_of_not_lt (fun h => hno ⟨i, h, rfl⟩)
    exact lr_icmp_ge_T X dX11_octet_9 rfl ((nI_leI (by omega) hi).mpr hle) thr
theorem xw_gr : Cond.methodLink (xNm 10) 236 yX11_isGameReady ∈ xAL := xAL_of (p := 5067) (by decide +kernel) rfl
theorem xw_ip : Cond.methodLink (xNm 10) 252 yX11_isPerson ∈ xAL := xAL_of (p := 5145) (by decide +kernel) rfl
set_option maxRecDepth 100000 in
theorem x_share_throw {q : xPx} {who wh : Int32} (ho : xzo q) {S : xS} (h : xCS S q) (hno : ¬ (xzal q = true ∧ xgH (xzg q) ≤ 8 ∧ (∃ p, p < xgP (xzg q) ∧ who = nI p) ∧ (wh = nI 0 ∨ wh = nI 1))) (hfl : l.stackTraces = false) : ∃ S1, xFl (fun i k => (i = 74 ∧ (k = 2 ∨ k = 5 ∨ 10 ≤ k)) ∨ i = 76 ∨ i = 77 ∨ i = 78 ∨ (106 ≤ i ∧ i ≤ 129)) S S1 ∧ xsmm S S1 ∧ ∀ (z : Nat) (D : va_G) (cy : Nat → ClassId) (sa sv : Nat → Nat), vx_Met l yX11_share (xws yX11_share cX11_share 6 (some .int)) xroomT (va_Pc ([.ref 0, .int who, .int wh].map (xup z sa)) (xPrX false z D cy sa sv S)) xnoQ (xXC z D cy S1) 1 6 (fun q => z ≤ q) := by
  have hX := h.X
  obtain ⟨b, S1, g1, f1, hb, hD⟩ := c_isGameReady 30 ho h
  have X1 := f1.XC hX
  have h1 := h.fr f1 (fun i q w1 w2 => by omega)
  obtain ⟨b2, gp, hb2⟩ := c_isPerson (p := who) 35 ho h1
  have e1 : S1.1 = S.1 := f1.1
  have ez : xsz S1 = xsz S := by unfold xsz; rw [e1]
  refine ⟨S1, f1, xcall_same g1, fun z D cy sa sv => ?_⟩
  refine xvx_of (j := j_X11_share) (by decide) q_X11_share (Nat.le_of_ble_eq_true rfl) (fun {p e R s m args below meth c} X hXG ht hf hlo hR => ?_)
  have thr := lr_throw (l := l) (e := e) (below := below) (pc := 24) (ls := [.ref 0, .int who, .int wh, .float 0, .float 0, .float 0]) (S := S1) (rS := (none, S)) X hXG hfl ht hR dX11_share_24 dX11_share_27 dX11_share_28 dX11_share_31 e1.symm
  refine lr_aload_n (x := .ref 0) X dX11_share_0 rfl rfl ?_
  refine lr_iv (as' := []) (r := []) (dd := 35) (v := some (.int (xB b))) X q_X11_isGameReady (by decide) (by decide) (by decide) xw_gr (xsh hX sh_0) rfl (Nat.zero_le _) g1 e1 (by omega) (by omega) (Nat.le_refl _) (Nat.le_refl _) dX11_share_1 ?_
  show xGoT p l e R s m args below meth c _ false z D cy sa 6 0 0 (none, S) 4 [.ref 0, .int who, .int wh, .float 0, .float 0, .float 0] [.int (xB b)] S1
  cases b with
  | false => exact lr_if_eq_T X dX11_share_4 rfl rfl thr
  | true =>
    refine lr_if_eq_F X dX11_share_4 rfl (by decide) ?_
    refine lr_aload_n (x := .ref 0) X dX11_share_7 rfl rfl (lr_iload_n (x := who) X dX11_share_8 rfl ?_)
    refine lr_iv (as' := [.int who]) (r := []) (dd := 35) (v := some (.int (xB b2))) X q_X11_isPerson (by decide) (by decide) (by decide) xw_ip (xsh X1 sh_0) rfl (Nat.zero_le _) gp rfl (by omega) (by omega) (by show S1.1.length ≤ S.1.length; rw [e1]; exact Nat.le_refl _) (by show xsz S1 ≤ xsz S; omega) dX11_share_9 ?_
    show xGoT p l e R s m args below meth c _ false z D cy sa 6 0 0 (none, S) 12 [.ref 0, .int who, .int wh, .float 0, .float 0, .float 0] [.int (xB b2)] S1
    cases b2 with
    | false => exact lr_if_eq_T X dX11_share_12 rfl rfl thr
    | true =>
      refine lr_if_eq_F X dX11_share_12 rfl (by decide) ?_
      refine lr_iload_n (x := wh) X dX11_share_15 rfl ?_
      rcases Decidable.em (wh < 0) with w | w
      · exact lr_if_lt_T X dX11_share_16 rfl w thr
      · refine lr_if_lt_F X dX11_share_16 rfl w (lr_iload_n (x := wh) X dX11_share_19 rfl (lr_iconst (v := nI 1) X dX11_share_20 rfl ?_))
        refine lr_icmp_le_F X dX11_share_21 rfl (fun hle => ?_) thr
        obtain ⟨i, hi, rfl⟩ := nI_of w
        have hi1 : i ≤ 1 := (nI_leI hi (by decide)).mp hle
        obtain ⟨a1, a2⟩ := hb.mp rfl
        refine hno ⟨a1, a2, hb2.mp rfl, ?_⟩
        rcases (show i = 0 ∨ i = 1 by omega) with rfl | rfl
        · exact Or.inl rfl
        · exact Or.inr rfl
end XTHR
