/-! THE PURE MACHINE IS SOUND: what it answers, the machine answers -/
def xtys (cy : Nat → ClassId) : List (ClassId × FieldType) := [(cy 20, .int), (cy 21, .char), (cy 22, .byte), (cy 23, .boolean), (cy 24, .long), (cy 25, .object RX3), (cy 26, .object RX1), (cy 27, .array .int)]
def xSlen : List Nat := (List.range 9).map (fun k => (xStr k).length)
def xSbyt : List (List Int32) := (List.range 9).map (fun k => (xStr k).map (fun c => Int32.ofNat c))
def xAOA (U : State) : Prop := (Cond.arrayOver (.array .int)).before #[] U = true
theorem xAOA_moved {u U : State} (hvm : u.vm.Alike U.vm) (h : xAOA u) : xAOA U := xao_moved hvm h
def xG (z : Nat) (D : va_G) (cy : Nat → ClassId) (sa sv : Nat → Nat) (U : State) : Prop :=
  va_K D vwCl (xtys cy) U ∧ (∀ w ∈ xNW, va_Nw w U) ∧ (∀ o k s, xlk o k = some [11, s] → ∃ tx, vk_R (xNm o) k tx (sa s) U) ∧ vk_S 9 xSlen xSbyt sa sv (fun q => z ≤ q) U U.heap ∧ va_Z "java/lang/String" "COMPACT_STRINGS" "Z" (.int 1) (fun q => z ≤ q) U U.heap ∧ va_AO RX3 U ∧ va_AO RX1 U ∧ z ≤ U.heap.size ∧ (∃ w : Value, va_Z "jdk/internal/util/Preconditions" "SIOOBE_FORMATTER" "Ljava/util/function/BiFunction;" w (fun q => z ≤ q) U U.heap ∧ xisref w = true) ∧ xAOA U
def xsz (S : xS) : Nat := (S.1.map (fun q => q.2)).sum
def xws (y : MethodName) (code : ByteArray) (ml : Nat) (ret : Option FieldType) : List Cond := .code y code ml ret :: xAL
def xroom (d mc ms : Nat) : Room := { frames := d + 8, cells := mc, slots := ms, locals := 60 * d + 400 }
def xPre (al : Bool) (z : Nat) (D : va_G) (cy : Nat → ClassId) (sa sv : Nat → Nat) (S : xS) (U : State) : Prop := xG z D cy sa sv U ∧ va_P D vwCl (xW z cy S) U.heap ∧ (al = true → U.heap.size = z + S.1.length)
def xQ (al : Bool) (z : Nat) (D : va_G) (cy : Nat → ClassId) (sa : Nat → Nat) (r : Option Value) (S' : xS) : Array Value → State → Outcome → State → Prop := fun _ st oc t =>
  (oc = .returned (r.map (xup z sa)) ∧ va_P D vwCl (xW z cy S') t.heap ∧ (al = true → t.heap.size = z + S'.1.length)) ∧ va_F (fun q => z ≤ q) st t
theorem xNw_warm {w : Cond} (hw : xNest w = true) {s U : State} (hW : s.WarmedH U.vm) (h : va_Nw w s) : va_Nw w U := by
  cases w <;> first | (simp [xNest] at hw; done) | exact va_Nw.warmF hW h | exact va_Nw.warmM hW h | exact va_Nw.warmD hW h
theorem xNw_same {w : Cond} (hw : xNest w = true) {u U : State} (hv : u.vm = U.vm) (h : va_Nw w u) : va_Nw w U := by
  cases w <;> first | (simp [xNest] at hw; done) | exact va_Nw.same rfl hv h
theorem xG_same {z : Nat} {D : va_G} {cy : Nat → ClassId} {sa sv : Nat → Nat} {u U : State} (hv : u.vm = U.vm) (hh : u.heap = U.heap) (h : xG z D cy sa sv u) : xG z D cy sa sv U := by
  obtain ⟨h1, h2, h3, h4, h5, h6, h7, h8, ⟨w, h9, h9'⟩, h10⟩ := h
  have ha : u.vm.Alike U.vm := by rw [hv]; exact Vm.Alike.refl U.vm
  refine ⟨va_K.moved ha h1, fun w hw => xNw_same (List.mem_filter.mp hw).2 hv (h2 w hw), fun o k s hk => ?_, by rw [← hh]; exact vk_S.moved ha h4, by rw [← hh]; exact va_Z.moved ha h5, va_AO.moved ha h6, va_AO.moved ha h7, by rw [← hh]; exact h8, ⟨w, by rw [← hh]; exact va_Z.moved ha h9, h9'⟩, xAOA_moved ha h10⟩
  obtain ⟨tx, ht⟩ := h3 o k s hk
  exact ⟨tx, vk_R.same hv.symm ht⟩
theorem xG_at {z : Nat} {D : va_G} {cy : Nat → ClassId} {sa sv : Nat → Nat} {s U : State} {H : Heap} {locs : List Loc} (h : xG z D cy sa sv s) (hS : va_S (fun q => z ≤ q) s.heap H locs) (hH : U.heap = H) (hW : s.WarmedH U.vm) : xG z D cy sa sv U := by
  obtain ⟨h1, h2, h3, h4, h5, h6, h7, h8, ⟨w, h9, h9'⟩, h10⟩ := h
  have ha : s.vm.Alike U.vm := hW.alike
  refine ⟨va_K.moved ha h1, fun w hw => xNw_warm (List.mem_filter.mp hw).2 hW (h2 w hw), fun o k s hk => ?_, ?_, ?_, va_AO.moved ha h6, va_AO.moved ha h7, by rw [hH]; exact Nat.le_trans h8 hS.1, ⟨w, by rw [hH]; exact (va_Z.moved ha h9).kept hS.2.1, h9'⟩, xAOA_moved ha h10⟩
  · obtain ⟨tx, ht⟩ := h3 o k s hk
    exact ⟨tx, vk_R.warm hW ht⟩
  · rw [hH]; exact (vk_S.moved ha h4).kept hS.2.1
  · rw [hH]; exact (va_Z.moved ha h5).kept hS.2.1
theorem xPre_blind {al : Bool} {z : Nat} {D : va_G} {cy : Nat → ClassId} {sa sv : Nat → Nat} {S : xS} {as : List Value} : FrameBlind (va_Pc as (xPre al z D cy sa sv S)) := by
  intro a U g mk h
  obtain ⟨h1, h2, h3, h4⟩ := h
  exact ⟨h1, xG_same (u := U) rfl rfl h2, h3, h4⟩
/-- what stands while a method runs -/
def xCx (p : Program) (R : Room) (s : State) (m : MethodId) (args : Array Value) (meth : Method) (c : Code) (z : Nat) (D : va_G) (cy : Nat → ClassId) (sa sv : Nat → Nat) (o : Nat) (cc : ByteArray) (ret : Option FieldType) (ini : Bool) (nL C Sl : Nat) : Prop :=
  p.tables.exec = Jvm.exec ∧ c.code = cc ∧ c.maxLocals = nL ∧ s.vm.findClass (xNm o) = some m.cls ∧ (∀ w ∈ xAL, w.before args s = true) ∧ xG z D cy sa sv s ∧ (ini = true → meth.name = "<init>") ∧ 8 ≤ R.frames ∧ 400 ≤ R.locals ∧ C ≤ R.cells ∧ Sl ≤ R.slots ∧ meth.sig.returnType = ret ∧ meth.locks = false
def xGoT (p : Program) (l : Launch) (e : Env) (R : Room) (s : State) (m : MethodId) (args : Array Value) (below : List Frame) (meth : Method) (c : Code) (Q : State → Prop) (al : Bool) (z : Nat) (D : va_G) (cy : Nat → ClassId) (sa : Nat → Nat) (nL C Sl : Nat) (rS : Option Value × xS) (pc : Nat) (ls st : List Value) (S : xS) : Prop :=
  ∀ (H : Heap) (locs : List Loc) (cells slots : Nat) (lsM : Array Slot), ls.length = nL → va_P D vwCl (xW z cy S) H → (al = true → H.size = z + S.1.length ∧ H.size = s.heap.size + cells) → va_S (fun q => z ≤ q) s.heap H locs → lv_has lsM nL (xlp z sa ls) → C + S.1.length = cells + rS.2.1.length → Sl + xsz S = slots + xsz rS.2 →
    W p l e R s m args below meth c H locs cells slots Q (F0 m pc lsM (st.map (xup z sa)))
def xlater (S : xS) (S' : xS) : Prop := S.1.length ≤ S'.1.length ∧ xsz S ≤ xsz S'
def xCall (l : Launch) (R : Room) (al : Bool) (z : Nat) (D : va_G) (cy : Nat → ClassId) (sa sv : Nat → Nat) (j : Nat) (as : List Value) (S : xS) (v : Option Value) (S1 : xS) : Prop :=
  xlater S S1 ∧ j < 296 ∧ ∃ d, d + 9 ≤ R.frames ∧ 60 * (d + 1) + 400 ≤ R.locals ∧ as.length = (xMI j).2.1 ∧ Met l (xMI j).2.2.2.1 (xws (xMI j).2.2.2.1 (xMI j).2.2.2.2.1 (xMI j).2.2.1 (xMI j).2.2.2.2.2.1) (xroom d (S1.1.length - S.1.length) (xsz S1 - xsz S)) (va_Pc (as.map (xup z sa)) (xPre al z D cy sa sv S)) (xQ al z D cy sa v S1) (S1.1.length - S.1.length) (xsz S1 - xsz S) (fun q => z ≤ q)

theorem xI1_some {st : List Value} {k : Int32 → List Value → xO} {q : Option Value × xS} (h : xI1 st k = some q) : ∃ a r, st = .int a :: r ∧ k a r = some q := by
  unfold xI1 at h; split at h
  · exact ⟨_, _, rfl, h⟩
  · cases h
theorem xI2_some {st : List Value} {k : Int32 → Int32 → List Value → xO} {q : Option Value × xS} (h : xI2 st k = some q) : ∃ a b r, st = .int b :: .int a :: r ∧ k a b r = some q := by
  unfold xI2 at h; split at h
  · exact ⟨_, _, _, rfl, h⟩
  · cases h
theorem xL1_some {st : List Value} {k : Int64 → List Value → xO} {q : Option Value × xS} (h : xL1 st k = some q) : ∃ a r, st = .long a :: r ∧ k a r = some q := by
  unfold xL1 at h; split at h
  · exact ⟨_, _, rfl, h⟩
  · cases h
theorem xL2_some {st : List Value} {k : Int64 → Int64 → List Value → xO} {q : Option Value × xS} (h : xL2 st k = some q) : ∃ a b r, st = .long b :: .long a :: r ∧ k a b r = some q := by
  unfold xL2 at h; split at h
  · exact ⟨_, _, _, rfl, h⟩
  · cases h
theorem xR1_some {st : List Value} {k : Nat → List Value → xO} {q : Option Value × xS} (h : xR1 st k = some q) : ∃ a r, st = .ref a :: r ∧ k a r = some q := by
  unfold xR1 at h; split at h
  · exact ⟨_, _, rfl, h⟩
  · cases h
theorem xV1_some {st : List Value} {k : Value → List Value → xO} {q : Option Value × xS} (h : xV1 st k = some q) : ∃ a r, st = a :: r ∧ k a r = some q := by
  unfold xV1 at h; split at h
  · exact ⟨_, _, rfl, h⟩
  · cases h
theorem xld_some {ls : List Value} {i : Nat} {k : Value → xO} {q : Option Value × xS} (h : xld ls i k = some q) : ∃ v, ls[i]? = some v ∧ k v = some q := by
  unfold xld at h; split at h
  · exact ⟨_, by assumption, h⟩
  · cases h
theorem xst1_some {ls : List Value} {i : Nat} {v : Value} {k : List Value → xO} {q : Option Value × xS} (h : xst1 ls i v k = some q) : i < ls.length ∧ (i = 0 ∨ xcat2 ls[i - 1]? = false) ∧ k (ls.set i v) = some q := by
  unfold xst1 at h; split at h
  · rename_i hc; exact ⟨hc.1, hc.2, h⟩
  · cases h
theorem xst2_some {ls : List Value} {i : Nat} {v : Value} {k : List Value → xO} {q : Option Value × xS} (h : xst2 ls i v k = some q) : i + 1 < ls.length ∧ (i = 0 ∨ xcat2 ls[i - 1]? = false) ∧ k ((ls.set i v).set (i + 1) (.float 0)) = some q := by
  unfold xst2 at h; split at h
  · rename_i hc; exact ⟨hc.1, hc.2, h⟩
  · cases h
theorem xjmp_some {pc : Nat} {off : Int} {k : Nat → xO} {q : Option Value × xS} (h : xjmp pc off k = some q) : ∃ t : Nat, (pc : Int) + off = (t : Int) ∧ k t = some q := by
  unfold xjmp at h; split at h
  · rename_i t ht
    refine ⟨t, ?_, h⟩
    unfold xtgt at ht
    split at ht
    · rename_i t2 ht2
      rw [ht2, ← Option.some.inj ht]
      rfl
    · cases ht
  · cases h
theorem xif_some {c : Prop} [Decidable c] {k : xO} {q : Option Value × xS} (h : (if c then k else none) = some q) : c ∧ k = some q := by
  split at h
  · exact ⟨by assumption, h⟩
  · cases h
theorem xifn_some {c : Prop} [Decidable c] {k : xO} {q : Option Value × xS} (h : (if c then none else k) = some q) : ¬ c ∧ k = some q := by
  split at h
  · cases h
  · exact ⟨by assumption, h⟩
theorem xald_some {st : List Value} {S : xS} {k : Nat → Nat → Nat → List Value → xO} {q : Option Value × xS} (h : xald st S k = some q) : ∃ j a r t n, st = .int j :: .ref a :: r ∧ S.1[a]? = some (t, n) ∧ vp_in j n ∧ k t a j.toNatClampNeg r = some q := by
  unfold xald at h; split at h
  · split at h
    · rename_i h2
      have h0 := xifn_some h; clear h; obtain ⟨h3, h4⟩ := h0
      exact ⟨_, _, _, _, _, rfl, h2, h3, h4⟩
    · cases h
  · cases h
theorem xast_some {st : List Value} {S : xS} {k : Nat → Nat → Nat → Value → List Value → xO} {q : Option Value × xS} (h : xast st S k = some q) : ∃ v j a r t n, st = v :: .int j :: .ref a :: r ∧ S.1[a]? = some (t, n) ∧ vp_in j n ∧ k t a j.toNatClampNeg v r = some q := by
  unfold xast at h; split at h
  · split at h
    · rename_i h2
      have h0 := xifn_some h; clear h; obtain ⟨h3, h4⟩ := h0
      exact ⟨_, _, _, _, _, _, rfl, h2, h3, h4⟩
    · cases h
  · cases h
theorem xref_cases {v : Value} (h : xisref v = true) : (∃ a, v = .ref a) ∨ v = .null ∨ ∃ k, v = .retAddr k := by
  cases v <;> first | (simp [xisref] at h; done) | exact Or.inl ⟨_, rfl⟩ | exact Or.inr (Or.inl rfl) | exact Or.inr (Or.inr ⟨_, rfl⟩)
theorem xref_nf {v : Value} (h : xisref v = true) : ¬ xisf v = true := by cases v <;> simp [xisref, xisf] at h ⊢
section XSOUND
variable {p : Program} {l : Launch} {e : Env} {R : Room} {s : State} {m : MethodId} {args : Array Value} {below : List Frame} {meth : Method} {c : Code} {Q : State → Prop}
variable {al : Bool} {z : Nat} {D : va_G} {cy : Nat → ClassId} {sa sv : Nat → Nat} {o : Nat} {cc : ByteArray} {ret : Option FieldType} {ini : Bool} {nL C Sl : Nat} {rS : Option Value × xS} {pc : Nat} {ls st : List Value} {S : xS}
variable {go : Nat → List Value → List Value → xS → xO} {call : Nat → List Value → xS → xO}
set_option maxRecDepth 100000 in
theorem xs_iconst {n : Int} (X : xCx p R s m args meth c z D cy sa sv o cc ret ini nL C Sl) (hgo : ∀ pc ls st S, go pc ls st S = some rS → xGoT p l e R s m args below meth c Q al z D cy sa nL C Sl rS pc ls st S) (hd : decode cc pc = .ok (.iconst n, 1)) (h : xstep al o ret ini go call (.iconst n) 1 pc ls st S = some rS) : xGoT p l e R s m args below meth c Q al z D cy sa nL C Sl rS pc ls st S := by
  obtain ⟨hx, hb, hml, hown, hts, hG, hini, hRf, hRl, hCR, hSR, hrt, hlk⟩ := X
  intro H locs cells slots lsM h1 h2 h3 h4 h5 h6 h7
  simp only [xstep] at h
  exact lv_iconst hx hb hd rfl (hgo _ _ _ _ h H locs cells slots lsM h1 h2 h3 h4 h5 h6 h7)
set_option maxRecDepth 100000 in
theorem xs_bipush {n : Int} (X : xCx p R s m args meth c z D cy sa sv o cc ret ini nL C Sl) (hgo : ∀ pc ls st S, go pc ls st S = some rS → xGoT p l e R s m args below meth c Q al z D cy sa nL C Sl rS pc ls st S) (hd : decode cc pc = .ok (.bipush n, 2)) (h : xstep al o ret ini go call (.bipush n) 2 pc ls st S = some rS) : xGoT p l e R s m args below meth c Q al z D cy sa nL C Sl rS pc ls st S := by
  obtain ⟨hx, hb, hml, hown, hts, hG, hini, hRf, hRl, hCR, hSR, hrt, hlk⟩ := X
  intro H locs cells slots lsM h1 h2 h3 h4 h5 h6 h7
  simp only [xstep] at h
  exact lv_bipush hx hb hd rfl (hgo _ _ _ _ h H locs cells slots lsM h1 h2 h3 h4 h5 h6 h7)
set_option maxRecDepth 100000 in
theorem xs_sipush {n : Int} (X : xCx p R s m args meth c z D cy sa sv o cc ret ini nL C Sl) (hgo : ∀ pc ls st S, go pc ls st S = some rS → xGoT p l e R s m args below meth c Q al z D cy sa nL C Sl rS pc ls st S) (hd : decode cc pc = .ok (.sipush n, 3)) (h : xstep al o ret ini go call (.sipush n) 3 pc ls st S = some rS) : xGoT p l e R s m args below meth c Q al z D cy sa nL C Sl rS pc ls st S := by
  obtain ⟨hx, hb, hml, hown, hts, hG, hini, hRf, hRl, hCR, hSR, hrt, hlk⟩ := X
  intro H locs cells slots lsM h1 h2 h3 h4 h5 h6 h7
  simp only [xstep] at h
  exact lv_sipush hx hb hd rfl (hgo _ _ _ _ h H locs cells slots lsM h1 h2 h3 h4 h5 h6 h7)
set_option maxRecDepth 100000 in
theorem xs_aconst_null  (X : xCx p R s m args meth c z D cy sa sv o cc ret ini nL C Sl) (hgo : ∀ pc ls st S, go pc ls st S = some rS → xGoT p l e R s m args below meth c Q al z D cy sa nL C Sl rS pc ls st S) (hd : decode cc pc = .ok (.aconst_null, 1)) (h : xstep al o ret ini go call (.aconst_null) 1 pc ls st S = some rS) : xGoT p l e R s m args below meth c Q al z D cy sa nL C Sl rS pc ls st S := by
  obtain ⟨hx, hb, hml, hown, hts, hG, hini, hRf, hRl, hCR, hSR, hrt, hlk⟩ := X
  intro H locs cells slots lsM h1 h2 h3 h4 h5 h6 h7
  simp only [xstep] at h
  exact lv_null hx hb hd (hgo _ _ _ _ h H locs cells slots lsM h1 h2 h3 h4 h5 h6 h7)
set_option maxRecDepth 100000 in
theorem xs_lconst {n : Fin 2} (X : xCx p R s m args meth c z D cy sa sv o cc ret ini nL C Sl) (hgo : ∀ pc ls st S, go pc ls st S = some rS → xGoT p l e R s m args below meth c Q al z D cy sa nL C Sl rS pc ls st S) (hd : decode cc pc = .ok (.lconst n, 1)) (h : xstep al o ret ini go call (.lconst n) 1 pc ls st S = some rS) : xGoT p l e R s m args below meth c Q al z D cy sa nL C Sl rS pc ls st S := by
  obtain ⟨hx, hb, hml, hown, hts, hG, hini, hRf, hRl, hCR, hSR, hrt, hlk⟩ := X
  intro H locs cells slots lsM h1 h2 h3 h4 h5 h6 h7
  simp only [xstep] at h
  exact lv_lconst hx hb hd rfl (hgo _ _ _ _ h H locs cells slots lsM h1 h2 h3 h4 h5 h6 h7)
set_option maxRecDepth 100000 in
theorem xs_iload_n {k0 : Fin 4} (X : xCx p R s m args meth c z D cy sa sv o cc ret ini nL C Sl) (hgo : ∀ pc ls st S, go pc ls st S = some rS → xGoT p l e R s m args below meth c Q al z D cy sa nL C Sl rS pc ls st S) (hd : decode cc pc = .ok (.iload_n k0, 1)) (h : xstep al o ret ini go call (.iload_n k0) 1 pc ls st S = some rS) : xGoT p l e R s m args below meth c Q al z D cy sa nL C Sl rS pc ls st S := by
  obtain ⟨hx, hb, hml, hown, hts, hG, hini, hRf, hRl, hCR, hSR, hrt, hlk⟩ := X
  intro H locs cells slots lsM h1 h2 h3 h4 h5 h6 h7
  simp only [xstep] at h
  have h0 := xld_some h; clear h; obtain ⟨v, hv, h⟩ := h0
  have h0 := xI1_some h; clear h; obtain ⟨x, r, hr, h⟩ := h0
  cases hr
  exact lv_iload_n hx hb hd rfl (xlp_at h5 hv (fun q => by cases q)) (hgo _ _ _ _ h H locs cells slots lsM h1 h2 h3 h4 h5 h6 h7)
set_option maxRecDepth 100000 in
theorem xs_iload {k0 : Nat} (X : xCx p R s m args meth c z D cy sa sv o cc ret ini nL C Sl) (hgo : ∀ pc ls st S, go pc ls st S = some rS → xGoT p l e R s m args below meth c Q al z D cy sa nL C Sl rS pc ls st S) (hd : decode cc pc = .ok (.iload k0, 2)) (h : xstep al o ret ini go call (.iload k0) 2 pc ls st S = some rS) : xGoT p l e R s m args below meth c Q al z D cy sa nL C Sl rS pc ls st S := by
  obtain ⟨hx, hb, hml, hown, hts, hG, hini, hRf, hRl, hCR, hSR, hrt, hlk⟩ := X
  intro H locs cells slots lsM h1 h2 h3 h4 h5 h6 h7
  simp only [xstep] at h
  have h0 := xld_some h; clear h; obtain ⟨v, hv, h⟩ := h0
  have h0 := xI1_some h; clear h; obtain ⟨x, r, hr, h⟩ := h0
  cases hr
  exact lv_iload hx hb hd (xlp_at h5 hv (fun q => by cases q)) (hgo _ _ _ _ h H locs cells slots lsM h1 h2 h3 h4 h5 h6 h7)
set_option maxRecDepth 100000 in
theorem xs_lload_n {k0 : Fin 4} (X : xCx p R s m args meth c z D cy sa sv o cc ret ini nL C Sl) (hgo : ∀ pc ls st S, go pc ls st S = some rS → xGoT p l e R s m args below meth c Q al z D cy sa nL C Sl rS pc ls st S) (hd : decode cc pc = .ok (.lload_n k0, 1)) (h : xstep al o ret ini go call (.lload_n k0) 1 pc ls st S = some rS) : xGoT p l e R s m args below meth c Q al z D cy sa nL C Sl rS pc ls st S := by
  obtain ⟨hx, hb, hml, hown, hts, hG, hini, hRf, hRl, hCR, hSR, hrt, hlk⟩ := X
  intro H locs cells slots lsM h1 h2 h3 h4 h5 h6 h7
  simp only [xstep] at h
  have h0 := xld_some h; clear h; obtain ⟨v, hv, h⟩ := h0
  have h0 := xL1_some h; clear h; obtain ⟨x, r, hr, h⟩ := h0
  cases hr
  exact lv_lload_n hx hb hd rfl (xlp_at h5 hv (fun q => by cases q)) (hgo _ _ _ _ h H locs cells slots lsM h1 h2 h3 h4 h5 h6 h7)
set_option maxRecDepth 100000 in
theorem xs_lload {k0 : Nat} (X : xCx p R s m args meth c z D cy sa sv o cc ret ini nL C Sl) (hgo : ∀ pc ls st S, go pc ls st S = some rS → xGoT p l e R s m args below meth c Q al z D cy sa nL C Sl rS pc ls st S) (hd : decode cc pc = .ok (.lload k0, 2)) (h : xstep al o ret ini go call (.lload k0) 2 pc ls st S = some rS) : xGoT p l e R s m args below meth c Q al z D cy sa nL C Sl rS pc ls st S := by
  obtain ⟨hx, hb, hml, hown, hts, hG, hini, hRf, hRl, hCR, hSR, hrt, hlk⟩ := X
  intro H locs cells slots lsM h1 h2 h3 h4 h5 h6 h7
  simp only [xstep] at h
  have h0 := xld_some h; clear h; obtain ⟨v, hv, h⟩ := h0
  have h0 := xL1_some h; clear h; obtain ⟨x, r, hr, h⟩ := h0
  cases hr
  exact lv_lload hx hb hd (xlp_at h5 hv (fun q => by cases q)) (hgo _ _ _ _ h H locs cells slots lsM h1 h2 h3 h4 h5 h6 h7)
set_option maxRecDepth 100000 in
theorem xs_aload_n {k0 : Fin 4} (X : xCx p R s m args meth c z D cy sa sv o cc ret ini nL C Sl) (hgo : ∀ pc ls st S, go pc ls st S = some rS → xGoT p l e R s m args below meth c Q al z D cy sa nL C Sl rS pc ls st S) (hd : decode cc pc = .ok (.aload_n k0, 1)) (h : xstep al o ret ini go call (.aload_n k0) 1 pc ls st S = some rS) : xGoT p l e R s m args below meth c Q al z D cy sa nL C Sl rS pc ls st S := by
  obtain ⟨hx, hb, hml, hown, hts, hG, hini, hRf, hRl, hCR, hSR, hrt, hlk⟩ := X
  intro H locs cells slots lsM h1 h2 h3 h4 h5 h6 h7
  simp only [xstep] at h
  have h0 := xld_some h; clear h; obtain ⟨v, hv, h⟩ := h0
  have h0 := xif_some h; clear h; obtain ⟨hr, h⟩ := h0
  have hz := xlp_at h5 hv (xref_nf hr)
  rcases xref_cases hr with ⟨a, rfl⟩ | rfl | ⟨k, rfl⟩
  · exact lv_aload_n hx hb hd rfl hz (hgo _ _ _ _ h H locs cells slots lsM h1 h2 h3 h4 h5 h6 h7)
  · exact lv_aload_nN hx hb hd rfl hz (hgo _ _ _ _ h H locs cells slots lsM h1 h2 h3 h4 h5 h6 h7)
  · exact lv_aload_n hx hb hd rfl hz (hgo _ _ _ _ h H locs cells slots lsM h1 h2 h3 h4 h5 h6 h7)
set_option maxRecDepth 100000 in
theorem xs_aload {k0 : Nat} (X : xCx p R s m args meth c z D cy sa sv o cc ret ini nL C Sl) (hgo : ∀ pc ls st S, go pc ls st S = some rS → xGoT p l e R s m args below meth c Q al z D cy sa nL C Sl rS pc ls st S) (hd : decode cc pc = .ok (.aload k0, 2)) (h : xstep al o ret ini go call (.aload k0) 2 pc ls st S = some rS) : xGoT p l e R s m args below meth c Q al z D cy sa nL C Sl rS pc ls st S := by
  obtain ⟨hx, hb, hml, hown, hts, hG, hini, hRf, hRl, hCR, hSR, hrt, hlk⟩ := X
  intro H locs cells slots lsM h1 h2 h3 h4 h5 h6 h7
  simp only [xstep] at h
  have h0 := xld_some h; clear h; obtain ⟨v, hv, h⟩ := h0
  have h0 := xif_some h; clear h; obtain ⟨hr, h⟩ := h0
  have hz := xlp_at h5 hv (xref_nf hr)
  rcases xref_cases hr with ⟨a, rfl⟩ | rfl | ⟨k, rfl⟩
  · exact lv_aload hx hb hd hz (hgo _ _ _ _ h H locs cells slots lsM h1 h2 h3 h4 h5 h6 h7)
  · exact lv_aloadN hx hb hd hz (hgo _ _ _ _ h H locs cells slots lsM h1 h2 h3 h4 h5 h6 h7)
  · exact lv_aload hx hb hd hz (hgo _ _ _ _ h H locs cells slots lsM h1 h2 h3 h4 h5 h6 h7)
set_option maxRecDepth 100000 in
theorem xs_istore_n {k0 : Fin 4} (X : xCx p R s m args meth c z D cy sa sv o cc ret ini nL C Sl) (hgo : ∀ pc ls st S, go pc ls st S = some rS → xGoT p l e R s m args below meth c Q al z D cy sa nL C Sl rS pc ls st S) (hd : decode cc pc = .ok (.istore_n k0, 1)) (h : xstep al o ret ini go call (.istore_n k0) 1 pc ls st S = some rS) : xGoT p l e R s m args below meth c Q al z D cy sa nL C Sl rS pc ls st S := by
  obtain ⟨hx, hb, hml, hown, hts, hG, hini, hRf, hRl, hCR, hSR, hrt, hlk⟩ := X
  intro H locs cells slots lsM h1 h2 h3 h4 h5 h6 h7
  simp only [xstep] at h
  have h0 := xI1_some h; clear h; obtain ⟨x, r, rfl, h⟩ := h0
  have h0 := xst1_some h; clear h; obtain ⟨h8, h9, h⟩ := h0
  exact lv_istore_n hx hb hd rfl h5 (by omega) rfl (fun ls' hl' => hgo _ _ _ _ h H locs cells slots ls' (by rw [List.length_set]; exact h1) h2 h3 h4 (xlp_set1 (v := .int x) h9 hl') h6 h7)
set_option maxRecDepth 100000 in
theorem xs_istore {k0 : Nat} (X : xCx p R s m args meth c z D cy sa sv o cc ret ini nL C Sl) (hgo : ∀ pc ls st S, go pc ls st S = some rS → xGoT p l e R s m args below meth c Q al z D cy sa nL C Sl rS pc ls st S) (hd : decode cc pc = .ok (.istore k0, 2)) (h : xstep al o ret ini go call (.istore k0) 2 pc ls st S = some rS) : xGoT p l e R s m args below meth c Q al z D cy sa nL C Sl rS pc ls st S := by
  obtain ⟨hx, hb, hml, hown, hts, hG, hini, hRf, hRl, hCR, hSR, hrt, hlk⟩ := X
  intro H locs cells slots lsM h1 h2 h3 h4 h5 h6 h7
  simp only [xstep] at h
  have h0 := xI1_some h; clear h; obtain ⟨x, r, rfl, h⟩ := h0
  have h0 := xst1_some h; clear h; obtain ⟨h8, h9, h⟩ := h0
  exact lv_istore hx hb hd h5 (by omega) rfl (fun ls' hl' => hgo _ _ _ _ h H locs cells slots ls' (by rw [List.length_set]; exact h1) h2 h3 h4 (xlp_set1 (v := .int x) h9 hl') h6 h7)
set_option maxRecDepth 100000 in
theorem xs_lstore_n {k0 : Fin 4} (X : xCx p R s m args meth c z D cy sa sv o cc ret ini nL C Sl) (hgo : ∀ pc ls st S, go pc ls st S = some rS → xGoT p l e R s m args below meth c Q al z D cy sa nL C Sl rS pc ls st S) (hd : decode cc pc = .ok (.lstore_n k0, 1)) (h : xstep al o ret ini go call (.lstore_n k0) 1 pc ls st S = some rS) : xGoT p l e R s m args below meth c Q al z D cy sa nL C Sl rS pc ls st S := by
  obtain ⟨hx, hb, hml, hown, hts, hG, hini, hRf, hRl, hCR, hSR, hrt, hlk⟩ := X
  intro H locs cells slots lsM h1 h2 h3 h4 h5 h6 h7
  simp only [xstep] at h
  have h0 := xL1_some h; clear h; obtain ⟨x, r, rfl, h⟩ := h0
  have h0 := xst2_some h; clear h; obtain ⟨h8, h9, h⟩ := h0
  exact lv_lstore_n hx hb hd rfl h5 (by omega) rfl (fun ls' hl' => hgo _ _ _ _ h H locs cells slots ls' (by rw [List.length_set, List.length_set]; exact h1) h2 h3 h4 (xlp_set2 (v := .long x) h9 hl') h6 h7)
set_option maxRecDepth 100000 in
theorem xs_astore_n {k0 : Fin 4} (X : xCx p R s m args meth c z D cy sa sv o cc ret ini nL C Sl) (hgo : ∀ pc ls st S, go pc ls st S = some rS → xGoT p l e R s m args below meth c Q al z D cy sa nL C Sl rS pc ls st S) (hd : decode cc pc = .ok (.astore_n k0, 1)) (h : xstep al o ret ini go call (.astore_n k0) 1 pc ls st S = some rS) : xGoT p l e R s m args below meth c Q al z D cy sa nL C Sl rS pc ls st S := by
  obtain ⟨hx, hb, hml, hown, hts, hG, hini, hRf, hRl, hCR, hSR, hrt, hlk⟩ := X
  intro H locs cells slots lsM h1 h2 h3 h4 h5 h6 h7
  simp only [xstep] at h
  have h0 := xV1_some h; clear h; obtain ⟨x, r, rfl, h⟩ := h0
  have h0 := xif_some h; clear h; obtain ⟨hr, h⟩ := h0
  have h0 := xst1_some h; clear h; obtain ⟨h8, h9, h⟩ := h0
  have kk : ∀ ls' : Array Slot, lv_has ls' nL ((_, xup z sa x) :: (xlp z sa ls).filter (fun q => !(q.1 == (k0 : Nat)) && !(q.1 + 1 == (k0 : Nat) && q.2.category == 2))) → _ := fun ls' hl' => hgo _ _ _ _ h H locs cells slots ls' (by rw [List.length_set]; exact h1) h2 h3 h4 (xlp_set1 (v := x) h9 hl') h6 h7
  rcases xref_cases hr with ⟨a, rfl⟩ | rfl | ⟨k, rfl⟩
  · exact lv_astore_n hx hb hd rfl h5 (by omega) rfl kk
  · exact lv_astore_nN hx hb hd rfl h5 (by omega) rfl kk
  · exact lv_astore_n hx hb hd rfl h5 (by omega) rfl kk
set_option maxRecDepth 100000 in
theorem xs_lstore {k0 : Nat} (X : xCx p R s m args meth c z D cy sa sv o cc ret ini nL C Sl) (hgo : ∀ pc ls st S, go pc ls st S = some rS → xGoT p l e R s m args below meth c Q al z D cy sa nL C Sl rS pc ls st S) (hd : decode cc pc = .ok (.lstore k0, 2)) (h : xstep al o ret ini go call (.lstore k0) 2 pc ls st S = some rS) : xGoT p l e R s m args below meth c Q al z D cy sa nL C Sl rS pc ls st S := by
  obtain ⟨hx, hb, hml, hown, hts, hG, hini, hRf, hRl, hCR, hSR, hrt, hlk⟩ := X
  intro H locs cells slots lsM h1 h2 h3 h4 h5 h6 h7
  simp only [xstep] at h
  have h0 := xL1_some h; clear h; obtain ⟨x, r, rfl, h⟩ := h0
  have h0 := xst2_some h; clear h; obtain ⟨h8, h9, h⟩ := h0
  exact lv_lstore hx hb hd h5 (by omega) rfl (fun ls' hl' => hgo _ _ _ _ h H locs cells slots ls' (by rw [List.length_set, List.length_set]; exact h1) h2 h3 h4 (xlp_set2 (v := .long x) h9 hl') h6 h7)
set_option maxRecDepth 100000 in
theorem xs_astore {k0 : Nat} (X : xCx p R s m args meth c z D cy sa sv o cc ret ini nL C Sl) (hgo : ∀ pc ls st S, go pc ls st S = some rS → xGoT p l e R s m args below meth c Q al z D cy sa nL C Sl rS pc ls st S) (hd : decode cc pc = .ok (.astore k0, 2)) (h : xstep al o ret ini go call (.astore k0) 2 pc ls st S = some rS) : xGoT p l e R s m args below meth c Q al z D cy sa nL C Sl rS pc ls st S := by
  obtain ⟨hx, hb, hml, hown, hts, hG, hini, hRf, hRl, hCR, hSR, hrt, hlk⟩ := X
  intro H locs cells slots lsM h1 h2 h3 h4 h5 h6 h7
  simp only [xstep] at h
  have h0 := xV1_some h; clear h; obtain ⟨x, r, rfl, h⟩ := h0
  have h0 := xif_some h; clear h; obtain ⟨hr, h⟩ := h0
  have h0 := xst1_some h; clear h; obtain ⟨h8, h9, h⟩ := h0
  have kk : ∀ ls' : Array Slot, lv_has ls' nL ((_, xup z sa x) :: (xlp z sa ls).filter (fun q => !(q.1 == (k0 : Nat)) && !(q.1 + 1 == (k0 : Nat) && q.2.category == 2))) → _ := fun ls' hl' => hgo _ _ _ _ h H locs cells slots ls' (by rw [List.length_set]; exact h1) h2 h3 h4 (xlp_set1 (v := x) h9 hl') h6 h7
  rcases xref_cases hr with ⟨a, rfl⟩ | rfl | ⟨k, rfl⟩
  · exact lv_astore hx hb hd h5 (by omega) rfl kk
  · exact lv_astoreN hx hb hd h5 (by omega) rfl kk
  · exact lv_astore hx hb hd h5 (by omega) rfl kk
set_option maxRecDepth 100000 in
theorem xs_iinc {k0 : Nat} {n : Int} (X : xCx p R s m args meth c z D cy sa sv o cc ret ini nL C Sl) (hgo : ∀ pc ls st S, go pc ls st S = some rS → xGoT p l e R s m args below meth c Q al z D cy sa nL C Sl rS pc ls st S) (hd : decode cc pc = .ok (.iinc k0 n, 3)) (h : xstep al o ret ini go call (.iinc k0 n) 3 pc ls st S = some rS) : xGoT p l e R s m args below meth c Q al z D cy sa nL C Sl rS pc ls st S := by
  obtain ⟨hx, hb, hml, hown, hts, hG, hini, hRf, hRl, hCR, hSR, hrt, hlk⟩ := X
  intro H locs cells slots lsM h1 h2 h3 h4 h5 h6 h7
  simp only [xstep] at h
  have h0 := xld_some h; clear h; obtain ⟨v, hv, h⟩ := h0
  have h0 := xI1_some h; clear h; obtain ⟨x, r, hr, h⟩ := h0
  cases hr
  have h0 := xst1_some h; clear h; obtain ⟨h8, h9, h⟩ := h0
  obtain ⟨k, hk⟩ := List.getElem?_of_mem (xlp_mem (z := z) (sa := sa).mpr ⟨.int x, hv, (fun q => by cases q), rfl⟩ : (k0, Value.int x) ∈ xlp z sa ls)
  exact lv_iinc hx hb hd h5 hk rfl (by omega) rfl (fun ls' hl' => hgo _ _ _ _ h H locs cells slots ls' (by rw [List.length_set]; exact h1) h2 h3 h4 (xlp_set1 (v := .int (x + Int32.ofInt n)) h9 hl') h6 h7)
set_option maxRecDepth 100000 in
theorem xs_iadd  (X : xCx p R s m args meth c z D cy sa sv o cc ret ini nL C Sl) (hgo : ∀ pc ls st S, go pc ls st S = some rS → xGoT p l e R s m args below meth c Q al z D cy sa nL C Sl rS pc ls st S) (hd : decode cc pc = .ok (.iadd, 1)) (h : xstep al o ret ini go call (.iadd) 1 pc ls st S = some rS) : xGoT p l e R s m args below meth c Q al z D cy sa nL C Sl rS pc ls st S := by
  obtain ⟨hx, hb, hml, hown, hts, hG, hini, hRf, hRl, hCR, hSR, hrt, hlk⟩ := X
  intro H locs cells slots lsM h1 h2 h3 h4 h5 h6 h7
  simp only [xstep] at h
  have h0 := xI2_some h; clear h; obtain ⟨x, y, r, rfl, h⟩ := h0
  exact lv_iadd hx hb hd (hgo _ _ _ _ h H locs cells slots lsM h1 h2 h3 h4 h5 h6 h7)
set_option maxRecDepth 100000 in
theorem xs_isub  (X : xCx p R s m args meth c z D cy sa sv o cc ret ini nL C Sl) (hgo : ∀ pc ls st S, go pc ls st S = some rS → xGoT p l e R s m args below meth c Q al z D cy sa nL C Sl rS pc ls st S) (hd : decode cc pc = .ok (.isub, 1)) (h : xstep al o ret ini go call (.isub) 1 pc ls st S = some rS) : xGoT p l e R s m args below meth c Q al z D cy sa nL C Sl rS pc ls st S := by
  obtain ⟨hx, hb, hml, hown, hts, hG, hini, hRf, hRl, hCR, hSR, hrt, hlk⟩ := X
  intro H locs cells slots lsM h1 h2 h3 h4 h5 h6 h7
  simp only [xstep] at h
  have h0 := xI2_some h; clear h; obtain ⟨x, y, r, rfl, h⟩ := h0
  exact lv_isub hx hb hd (hgo _ _ _ _ h H locs cells slots lsM h1 h2 h3 h4 h5 h6 h7)
set_option maxRecDepth 100000 in
theorem xs_imul  (X : xCx p R s m args meth c z D cy sa sv o cc ret ini nL C Sl) (hgo : ∀ pc ls st S, go pc ls st S = some rS → xGoT p l e R s m args below meth c Q al z D cy sa nL C Sl rS pc ls st S) (hd : decode cc pc = .ok (.imul, 1)) (h : xstep al o ret ini go call (.imul) 1 pc ls st S = some rS) : xGoT p l e R s m args below meth c Q al z D cy sa nL C Sl rS pc ls st S := by
  obtain ⟨hx, hb, hml, hown, hts, hG, hini, hRf, hRl, hCR, hSR, hrt, hlk⟩ := X
  intro H locs cells slots lsM h1 h2 h3 h4 h5 h6 h7
  simp only [xstep] at h
  have h0 := xI2_some h; clear h; obtain ⟨x, y, r, rfl, h⟩ := h0
  exact lv_imul hx hb hd (hgo _ _ _ _ h H locs cells slots lsM h1 h2 h3 h4 h5 h6 h7)
set_option maxRecDepth 100000 in
theorem xs_iand  (X : xCx p R s m args meth c z D cy sa sv o cc ret ini nL C Sl) (hgo : ∀ pc ls st S, go pc ls st S = some rS → xGoT p l e R s m args below meth c Q al z D cy sa nL C Sl rS pc ls st S) (hd : decode cc pc = .ok (.iand, 1)) (h : xstep al o ret ini go call (.iand) 1 pc ls st S = some rS) : xGoT p l e R s m args below meth c Q al z D cy sa nL C Sl rS pc ls st S := by
  obtain ⟨hx, hb, hml, hown, hts, hG, hini, hRf, hRl, hCR, hSR, hrt, hlk⟩ := X
  intro H locs cells slots lsM h1 h2 h3 h4 h5 h6 h7
  simp only [xstep] at h
  have h0 := xI2_some h; clear h; obtain ⟨x, y, r, rfl, h⟩ := h0
  exact lv_iand hx hb hd (hgo _ _ _ _ h H locs cells slots lsM h1 h2 h3 h4 h5 h6 h7)
set_option maxRecDepth 100000 in
theorem xs_ior  (X : xCx p R s m args meth c z D cy sa sv o cc ret ini nL C Sl) (hgo : ∀ pc ls st S, go pc ls st S = some rS → xGoT p l e R s m args below meth c Q al z D cy sa nL C Sl rS pc ls st S) (hd : decode cc pc = .ok (.ior, 1)) (h : xstep al o ret ini go call (.ior) 1 pc ls st S = some rS) : xGoT p l e R s m args below meth c Q al z D cy sa nL C Sl rS pc ls st S := by
  obtain ⟨hx, hb, hml, hown, hts, hG, hini, hRf, hRl, hCR, hSR, hrt, hlk⟩ := X
  intro H locs cells slots lsM h1 h2 h3 h4 h5 h6 h7
  simp only [xstep] at h
  have h0 := xI2_some h; clear h; obtain ⟨x, y, r, rfl, h⟩ := h0
  exact lv_ior hx hb hd (hgo _ _ _ _ h H locs cells slots lsM h1 h2 h3 h4 h5 h6 h7)
set_option maxRecDepth 100000 in
theorem xs_ixor  (X : xCx p R s m args meth c z D cy sa sv o cc ret ini nL C Sl) (hgo : ∀ pc ls st S, go pc ls st S = some rS → xGoT p l e R s m args below meth c Q al z D cy sa nL C Sl rS pc ls st S) (hd : decode cc pc = .ok (.ixor, 1)) (h : xstep al o ret ini go call (.ixor) 1 pc ls st S = some rS) : xGoT p l e R s m args below meth c Q al z D cy sa nL C Sl rS pc ls st S := by
  obtain ⟨hx, hb, hml, hown, hts, hG, hini, hRf, hRl, hCR, hSR, hrt, hlk⟩ := X
  intro H locs cells slots lsM h1 h2 h3 h4 h5 h6 h7
  simp only [xstep] at h
  have h0 := xI2_some h; clear h; obtain ⟨x, y, r, rfl, h⟩ := h0
  exact lv_ixor hx hb hd (hgo _ _ _ _ h H locs cells slots lsM h1 h2 h3 h4 h5 h6 h7)
set_option maxRecDepth 100000 in
theorem xs_ishl  (X : xCx p R s m args meth c z D cy sa sv o cc ret ini nL C Sl) (hgo : ∀ pc ls st S, go pc ls st S = some rS → xGoT p l e R s m args below meth c Q al z D cy sa nL C Sl rS pc ls st S) (hd : decode cc pc = .ok (.ishl, 1)) (h : xstep al o ret ini go call (.ishl) 1 pc ls st S = some rS) : xGoT p l e R s m args below meth c Q al z D cy sa nL C Sl rS pc ls st S := by
  obtain ⟨hx, hb, hml, hown, hts, hG, hini, hRf, hRl, hCR, hSR, hrt, hlk⟩ := X
  intro H locs cells slots lsM h1 h2 h3 h4 h5 h6 h7
  simp only [xstep] at h
  have h0 := xI2_some h; clear h; obtain ⟨x, y, r, rfl, h⟩ := h0
  exact lv_ishl hx hb hd (hgo _ _ _ _ h H locs cells slots lsM h1 h2 h3 h4 h5 h6 h7)
set_option maxRecDepth 100000 in
theorem xs_ishr  (X : xCx p R s m args meth c z D cy sa sv o cc ret ini nL C Sl) (hgo : ∀ pc ls st S, go pc ls st S = some rS → xGoT p l e R s m args below meth c Q al z D cy sa nL C Sl rS pc ls st S) (hd : decode cc pc = .ok (.ishr, 1)) (h : xstep al o ret ini go call (.ishr) 1 pc ls st S = some rS) : xGoT p l e R s m args below meth c Q al z D cy sa nL C Sl rS pc ls st S := by
  obtain ⟨hx, hb, hml, hown, hts, hG, hini, hRf, hRl, hCR, hSR, hrt, hlk⟩ := X
  intro H locs cells slots lsM h1 h2 h3 h4 h5 h6 h7
  simp only [xstep] at h
  have h0 := xI2_some h; clear h; obtain ⟨x, y, r, rfl, h⟩ := h0
  exact lv_ishr hx hb hd (hgo _ _ _ _ h H locs cells slots lsM h1 h2 h3 h4 h5 h6 h7)
set_option maxRecDepth 100000 in
theorem xs_iushr  (X : xCx p R s m args meth c z D cy sa sv o cc ret ini nL C Sl) (hgo : ∀ pc ls st S, go pc ls st S = some rS → xGoT p l e R s m args below meth c Q al z D cy sa nL C Sl rS pc ls st S) (hd : decode cc pc = .ok (.iushr, 1)) (h : xstep al o ret ini go call (.iushr) 1 pc ls st S = some rS) : xGoT p l e R s m args below meth c Q al z D cy sa nL C Sl rS pc ls st S := by
  obtain ⟨hx, hb, hml, hown, hts, hG, hini, hRf, hRl, hCR, hSR, hrt, hlk⟩ := X
  intro H locs cells slots lsM h1 h2 h3 h4 h5 h6 h7
  simp only [xstep] at h
  have h0 := xI2_some h; clear h; obtain ⟨x, y, r, rfl, h⟩ := h0
  exact lv_iushr hx hb hd rfl (hgo _ _ _ _ h H locs cells slots lsM h1 h2 h3 h4 h5 h6 h7)
set_option maxRecDepth 100000 in
theorem xs_idiv  (X : xCx p R s m args meth c z D cy sa sv o cc ret ini nL C Sl) (hgo : ∀ pc ls st S, go pc ls st S = some rS → xGoT p l e R s m args below meth c Q al z D cy sa nL C Sl rS pc ls st S) (hd : decode cc pc = .ok (.idiv, 1)) (h : xstep al o ret ini go call (.idiv) 1 pc ls st S = some rS) : xGoT p l e R s m args below meth c Q al z D cy sa nL C Sl rS pc ls st S := by
  obtain ⟨hx, hb, hml, hown, hts, hG, hini, hRf, hRl, hCR, hSR, hrt, hlk⟩ := X
  intro H locs cells slots lsM h1 h2 h3 h4 h5 h6 h7
  simp only [xstep] at h
  have h0 := xI2_some h; clear h; obtain ⟨x, y, r, rfl, h⟩ := h0
  have h0 := xifn_some h; clear h; obtain ⟨hy, h⟩ := h0
  exact lv_idiv hx hb hd hy (hgo _ _ _ _ h H locs cells slots lsM h1 h2 h3 h4 h5 h6 h7)
set_option maxRecDepth 100000 in
theorem xs_irem  (X : xCx p R s m args meth c z D cy sa sv o cc ret ini nL C Sl) (hgo : ∀ pc ls st S, go pc ls st S = some rS → xGoT p l e R s m args below meth c Q al z D cy sa nL C Sl rS pc ls st S) (hd : decode cc pc = .ok (.irem, 1)) (h : xstep al o ret ini go call (.irem) 1 pc ls st S = some rS) : xGoT p l e R s m args below meth c Q al z D cy sa nL C Sl rS pc ls st S := by
  obtain ⟨hx, hb, hml, hown, hts, hG, hini, hRf, hRl, hCR, hSR, hrt, hlk⟩ := X
  intro H locs cells slots lsM h1 h2 h3 h4 h5 h6 h7
  simp only [xstep] at h
  have h0 := xI2_some h; clear h; obtain ⟨x, y, r, rfl, h⟩ := h0
  have h0 := xifn_some h; clear h; obtain ⟨hy, h⟩ := h0
  exact lv_irem hx hb hd hy (hgo _ _ _ _ h H locs cells slots lsM h1 h2 h3 h4 h5 h6 h7)
set_option maxRecDepth 100000 in
theorem xs_ladd  (X : xCx p R s m args meth c z D cy sa sv o cc ret ini nL C Sl) (hgo : ∀ pc ls st S, go pc ls st S = some rS → xGoT p l e R s m args below meth c Q al z D cy sa nL C Sl rS pc ls st S) (hd : decode cc pc = .ok (.ladd, 1)) (h : xstep al o ret ini go call (.ladd) 1 pc ls st S = some rS) : xGoT p l e R s m args below meth c Q al z D cy sa nL C Sl rS pc ls st S := by
  obtain ⟨hx, hb, hml, hown, hts, hG, hini, hRf, hRl, hCR, hSR, hrt, hlk⟩ := X
  intro H locs cells slots lsM h1 h2 h3 h4 h5 h6 h7
  simp only [xstep] at h
  have h0 := xL2_some h; clear h; obtain ⟨x, y, r, rfl, h⟩ := h0
  exact lv_ladd hx hb hd (hgo _ _ _ _ h H locs cells slots lsM h1 h2 h3 h4 h5 h6 h7)
set_option maxRecDepth 100000 in
theorem xs_lsub  (X : xCx p R s m args meth c z D cy sa sv o cc ret ini nL C Sl) (hgo : ∀ pc ls st S, go pc ls st S = some rS → xGoT p l e R s m args below meth c Q al z D cy sa nL C Sl rS pc ls st S) (hd : decode cc pc = .ok (.lsub, 1)) (h : xstep al o ret ini go call (.lsub) 1 pc ls st S = some rS) : xGoT p l e R s m args below meth c Q al z D cy sa nL C Sl rS pc ls st S := by
  obtain ⟨hx, hb, hml, hown, hts, hG, hini, hRf, hRl, hCR, hSR, hrt, hlk⟩ := X
  intro H locs cells slots lsM h1 h2 h3 h4 h5 h6 h7
  simp only [xstep] at h
  have h0 := xL2_some h; clear h; obtain ⟨x, y, r, rfl, h⟩ := h0
  exact lv_lsub hx hb hd (hgo _ _ _ _ h H locs cells slots lsM h1 h2 h3 h4 h5 h6 h7)
set_option maxRecDepth 100000 in
theorem xs_lmul  (X : xCx p R s m args meth c z D cy sa sv o cc ret ini nL C Sl) (hgo : ∀ pc ls st S, go pc ls st S = some rS → xGoT p l e R s m args below meth c Q al z D cy sa nL C Sl rS pc ls st S) (hd : decode cc pc = .ok (.lmul, 1)) (h : xstep al o ret ini go call (.lmul) 1 pc ls st S = some rS) : xGoT p l e R s m args below meth c Q al z D cy sa nL C Sl rS pc ls st S := by
  obtain ⟨hx, hb, hml, hown, hts, hG, hini, hRf, hRl, hCR, hSR, hrt, hlk⟩ := X
  intro H locs cells slots lsM h1 h2 h3 h4 h5 h6 h7
  simp only [xstep] at h
  have h0 := xL2_some h; clear h; obtain ⟨x, y, r, rfl, h⟩ := h0
  exact lv_lmul hx hb hd (hgo _ _ _ _ h H locs cells slots lsM h1 h2 h3 h4 h5 h6 h7)
set_option maxRecDepth 100000 in
theorem xs_lor  (X : xCx p R s m args meth c z D cy sa sv o cc ret ini nL C Sl) (hgo : ∀ pc ls st S, go pc ls st S = some rS → xGoT p l e R s m args below meth c Q al z D cy sa nL C Sl rS pc ls st S) (hd : decode cc pc = .ok (.lor, 1)) (h : xstep al o ret ini go call (.lor) 1 pc ls st S = some rS) : xGoT p l e R s m args below meth c Q al z D cy sa nL C Sl rS pc ls st S := by
  obtain ⟨hx, hb, hml, hown, hts, hG, hini, hRf, hRl, hCR, hSR, hrt, hlk⟩ := X
  intro H locs cells slots lsM h1 h2 h3 h4 h5 h6 h7
  simp only [xstep] at h
  have h0 := xL2_some h; clear h; obtain ⟨x, y, r, rfl, h⟩ := h0
  exact lv_lor hx hb hd (hgo _ _ _ _ h H locs cells slots lsM h1 h2 h3 h4 h5 h6 h7)
set_option maxRecDepth 100000 in
theorem xs_land  (X : xCx p R s m args meth c z D cy sa sv o cc ret ini nL C Sl) (hgo : ∀ pc ls st S, go pc ls st S = some rS → xGoT p l e R s m args below meth c Q al z D cy sa nL C Sl rS pc ls st S) (hd : decode cc pc = .ok (.land, 1)) (h : xstep al o ret ini go call (.land) 1 pc ls st S = some rS) : xGoT p l e R s m args below meth c Q al z D cy sa nL C Sl rS pc ls st S := by
  obtain ⟨hx, hb, hml, hown, hts, hG, hini, hRf, hRl, hCR, hSR, hrt, hlk⟩ := X
  intro H locs cells slots lsM h1 h2 h3 h4 h5 h6 h7
  simp only [xstep] at h
  have h0 := xL2_some h; clear h; obtain ⟨x, y, r, rfl, h⟩ := h0
  exact lv_land hx hb hd (hgo _ _ _ _ h H locs cells slots lsM h1 h2 h3 h4 h5 h6 h7)
set_option maxRecDepth 100000 in
theorem xs_ldiv  (X : xCx p R s m args meth c z D cy sa sv o cc ret ini nL C Sl) (hgo : ∀ pc ls st S, go pc ls st S = some rS → xGoT p l e R s m args below meth c Q al z D cy sa nL C Sl rS pc ls st S) (hd : decode cc pc = .ok (.ldiv, 1)) (h : xstep al o ret ini go call (.ldiv) 1 pc ls st S = some rS) : xGoT p l e R s m args below meth c Q al z D cy sa nL C Sl rS pc ls st S := by
  obtain ⟨hx, hb, hml, hown, hts, hG, hini, hRf, hRl, hCR, hSR, hrt, hlk⟩ := X
  intro H locs cells slots lsM h1 h2 h3 h4 h5 h6 h7
  simp only [xstep] at h
  have h0 := xL2_some h; clear h; obtain ⟨x, y, r, rfl, h⟩ := h0
  have h0 := xifn_some h; clear h; obtain ⟨hy, h⟩ := h0
  exact lv_ldiv hx hb hd hy (hgo _ _ _ _ h H locs cells slots lsM h1 h2 h3 h4 h5 h6 h7)
set_option maxRecDepth 100000 in
theorem xs_lrem  (X : xCx p R s m args meth c z D cy sa sv o cc ret ini nL C Sl) (hgo : ∀ pc ls st S, go pc ls st S = some rS → xGoT p l e R s m args below meth c Q al z D cy sa nL C Sl rS pc ls st S) (hd : decode cc pc = .ok (.lrem, 1)) (h : xstep al o ret ini go call (.lrem) 1 pc ls st S = some rS) : xGoT p l e R s m args below meth c Q al z D cy sa nL C Sl rS pc ls st S := by
  obtain ⟨hx, hb, hml, hown, hts, hG, hini, hRf, hRl, hCR, hSR, hrt, hlk⟩ := X
  intro H locs cells slots lsM h1 h2 h3 h4 h5 h6 h7
  simp only [xstep] at h
  have h0 := xL2_some h; clear h; obtain ⟨x, y, r, rfl, h⟩ := h0
  have h0 := xifn_some h; clear h; obtain ⟨hy, h⟩ := h0
  exact lv_lrem hx hb hd hy (hgo _ _ _ _ h H locs cells slots lsM h1 h2 h3 h4 h5 h6 h7)
set_option maxRecDepth 100000 in
theorem xs_ineg  (X : xCx p R s m args meth c z D cy sa sv o cc ret ini nL C Sl) (hgo : ∀ pc ls st S, go pc ls st S = some rS → xGoT p l e R s m args below meth c Q al z D cy sa nL C Sl rS pc ls st S) (hd : decode cc pc = .ok (.ineg, 1)) (h : xstep al o ret ini go call (.ineg) 1 pc ls st S = some rS) : xGoT p l e R s m args below meth c Q al z D cy sa nL C Sl rS pc ls st S := by
  obtain ⟨hx, hb, hml, hown, hts, hG, hini, hRf, hRl, hCR, hSR, hrt, hlk⟩ := X
  intro H locs cells slots lsM h1 h2 h3 h4 h5 h6 h7
  simp only [xstep] at h
  have h0 := xI1_some h; clear h; obtain ⟨x, r, rfl, h⟩ := h0
  exact lv_ineg hx hb hd (hgo _ _ _ _ h H locs cells slots lsM h1 h2 h3 h4 h5 h6 h7)
set_option maxRecDepth 100000 in
theorem xs_i2l  (X : xCx p R s m args meth c z D cy sa sv o cc ret ini nL C Sl) (hgo : ∀ pc ls st S, go pc ls st S = some rS → xGoT p l e R s m args below meth c Q al z D cy sa nL C Sl rS pc ls st S) (hd : decode cc pc = .ok (.i2l, 1)) (h : xstep al o ret ini go call (.i2l) 1 pc ls st S = some rS) : xGoT p l e R s m args below meth c Q al z D cy sa nL C Sl rS pc ls st S := by
  obtain ⟨hx, hb, hml, hown, hts, hG, hini, hRf, hRl, hCR, hSR, hrt, hlk⟩ := X
  intro H locs cells slots lsM h1 h2 h3 h4 h5 h6 h7
  simp only [xstep] at h
  have h0 := xI1_some h; clear h; obtain ⟨x, r, rfl, h⟩ := h0
  exact lv_i2l hx hb hd rfl (hgo _ _ _ _ h H locs cells slots lsM h1 h2 h3 h4 h5 h6 h7)
set_option maxRecDepth 100000 in
theorem xs_i2b  (X : xCx p R s m args meth c z D cy sa sv o cc ret ini nL C Sl) (hgo : ∀ pc ls st S, go pc ls st S = some rS → xGoT p l e R s m args below meth c Q al z D cy sa nL C Sl rS pc ls st S) (hd : decode cc pc = .ok (.i2b, 1)) (h : xstep al o ret ini go call (.i2b) 1 pc ls st S = some rS) : xGoT p l e R s m args below meth c Q al z D cy sa nL C Sl rS pc ls st S := by
  obtain ⟨hx, hb, hml, hown, hts, hG, hini, hRf, hRl, hCR, hSR, hrt, hlk⟩ := X
  intro H locs cells slots lsM h1 h2 h3 h4 h5 h6 h7
  simp only [xstep] at h
  have h0 := xI1_some h; clear h; obtain ⟨x, r, rfl, h⟩ := h0
  exact lv_i2b hx hb hd rfl (hgo _ _ _ _ h H locs cells slots lsM h1 h2 h3 h4 h5 h6 h7)
set_option maxRecDepth 100000 in
theorem xs_i2c  (X : xCx p R s m args meth c z D cy sa sv o cc ret ini nL C Sl) (hgo : ∀ pc ls st S, go pc ls st S = some rS → xGoT p l e R s m args below meth c Q al z D cy sa nL C Sl rS pc ls st S) (hd : decode cc pc = .ok (.i2c, 1)) (h : xstep al o ret ini go call (.i2c) 1 pc ls st S = some rS) : xGoT p l e R s m args below meth c Q al z D cy sa nL C Sl rS pc ls st S := by
  obtain ⟨hx, hb, hml, hown, hts, hG, hini, hRf, hRl, hCR, hSR, hrt, hlk⟩ := X
  intro H locs cells slots lsM h1 h2 h3 h4 h5 h6 h7
  simp only [xstep] at h
  have h0 := xI1_some h; clear h; obtain ⟨x, r, rfl, h⟩ := h0
  exact lv_i2c hx hb hd rfl (hgo _ _ _ _ h H locs cells slots lsM h1 h2 h3 h4 h5 h6 h7)
set_option maxRecDepth 100000 in
theorem xs_lshl  (X : xCx p R s m args meth c z D cy sa sv o cc ret ini nL C Sl) (hgo : ∀ pc ls st S, go pc ls st S = some rS → xGoT p l e R s m args below meth c Q al z D cy sa nL C Sl rS pc ls st S) (hd : decode cc pc = .ok (.lshl, 1)) (h : xstep al o ret ini go call (.lshl) 1 pc ls st S = some rS) : xGoT p l e R s m args below meth c Q al z D cy sa nL C Sl rS pc ls st S := by
  obtain ⟨hx, hb, hml, hown, hts, hG, hini, hRf, hRl, hCR, hSR, hrt, hlk⟩ := X
  intro H locs cells slots lsM h1 h2 h3 h4 h5 h6 h7
  simp only [xstep] at h
  have h0 := xI1_some h; clear h; obtain ⟨y, r, rfl, h⟩ := h0
  have h0 := xL1_some h; clear h; obtain ⟨x, r, rfl, h⟩ := h0
  exact lv_lshl hx hb hd rfl (hgo _ _ _ _ h H locs cells slots lsM h1 h2 h3 h4 h5 h6 h7)
set_option maxRecDepth 100000 in
theorem xs_lcmp  (X : xCx p R s m args meth c z D cy sa sv o cc ret ini nL C Sl) (hgo : ∀ pc ls st S, go pc ls st S = some rS → xGoT p l e R s m args below meth c Q al z D cy sa nL C Sl rS pc ls st S) (hd : decode cc pc = .ok (.lcmp, 1)) (h : xstep al o ret ini go call (.lcmp) 1 pc ls st S = some rS) : xGoT p l e R s m args below meth c Q al z D cy sa nL C Sl rS pc ls st S := by
  obtain ⟨hx, hb, hml, hown, hts, hG, hini, hRf, hRl, hCR, hSR, hrt, hlk⟩ := X
  intro H locs cells slots lsM h1 h2 h3 h4 h5 h6 h7
  simp only [xstep] at h
  have h0 := xL2_some h; clear h; obtain ⟨x, y, r, rfl, h⟩ := h0
  exact W.lcmp hx hb hd (hgo _ _ _ _ h H locs cells slots lsM h1 h2 h3 h4 h5 h6 h7)
set_option maxRecDepth 100000 in
theorem xs_dup  (X : xCx p R s m args meth c z D cy sa sv o cc ret ini nL C Sl) (hgo : ∀ pc ls st S, go pc ls st S = some rS → xGoT p l e R s m args below meth c Q al z D cy sa nL C Sl rS pc ls st S) (hd : decode cc pc = .ok (.dup, 1)) (h : xstep al o ret ini go call (.dup) 1 pc ls st S = some rS) : xGoT p l e R s m args below meth c Q al z D cy sa nL C Sl rS pc ls st S := by
  obtain ⟨hx, hb, hml, hown, hts, hG, hini, hRf, hRl, hCR, hSR, hrt, hlk⟩ := X
  intro H locs cells slots lsM h1 h2 h3 h4 h5 h6 h7
  simp only [xstep] at h
  have h0 := xV1_some h; clear h; obtain ⟨v, r, rfl, h⟩ := h0
  have h0 := xif_some h; clear h; obtain ⟨hv, h⟩ := h0
  exact lv_dup hx hb hd (by rw [xup_cat]; exact hv) (hgo _ _ _ _ h H locs cells slots lsM h1 h2 h3 h4 h5 h6 h7)
set_option maxRecDepth 100000 in
theorem xs_dup2  (X : xCx p R s m args meth c z D cy sa sv o cc ret ini nL C Sl) (hgo : ∀ pc ls st S, go pc ls st S = some rS → xGoT p l e R s m args below meth c Q al z D cy sa nL C Sl rS pc ls st S) (hd : decode cc pc = .ok (.dup2, 1)) (h : xstep al o ret ini go call (.dup2) 1 pc ls st S = some rS) : xGoT p l e R s m args below meth c Q al z D cy sa nL C Sl rS pc ls st S := by
  obtain ⟨hx, hb, hml, hown, hts, hG, hini, hRf, hRl, hCR, hSR, hrt, hlk⟩ := X
  intro H locs cells slots lsM h1 h2 h3 h4 h5 h6 h7
  simp only [xstep] at h
  have h0 := xV1_some h; clear h; obtain ⟨v, r, rfl, h⟩ := h0
  have h0 := xV1_some h; clear h; obtain ⟨w, r, rfl, h⟩ := h0
  have h0 := xif_some h; clear h; obtain ⟨hv, h⟩ := h0
  exact lv_dup2_11 hx hb hd (by rw [xup_cat]; exact hv.1) (by rw [xup_cat]; exact hv.2) (hgo _ _ _ _ h H locs cells slots lsM h1 h2 h3 h4 h5 h6 h7)
set_option maxRecDepth 100000 in
theorem xs_pop  (X : xCx p R s m args meth c z D cy sa sv o cc ret ini nL C Sl) (hgo : ∀ pc ls st S, go pc ls st S = some rS → xGoT p l e R s m args below meth c Q al z D cy sa nL C Sl rS pc ls st S) (hd : decode cc pc = .ok (.pop, 1)) (h : xstep al o ret ini go call (.pop) 1 pc ls st S = some rS) : xGoT p l e R s m args below meth c Q al z D cy sa nL C Sl rS pc ls st S := by
  obtain ⟨hx, hb, hml, hown, hts, hG, hini, hRf, hRl, hCR, hSR, hrt, hlk⟩ := X
  intro H locs cells slots lsM h1 h2 h3 h4 h5 h6 h7
  simp only [xstep] at h
  have h0 := xV1_some h; clear h; obtain ⟨v, r, rfl, h⟩ := h0
  have h0 := xif_some h; clear h; obtain ⟨hv, h⟩ := h0
  exact lv_pop hx hb hd (by rw [xup_cat]; exact hv) (hgo _ _ _ _ h H locs cells slots lsM h1 h2 h3 h4 h5 h6 h7)
set_option maxRecDepth 100000 in
theorem xs_goto {off : Int} (X : xCx p R s m args meth c z D cy sa sv o cc ret ini nL C Sl) (hgo : ∀ pc ls st S, go pc ls st S = some rS → xGoT p l e R s m args below meth c Q al z D cy sa nL C Sl rS pc ls st S) (hd : decode cc pc = .ok (.goto off, 3)) (h : xstep al o ret ini go call (.goto off) 3 pc ls st S = some rS) : xGoT p l e R s m args below meth c Q al z D cy sa nL C Sl rS pc ls st S := by
  obtain ⟨hx, hb, hml, hown, hts, hG, hini, hRf, hRl, hCR, hSR, hrt, hlk⟩ := X
  intro H locs cells slots lsM h1 h2 h3 h4 h5 h6 h7
  simp only [xstep] at h
  have h0 := xjmp_some h; clear h; obtain ⟨t, ht, h⟩ := h0
  exact lv_goto hx hb hd ht (hgo _ _ _ _ h H locs cells slots lsM h1 h2 h3 h4 h5 h6 h7)
set_option maxRecDepth 100000 in
theorem xs_icmp_eq {off : Int} (X : xCx p R s m args meth c z D cy sa sv o cc ret ini nL C Sl) (hgo : ∀ pc ls st S, go pc ls st S = some rS → xGoT p l e R s m args below meth c Q al z D cy sa nL C Sl rS pc ls st S) (hd : decode cc pc = .ok (.if_icmp .eq off, 3)) (h : xstep al o ret ini go call (.if_icmp .eq off) 3 pc ls st S = some rS) : xGoT p l e R s m args below meth c Q al z D cy sa nL C Sl rS pc ls st S := by
  obtain ⟨hx, hb, hml, hown, hts, hG, hini, hRf, hRl, hCR, hSR, hrt, hlk⟩ := X
  intro H locs cells slots lsM h1 h2 h3 h4 h5 h6 h7
  simp only [xstep] at h
  have h0 := xI2_some h; clear h; obtain ⟨x, y, r, rfl, h⟩ := h0
  have h0 := xjmp_some h; clear h; obtain ⟨t, ht, h⟩ := h0
  simp only [xcmp, decide_eq_true_eq] at h
  exact lv_icmp_eq hx hb hd ht (fun hc => by rw [if_pos hc] at h; exact (hgo _ _ _ _ h H locs cells slots lsM h1 h2 h3 h4 h5 h6 h7)) (fun hc => by rw [if_neg hc] at h; exact (hgo _ _ _ _ h H locs cells slots lsM h1 h2 h3 h4 h5 h6 h7))
set_option maxRecDepth 100000 in
theorem xs_if_eq {off : Int} (X : xCx p R s m args meth c z D cy sa sv o cc ret ini nL C Sl) (hgo : ∀ pc ls st S, go pc ls st S = some rS → xGoT p l e R s m args below meth c Q al z D cy sa nL C Sl rS pc ls st S) (hd : decode cc pc = .ok (.ifCond .eq off, 3)) (h : xstep al o ret ini go call (.ifCond .eq off) 3 pc ls st S = some rS) : xGoT p l e R s m args below meth c Q al z D cy sa nL C Sl rS pc ls st S := by
  obtain ⟨hx, hb, hml, hown, hts, hG, hini, hRf, hRl, hCR, hSR, hrt, hlk⟩ := X
  intro H locs cells slots lsM h1 h2 h3 h4 h5 h6 h7
  simp only [xstep] at h
  have h0 := xI1_some h; clear h; obtain ⟨x, r, rfl, h⟩ := h0
  have h0 := xjmp_some h; clear h; obtain ⟨t, ht, h⟩ := h0
  simp only [xcmp, decide_eq_true_eq] at h
  exact lv_if_eq hx hb hd ht (fun hc => by rw [if_pos hc] at h; exact (hgo _ _ _ _ h H locs cells slots lsM h1 h2 h3 h4 h5 h6 h7)) (fun hc => by rw [if_neg hc] at h; exact (hgo _ _ _ _ h H locs cells slots lsM h1 h2 h3 h4 h5 h6 h7))
set_option maxRecDepth 100000 in
theorem xs_icmp_ne {off : Int} (X : xCx p R s m args meth c z D cy sa sv o cc ret ini nL C Sl) (hgo : ∀ pc ls st S, go pc ls st S = some rS → xGoT p l e R s m args below meth c Q al z D cy sa nL C Sl rS pc ls st S) (hd : decode cc pc = .ok (.if_icmp .ne off, 3)) (h : xstep al o ret ini go call (.if_icmp .ne off) 3 pc ls st S = some rS) : xGoT p l e R s m args below meth c Q al z D cy sa nL C Sl rS pc ls st S := by
  obtain ⟨hx, hb, hml, hown, hts, hG, hini, hRf, hRl, hCR, hSR, hrt, hlk⟩ := X
  intro H locs cells slots lsM h1 h2 h3 h4 h5 h6 h7
  simp only [xstep] at h
  have h0 := xI2_some h; clear h; obtain ⟨x, y, r, rfl, h⟩ := h0
  have h0 := xjmp_some h; clear h; obtain ⟨t, ht, h⟩ := h0
  simp only [xcmp, decide_eq_true_eq] at h
  exact lv_icmp_ne hx hb hd ht (fun hc => by rw [if_pos hc] at h; exact (hgo _ _ _ _ h H locs cells slots lsM h1 h2 h3 h4 h5 h6 h7)) (fun hc => by rw [if_neg (fun q => q hc)] at h; exact (hgo _ _ _ _ h H locs cells slots lsM h1 h2 h3 h4 h5 h6 h7))
set_option maxRecDepth 100000 in
theorem xs_if_ne {off : Int} (X : xCx p R s m args meth c z D cy sa sv o cc ret ini nL C Sl) (hgo : ∀ pc ls st S, go pc ls st S = some rS → xGoT p l e R s m args below meth c Q al z D cy sa nL C Sl rS pc ls st S) (hd : decode cc pc = .ok (.ifCond .ne off, 3)) (h : xstep al o ret ini go call (.ifCond .ne off) 3 pc ls st S = some rS) : xGoT p l e R s m args below meth c Q al z D cy sa nL C Sl rS pc ls st S := by
  obtain ⟨hx, hb, hml, hown, hts, hG, hini, hRf, hRl, hCR, hSR, hrt, hlk⟩ := X
  intro H locs cells slots lsM h1 h2 h3 h4 h5 h6 h7
  simp only [xstep] at h
  have h0 := xI1_some h; clear h; obtain ⟨x, r, rfl, h⟩ := h0
  have h0 := xjmp_some h; clear h; obtain ⟨t, ht, h⟩ := h0
  simp only [xcmp, decide_eq_true_eq] at h
  exact lv_if_ne hx hb hd ht (fun hc => by rw [if_pos hc] at h; exact (hgo _ _ _ _ h H locs cells slots lsM h1 h2 h3 h4 h5 h6 h7)) (fun hc => by rw [if_neg (fun q => q hc)] at h; exact (hgo _ _ _ _ h H locs cells slots lsM h1 h2 h3 h4 h5 h6 h7))
set_option maxRecDepth 100000 in
theorem xs_icmp_lt {off : Int} (X : xCx p R s m args meth c z D cy sa sv o cc ret ini nL C Sl) (hgo : ∀ pc ls st S, go pc ls st S = some rS → xGoT p l e R s m args below meth c Q al z D cy sa nL C Sl rS pc ls st S) (hd : decode cc pc = .ok (.if_icmp .lt off, 3)) (h : xstep al o ret ini go call (.if_icmp .lt off) 3 pc ls st S = some rS) : xGoT p l e R s m args below meth c Q al z D cy sa nL C Sl rS pc ls st S := by
  obtain ⟨hx, hb, hml, hown, hts, hG, hini, hRf, hRl, hCR, hSR, hrt, hlk⟩ := X
  intro H locs cells slots lsM h1 h2 h3 h4 h5 h6 h7
  simp only [xstep] at h
  have h0 := xI2_some h; clear h; obtain ⟨x, y, r, rfl, h⟩ := h0
  have h0 := xjmp_some h; clear h; obtain ⟨t, ht, h⟩ := h0
  simp only [xcmp, decide_eq_true_eq] at h
  exact lv_icmp_lt hx hb hd ht (fun hc => by rw [if_pos hc] at h; exact (hgo _ _ _ _ h H locs cells slots lsM h1 h2 h3 h4 h5 h6 h7)) (fun hc => by rw [if_neg hc] at h; exact (hgo _ _ _ _ h H locs cells slots lsM h1 h2 h3 h4 h5 h6 h7))
set_option maxRecDepth 100000 in
theorem xs_if_lt {off : Int} (X : xCx p R s m args meth c z D cy sa sv o cc ret ini nL C Sl) (hgo : ∀ pc ls st S, go pc ls st S = some rS → xGoT p l e R s m args below meth c Q al z D cy sa nL C Sl rS pc ls st S) (hd : decode cc pc = .ok (.ifCond .lt off, 3)) (h : xstep al o ret ini go call (.ifCond .lt off) 3 pc ls st S = some rS) : xGoT p l e R s m args below meth c Q al z D cy sa nL C Sl rS pc ls st S := by
  obtain ⟨hx, hb, hml, hown, hts, hG, hini, hRf, hRl, hCR, hSR, hrt, hlk⟩ := X
  intro H locs cells slots lsM h1 h2 h3 h4 h5 h6 h7
  simp only [xstep] at h
  have h0 := xI1_some h; clear h; obtain ⟨x, r, rfl, h⟩ := h0
  have h0 := xjmp_some h; clear h; obtain ⟨t, ht, h⟩ := h0
  simp only [xcmp, decide_eq_true_eq] at h
  exact lv_if_lt hx hb hd ht (fun hc => by rw [if_pos hc] at h; exact (hgo _ _ _ _ h H locs cells slots lsM h1 h2 h3 h4 h5 h6 h7)) (fun hc => by rw [if_neg hc] at h; exact (hgo _ _ _ _ h H locs cells slots lsM h1 h2 h3 h4 h5 h6 h7))
set_option maxRecDepth 100000 in
theorem xs_icmp_ge {off : Int} (X : xCx p R s m args meth c z D cy sa sv o cc ret ini nL C Sl) (hgo : ∀ pc ls st S, go pc ls st S = some rS → xGoT p l e R s m args below meth c Q al z D cy sa nL C Sl rS pc ls st S) (hd : decode cc pc = .ok (.if_icmp .ge off, 3)) (h : xstep al o ret ini go call (.if_icmp .ge off) 3 pc ls st S = some rS) : xGoT p l e R s m args below meth c Q al z D cy sa nL C Sl rS pc ls st S := by
  obtain ⟨hx, hb, hml, hown, hts, hG, hini, hRf, hRl, hCR, hSR, hrt, hlk⟩ := X
  intro H locs cells slots lsM h1 h2 h3 h4 h5 h6 h7
  simp only [xstep] at h
  have h0 := xI2_some h; clear h; obtain ⟨x, y, r, rfl, h⟩ := h0
  have h0 := xjmp_some h; clear h; obtain ⟨t, ht, h⟩ := h0
  simp only [xcmp, decide_eq_true_eq] at h
  exact lv_icmp_ge hx hb hd ht (fun hc => by rw [if_pos hc] at h; exact (hgo _ _ _ _ h H locs cells slots lsM h1 h2 h3 h4 h5 h6 h7)) (fun hc => by rw [if_neg hc] at h; exact (hgo _ _ _ _ h H locs cells slots lsM h1 h2 h3 h4 h5 h6 h7))
set_option maxRecDepth 100000 in
theorem xs_if_ge {off : Int} (X : xCx p R s m args meth c z D cy sa sv o cc ret ini nL C Sl) (hgo : ∀ pc ls st S, go pc ls st S = some rS → xGoT p l e R s m args below meth c Q al z D cy sa nL C Sl rS pc ls st S) (hd : decode cc pc = .ok (.ifCond .ge off, 3)) (h : xstep al o ret ini go call (.ifCond .ge off) 3 pc ls st S = some rS) : xGoT p l e R s m args below meth c Q al z D cy sa nL C Sl rS pc ls st S := by
  obtain ⟨hx, hb, hml, hown, hts, hG, hini, hRf, hRl, hCR, hSR, hrt, hlk⟩ := X
  intro H locs cells slots lsM h1 h2 h3 h4 h5 h6 h7
  simp only [xstep] at h
  have h0 := xI1_some h; clear h; obtain ⟨x, r, rfl, h⟩ := h0
  have h0 := xjmp_some h; clear h; obtain ⟨t, ht, h⟩ := h0
  simp only [xcmp, decide_eq_true_eq] at h
  exact lv_if_ge hx hb hd ht (fun hc => by rw [if_pos hc] at h; exact (hgo _ _ _ _ h H locs cells slots lsM h1 h2 h3 h4 h5 h6 h7)) (fun hc => by rw [if_neg hc] at h; exact (hgo _ _ _ _ h H locs cells slots lsM h1 h2 h3 h4 h5 h6 h7))
set_option maxRecDepth 100000 in
theorem xs_icmp_gt {off : Int} (X : xCx p R s m args meth c z D cy sa sv o cc ret ini nL C Sl) (hgo : ∀ pc ls st S, go pc ls st S = some rS → xGoT p l e R s m args below meth c Q al z D cy sa nL C Sl rS pc ls st S) (hd : decode cc pc = .ok (.if_icmp .gt off, 3)) (h : xstep al o ret ini go call (.if_icmp .gt off) 3 pc ls st S = some rS) : xGoT p l e R s m args below meth c Q al z D cy sa nL C Sl rS pc ls st S := by
  obtain ⟨hx, hb, hml, hown, hts, hG, hini, hRf, hRl, hCR, hSR, hrt, hlk⟩ := X
  intro H locs cells slots lsM h1 h2 h3 h4 h5 h6 h7
  simp only [xstep] at h
  have h0 := xI2_some h; clear h; obtain ⟨x, y, r, rfl, h⟩ := h0
  have h0 := xjmp_some h; clear h; obtain ⟨t, ht, h⟩ := h0
  simp only [xcmp, decide_eq_true_eq] at h
  exact lv_icmp_gt hx hb hd ht (fun hc => by rw [if_pos hc] at h; exact (hgo _ _ _ _ h H locs cells slots lsM h1 h2 h3 h4 h5 h6 h7)) (fun hc => by rw [if_neg hc] at h; exact (hgo _ _ _ _ h H locs cells slots lsM h1 h2 h3 h4 h5 h6 h7))
set_option maxRecDepth 100000 in
theorem xs_if_gt {off : Int} (X : xCx p R s m args meth c z D cy sa sv o cc ret ini nL C Sl) (hgo : ∀ pc ls st S, go pc ls st S = some rS → xGoT p l e R s m args below meth c Q al z D cy sa nL C Sl rS pc ls st S) (hd : decode cc pc = .ok (.ifCond .gt off, 3)) (h : xstep al o ret ini go call (.ifCond .gt off) 3 pc ls st S = some rS) : xGoT p l e R s m args below meth c Q al z D cy sa nL C Sl rS pc ls st S := by
  obtain ⟨hx, hb, hml, hown, hts, hG, hini, hRf, hRl, hCR, hSR, hrt, hlk⟩ := X
  intro H locs cells slots lsM h1 h2 h3 h4 h5 h6 h7
  simp only [xstep] at h
  have h0 := xI1_some h; clear h; obtain ⟨x, r, rfl, h⟩ := h0
  have h0 := xjmp_some h; clear h; obtain ⟨t, ht, h⟩ := h0
  simp only [xcmp, decide_eq_true_eq] at h
  exact lv_if_gt hx hb hd ht (fun hc => by rw [if_pos hc] at h; exact (hgo _ _ _ _ h H locs cells slots lsM h1 h2 h3 h4 h5 h6 h7)) (fun hc => by rw [if_neg hc] at h; exact (hgo _ _ _ _ h H locs cells slots lsM h1 h2 h3 h4 h5 h6 h7))
set_option maxRecDepth 100000 in
theorem xs_icmp_le {off : Int} (X : xCx p R s m args meth c z D cy sa sv o cc ret ini nL C Sl) (hgo : ∀ pc ls st S, go pc ls st S = some rS → xGoT p l e R s m args below meth c Q al z D cy sa nL C Sl rS pc ls st S) (hd : decode cc pc = .ok (.if_icmp .le off, 3)) (h : xstep al o ret ini go call (.if_icmp .le off) 3 pc ls st S = some rS) : xGoT p l e R s m args below meth c Q al z D cy sa nL C Sl rS pc ls st S := by
  obtain ⟨hx, hb, hml, hown, hts, hG, hini, hRf, hRl, hCR, hSR, hrt, hlk⟩ := X
  intro H locs cells slots lsM h1 h2 h3 h4 h5 h6 h7
  simp only [xstep] at h
  have h0 := xI2_some h; clear h; obtain ⟨x, y, r, rfl, h⟩ := h0
  have h0 := xjmp_some h; clear h; obtain ⟨t, ht, h⟩ := h0
  simp only [xcmp, decide_eq_true_eq] at h
  exact lv_icmp_le hx hb hd ht (fun hc => by rw [if_pos hc] at h; exact (hgo _ _ _ _ h H locs cells slots lsM h1 h2 h3 h4 h5 h6 h7)) (fun hc => by rw [if_neg hc] at h; exact (hgo _ _ _ _ h H locs cells slots lsM h1 h2 h3 h4 h5 h6 h7))
set_option maxRecDepth 100000 in
theorem xs_if_le {off : Int} (X : xCx p R s m args meth c z D cy sa sv o cc ret ini nL C Sl) (hgo : ∀ pc ls st S, go pc ls st S = some rS → xGoT p l e R s m args below meth c Q al z D cy sa nL C Sl rS pc ls st S) (hd : decode cc pc = .ok (.ifCond .le off, 3)) (h : xstep al o ret ini go call (.ifCond .le off) 3 pc ls st S = some rS) : xGoT p l e R s m args below meth c Q al z D cy sa nL C Sl rS pc ls st S := by
  obtain ⟨hx, hb, hml, hown, hts, hG, hini, hRf, hRl, hCR, hSR, hrt, hlk⟩ := X
  intro H locs cells slots lsM h1 h2 h3 h4 h5 h6 h7
  simp only [xstep] at h
  have h0 := xI1_some h; clear h; obtain ⟨x, r, rfl, h⟩ := h0
  have h0 := xjmp_some h; clear h; obtain ⟨t, ht, h⟩ := h0
  simp only [xcmp, decide_eq_true_eq] at h
  exact lv_if_le hx hb hd ht (fun hc => by rw [if_pos hc] at h; exact (hgo _ _ _ _ h H locs cells slots lsM h1 h2 h3 h4 h5 h6 h7)) (fun hc => by rw [if_neg hc] at h; exact (hgo _ _ _ _ h H locs cells slots lsM h1 h2 h3 h4 h5 h6 h7))
set_option maxRecDepth 100000 in
theorem xs_ifnull {off : Int} (X : xCx p R s m args meth c z D cy sa sv o cc ret ini nL C Sl) (hgo : ∀ pc ls st S, go pc ls st S = some rS → xGoT p l e R s m args below meth c Q al z D cy sa nL C Sl rS pc ls st S) (hd : decode cc pc = .ok (.ifnull off, 3)) (h : xstep al o ret ini go call (.ifnull off) 3 pc ls st S = some rS) : xGoT p l e R s m args below meth c Q al z D cy sa nL C Sl rS pc ls st S := by
  obtain ⟨hx, hb, hml, hown, hts, hG, hini, hRf, hRl, hCR, hSR, hrt, hlk⟩ := X
  intro H locs cells slots lsM h1 h2 h3 h4 h5 h6 h7
  simp only [xstep] at h
  have h0 := xV1_some h; clear h; obtain ⟨v, r, rfl, h⟩ := h0
  have h0 := xjmp_some h; clear h; obtain ⟨t, ht, h⟩ := h0
  cases v <;> first | (cases h; done) | exact lv_ifnullN hx hb hd ht (hgo _ _ _ _ h H locs cells slots lsM h1 h2 h3 h4 h5 h6 h7) | exact lv_ifnull hx hb hd (hgo _ _ _ _ h H locs cells slots lsM h1 h2 h3 h4 h5 h6 h7)
set_option maxRecDepth 100000 in
theorem xs_ifnonnull {off : Int} (X : xCx p R s m args meth c z D cy sa sv o cc ret ini nL C Sl) (hgo : ∀ pc ls st S, go pc ls st S = some rS → xGoT p l e R s m args below meth c Q al z D cy sa nL C Sl rS pc ls st S) (hd : decode cc pc = .ok (.ifnonnull off, 3)) (h : xstep al o ret ini go call (.ifnonnull off) 3 pc ls st S = some rS) : xGoT p l e R s m args below meth c Q al z D cy sa nL C Sl rS pc ls st S := by
  obtain ⟨hx, hb, hml, hown, hts, hG, hini, hRf, hRl, hCR, hSR, hrt, hlk⟩ := X
  intro H locs cells slots lsM h1 h2 h3 h4 h5 h6 h7
  simp only [xstep] at h
  have h0 := xV1_some h; clear h; obtain ⟨v, r, rfl, h⟩ := h0
  have h0 := xjmp_some h; clear h; obtain ⟨t, ht, h⟩ := h0
  cases v <;> first | (cases h; done) | exact lv_ifnonnullN hx hb hd (hgo _ _ _ _ h H locs cells slots lsM h1 h2 h3 h4 h5 h6 h7) | exact lv_ifnonnull hx hb hd ht (hgo _ _ _ _ h H locs cells slots lsM h1 h2 h3 h4 h5 h6 h7)
set_option maxRecDepth 100000 in
theorem xs_tableswitch {df lo hi : Int} {offs : Array Int} {len : Nat} (X : xCx p R s m args meth c z D cy sa sv o cc ret ini nL C Sl) (hgo : ∀ pc ls st S, go pc ls st S = some rS → xGoT p l e R s m args below meth c Q al z D cy sa nL C Sl rS pc ls st S) (hd : decode cc pc = .ok (.tableswitch df lo hi offs, len)) (h : xstep al o ret ini go call (.tableswitch df lo hi offs) len pc ls st S = some rS) : xGoT p l e R s m args below meth c Q al z D cy sa nL C Sl rS pc ls st S := by
  obtain ⟨hx, hb, hml, hown, hts, hG, hini, hRf, hRl, hCR, hSR, hrt, hlk⟩ := X
  intro H locs cells slots lsM h1 h2 h3 h4 h5 h6 h7
  simp only [xstep] at h
  have h0 := xI1_some h; clear h; obtain ⟨x, r, rfl, h⟩ := h0
  by_cases hc : x.toInt < lo ∨ hi < x.toInt
  · rw [if_pos hc] at h
    have h0 := xjmp_some h; clear h; obtain ⟨t, ht, h⟩ := h0
    exact lv_tableOut hx hb hd hc ht (hgo _ _ _ _ h H locs cells slots lsM h1 h2 h3 h4 h5 h6 h7)
  · rw [if_neg hc] at h
    split at h
    · rename_i off ho
      have h0 := xjmp_some h; clear h; obtain ⟨t, ht, h⟩ := h0
      exact lv_tableIn hx hb hd (fun q => hc (Or.inl q)) (fun q => hc (Or.inr q)) ho ht (hgo _ _ _ _ h H locs cells slots lsM h1 h2 h3 h4 h5 h6 h7)
    · cases h
set_option maxRecDepth 100000 in
theorem xs_lookupswitch {df : Int} {ps : Array (Int × Int)} {len : Nat} (X : xCx p R s m args meth c z D cy sa sv o cc ret ini nL C Sl) (hgo : ∀ pc ls st S, go pc ls st S = some rS → xGoT p l e R s m args below meth c Q al z D cy sa nL C Sl rS pc ls st S) (hd : decode cc pc = .ok (.lookupswitch df ps, len)) (h : xstep al o ret ini go call (.lookupswitch df ps) len pc ls st S = some rS) : xGoT p l e R s m args below meth c Q al z D cy sa nL C Sl rS pc ls st S := by
  obtain ⟨hx, hb, hml, hown, hts, hG, hini, hRf, hRl, hCR, hSR, hrt, hlk⟩ := X
  intro H locs cells slots lsM h1 h2 h3 h4 h5 h6 h7
  simp only [xstep] at h
  have h0 := xI1_some h; clear h; obtain ⟨x, r, rfl, h⟩ := h0
  have h0 := xif_some h; clear h; obtain ⟨hp, h⟩ := h0
  have h0 := xjmp_some h; clear h; obtain ⟨t, ht, h⟩ := h0
  exact lv_lookup hx hb hd hp rfl ht (hgo _ _ _ _ h H locs cells slots lsM h1 h2 h3 h4 h5 h6 h7)
set_option maxRecDepth 100000 in
theorem xs_ldc {k0 : Nat} (X : xCx p R s m args meth c z D cy sa sv o cc ret ini nL C Sl) (hgo : ∀ pc ls st S, go pc ls st S = some rS → xGoT p l e R s m args below meth c Q al z D cy sa nL C Sl rS pc ls st S) (hd : decode cc pc = .ok (.ldc k0, 2)) (h : xstep al o ret ini go call (.ldc k0) 2 pc ls st S = some rS) : xGoT p l e R s m args below meth c Q al z D cy sa nL C Sl rS pc ls st S := by
  obtain ⟨hx, hb, hml, hown, hts, hG, hini, hRf, hRl, hCR, hSR, hrt, hlk⟩ := X
  intro H locs cells slots lsM h1 h2 h3 h4 h5 h6 h7
  simp only [xstep] at h
  split at h
  · rename_i hk
    exact lv_ldc hx hb hown (hts _ (xKI_ok hk)) hd (hgo _ _ _ _ h H locs cells slots lsM h1 h2 h3 h4 h5 h6 h7)
  · rename_i s0 hk
    obtain ⟨tx, ht⟩ := hG.2.2.1 _ _ _ hk
    exact va_ldcS hx hb hown ht hd (hgo _ _ _ _ h H locs cells slots lsM h1 h2 h3 h4 h5 h6 h7)
  · cases h
set_option maxRecDepth 100000 in
theorem xs_ldc_w {k0 : Nat} (X : xCx p R s m args meth c z D cy sa sv o cc ret ini nL C Sl) (hgo : ∀ pc ls st S, go pc ls st S = some rS → xGoT p l e R s m args below meth c Q al z D cy sa nL C Sl rS pc ls st S) (hd : decode cc pc = .ok (.ldc_w k0, 3)) (h : xstep al o ret ini go call (.ldc_w k0) 3 pc ls st S = some rS) : xGoT p l e R s m args below meth c Q al z D cy sa nL C Sl rS pc ls st S := by
  obtain ⟨hx, hb, hml, hown, hts, hG, hini, hRf, hRl, hCR, hSR, hrt, hlk⟩ := X
  intro H locs cells slots lsM h1 h2 h3 h4 h5 h6 h7
  simp only [xstep] at h
  split at h
  · rename_i hk
    exact lv_ldcw hx hb hown (hts _ (xKI_ok hk)) hd (hgo _ _ _ _ h H locs cells slots lsM h1 h2 h3 h4 h5 h6 h7)
  · cases h
set_option maxRecDepth 100000 in
theorem xs_ldc2_w {k0 : Nat} (X : xCx p R s m args meth c z D cy sa sv o cc ret ini nL C Sl) (hgo : ∀ pc ls st S, go pc ls st S = some rS → xGoT p l e R s m args below meth c Q al z D cy sa nL C Sl rS pc ls st S) (hd : decode cc pc = .ok (.ldc2_w k0, 3)) (h : xstep al o ret ini go call (.ldc2_w k0) 3 pc ls st S = some rS) : xGoT p l e R s m args below meth c Q al z D cy sa nL C Sl rS pc ls st S := by
  obtain ⟨hx, hb, hml, hown, hts, hG, hini, hRf, hRl, hCR, hSR, hrt, hlk⟩ := X
  intro H locs cells slots lsM h1 h2 h3 h4 h5 h6 h7
  simp only [xstep] at h
  split at h
  · rename_i hk
    exact lv_ldc2 hx hb hown (hts _ (xKL_ok hk)) hd (hgo _ _ _ _ h H locs cells slots lsM h1 h2 h3 h4 h5 h6 h7)
  · cases h
theorem xfv_up {S : xS} {ci a f : Nat} : xfv z S ci a f = xup z sa (if xtg ci f = 1 then .long (S.2.2.2 a f) else if xtg ci f = 2 then xrf (S.2.2.1 a f) else .int (S.2.1 a f)) := by
  unfold xfv
  split
  · rfl
  · split
    · rw [xup_rf]
    · rfl
theorem xtys_at {t : Nat} (h1 : 20 ≤ t) (h2 : t < 28) : ∃ ty, (xtys cy)[t - 20]? = some (cy t, ty) := by
  rcases (show t = 20 ∨ t = 21 ∨ t = 22 ∨ t = 23 ∨ t = 24 ∨ t = 25 ∨ t = 26 ∨ t = 27 by omega) with rfl | rfl | rfl | rfl | rfl | rfl | rfl | rfl <;> exact ⟨_, rfl⟩
set_option maxRecDepth 100000 in
theorem xs_getfield {k0 : Nat} (X : xCx p R s m args meth c z D cy sa sv o cc ret ini nL C Sl) (hgo : ∀ pc ls st S, go pc ls st S = some rS → xGoT p l e R s m args below meth c Q al z D cy sa nL C Sl rS pc ls st S) (hd : decode cc pc = .ok (.getfield k0, 3)) (h : xstep al o ret ini go call (.getfield k0) 3 pc ls st S = some rS) : xGoT p l e R s m args below meth c Q al z D cy sa nL C Sl rS pc ls st S := by
  obtain ⟨hx, hb, hml, hown, hts, hG, hini, hRf, hRl, hCR, hSR, hrt, hlk⟩ := X
  intro H locs cells slots lsM h1 h2 h3 h4 h5 h6 h7
  simp only [xstep] at h
  have h0 := xR1_some h; clear h; obtain ⟨a, r, rfl, h⟩ := h0
  split at h
  · rename_i ci f z0 hk
    have h0 := xif_some h; clear h; obtain ⟨⟨ha, hf⟩, h⟩ := h0
    obtain ⟨hci, hw⟩ := xF_ok hk
    obtain ⟨c1, -, -, -, -⟩ := xC_ok hci
    have he := xW_get (z := z) (cy := cy) ha
    rw [xce_obj (by omega)] at he
    have hv : ((List.range (xnf ci)).map (xfv z S ci a))[f]? = some (xup z sa (if xtg ci f = 1 then .long (S.2.2.2 a f) else if xtg ci f = 2 then xrf (S.2.2.1 a f) else .int (S.2.1 a f))) := by
      rw [List.getElem?_map, List.getElem?_range hf, ← xfv_up]; rfl
    rcases hw with ⟨-, hw⟩ | ⟨-, hw⟩
    · exact va_get (C := (xcl ci).1) (T := (xcl ci).2.1) (N := (xcl ci).2.2) hx hb hts (xin_all hci) hown hG.1 h2 a he (xcl_at hci) f (by rw [c1]; exact hf) (hts _ hw) (fun _ q => q) hv hd (hgo _ _ _ _ h H locs cells slots lsM h1 h2 h3 h4 h5 h6 h7)
    · exact va_getN (C := (xcl ci).1) (T := (xcl ci).2.1) (N := (xcl ci).2.2) hx hb hts (xin_all hci) hown hG.1 h2 a he (xcl_at hci) f (by rw [c1]; exact hf) (va_Nw.use rfl (hG.2.1 _ hw)) (fun _ q => q) hv hd (hgo _ _ _ _ h H locs cells slots lsM h1 h2 h3 h4 h5 h6 h7)
  · cases h
theorem xS_self {A : Nat → Prop} {H0 H : Heap} {locs : List Loc} (h : va_S A H0 H locs) : va_S A H H locs := ⟨Nat.le_refl _, fun _ _ _ => rfl, h.2.2⟩
theorem xS_comp {A : Nat → Prop} {H0 H H1 : Heap} {locs locs1 : List Loc} (h : va_S A H0 H locs) (h1 : va_S A H H1 locs1) : va_S A H0 H1 locs1 :=
  ⟨Nat.le_trans h.1 h1.1, fun q hq ha => (h1.2.1 q (Nat.lt_of_lt_of_le hq h.1) ha).trans (h.2.1 q hq ha), h1.2.2⟩
theorem xW_size {H : Heap} {locs : List Loc} {cells slots : Nat} {g : JFrame} (k : H.size ≤ s.heap.size + cells → W p l e R s m args below meth c H locs cells slots Q g) : W p l e R s m args below meth c H locs cells slots Q g := fun T hT X => k (by have h := X.same.2.2.1; rw [← hT]; exact h) T hT X
theorem xkeep {S1 : xS} {H H1 : Heap} {locs locs1 : List Loc} {cells slots : Nat} {lsM : Array Slot} {pc : Nat} {ls st : List Value} {S : xS} (hg : xGoT p l e R s m args below meth c Q al z D cy sa nL C Sl rS pc ls st S1) (hsh : S1.1 = S.1) (h1 : ls.length = nL) (h3 : al = true → H.size = z + S.1.length ∧ H.size = s.heap.size + cells) (h4 : va_S (fun q => z ≤ q) s.heap H locs) (h5 : lv_has lsM nL (xlp z sa ls)) (h6 : C + S.1.length = cells + rS.2.1.length) (h7 : Sl + xsz S = slots + xsz rS.2) (hP : va_P D vwCl (xW z cy S1) H1) (hS : va_S (fun q => z ≤ q) H H1 locs1) : W p l e R s m args below meth c H1 locs1 cells slots Q (F0 m pc lsM (st.map (xup z sa))) :=
  xW_size fun hsz => hg H1 locs1 cells slots lsM h1 hP (fun ha => by
    obtain ⟨g1, g2⟩ := h3 ha
    have := hS.1
    rw [hsh]
    exact ⟨by omega, by omega⟩) (xS_comp h4 hS) h5 (by rw [hsh]; exact h6) (by rw [show xsz S1 = xsz S from by unfold xsz; rw [hsh]]; exact h7)
set_option maxRecDepth 100000 in
theorem xs_putfield {k0 : Nat} (X : xCx p R s m args meth c z D cy sa sv o cc ret ini nL C Sl) (hgo : ∀ pc ls st S, go pc ls st S = some rS → xGoT p l e R s m args below meth c Q al z D cy sa nL C Sl rS pc ls st S) (hd : decode cc pc = .ok (.putfield k0, 3)) (h : xstep al o ret ini go call (.putfield k0) 3 pc ls st S = some rS) : xGoT p l e R s m args below meth c Q al z D cy sa nL C Sl rS pc ls st S := by
  obtain ⟨hx, hb, hml, hown, hts, hG, hini, hRf, hRl, hCR, hSR, hrt, hlk⟩ := X
  intro H locs cells slots lsM h1 h2 h3 h4 h5 h6 h7
  simp only [xstep] at h
  have h0 := xV1_some h; clear h; obtain ⟨v, r, rfl, h⟩ := h0
  have h0 := xR1_some h; clear h; obtain ⟨a, r, rfl, h⟩ := h0
  split at h
  · rename_i ci f z0 hk
    have h0 := xif_some h; clear h; obtain ⟨⟨ha, hf, hfo⟩, h⟩ := h0
    obtain ⟨hci, hw⟩ := xF_ok hk
    obtain ⟨c1, c2, -, -, c5⟩ := xC_ok hci
    obtain ⟨c6, c7, c8⟩ := c5 f hf
    have he := xW_get (z := z) (cy := cy) ha
    rw [xce_obj (by omega)] at he
    have hll : f < ((List.range (xnf ci)).map (xfv z S ci a)).length := by simpa using hf
    have main : ∀ (S1 : xS) (w : Value), (xW z cy S).set a (z + a, .inr (ci, ((List.range (xnf ci)).map (xfv z S ci a)).set f w)) = xW z cy S1 → S1.1 = S.1 → narrow (xty ci f) w = w → fits (xty ci f) w = true → go (pc + 3) ls r S1 = some rS → W p l e R s m args below meth c H locs cells slots Q (F0 m pc lsM (w :: .ref (z + a) :: r.map (xup z sa))) := by
      intro S1 w hset hsh hnar hfit h
      have kk : ∀ (H1 : Heap) (locs1 : List Loc), va_P D vwCl ((xW z cy S).set a (z + a, .inr (ci, ((List.range (xnf ci)).map (xfv z S ci a)).set f w))) H1 → va_D (fun q => z ≤ q) ((xW z cy S).set a (z + a, .inr (ci, ((List.range (xnf ci)).map (xfv z S ci a)).set f w))) → va_S (fun q => z ≤ q) H H1 locs1 → W p l e R s m args below meth c H1 locs1 cells slots Q (F0 m (pc + 3) lsM (r.map (xup z sa))) := fun H1 locs1 hP1 _ hS1 => by
        rw [hset] at hP1
        exact xkeep (hgo _ _ _ _ h) hsh h1 h3 h4 h5 h6 h7 hP1 hS1
      cases hfi : xfin ci f with
      | false =>
        rcases hw with ⟨-, hw⟩ | ⟨-, hw⟩
        · exact va_put (C := (xcl ci).1) (T := (xcl ci).2.1) (N := (xcl ci).2.2) hx hb hts (xin_all hci) (xty ci) (fun k hk => (c5 k (by rw [← c1]; exact hk)).1) (xnm_all hci) hown hG.1 h2 (xW_D z cy S) (xS_self h4) a he (xcl_at hci) f (by rw [c1]; exact hf) (hts _ hw) (fun _ q => q) hfi c6 hnar hfit hll hd kk
        · exact va_putN (C := (xcl ci).1) (T := (xcl ci).2.1) (N := (xcl ci).2.2) hx hb hts (xin_all hci) (xty ci) (fun k hk => (c5 k (by rw [← c1]; exact hk)).1) (xnm_all hci) hown hG.1 h2 (xW_D z cy S) (xS_self h4) a he (xcl_at hci) f (by rw [c1]; exact hf) (va_Nw.use rfl (hG.2.1 _ hw)) (fun _ q => q) hfi c6 hnar hfit hll hd kk
      | true =>
        unfold xfok at hfo
        rw [hfi] at hfo
        simp only [Bool.not_true, Bool.false_or, Bool.and_eq_true, beq_iff_eq] at hfo
        obtain ⟨⟨g1, g2⟩, g3⟩ := hfo
        rcases hw with ⟨-, hw⟩ | ⟨g4, -⟩
        · exact va_putF (C := (xcl ci).1) (T := (xcl ci).2.1) (N := (xcl ci).2.2) hx hb hts (xin_all hci) (xty ci) (fun k hk => (c5 k (by rw [← c1]; exact hk)).1) (xnm_all hci) hown hG.1 h2 (xW_D z cy S) (xS_self h4) a he (xcl_at hci) f (by rw [c1]; exact hf) (hts _ hw) (fun _ q => q) hfi (hini g1) (by rw [c8, c2, g2]) c6 hnar hfit hll hd kk
        · exact absurd g3 g4
    have hci20 : ci < 20 := by omega
    cases v with
    | int x =>
      have h0 := xif_some h; clear h; obtain ⟨ht, h⟩ := h0
      have ht2 : ¬ xtg ci f = 1 ∧ ¬ xtg ci f = 2 := by omega
      refine main (xSI S a f x) (.int x) (xW_SI ha hci20 ht2) rfl ?_ ?_ h
      · rcases ht with ht | ⟨ht, hx⟩
        · rw [ht] at c7; cases hq : xty ci f <;> rw [hq] at c7 <;> first | (cases c7; done) | rfl
        · rw [ht] at c7; cases hq : xty ci f <;> rw [hq] at c7 <;> first | (cases c7; done) | (rcases hx with rfl | rfl <;> rfl)
      · rcases ht with ht | ⟨ht, hx⟩
        · rw [ht] at c7; cases hq : xty ci f <;> rw [hq] at c7 <;> first | (cases c7; done) | rfl
        · rw [ht] at c7; cases hq : xty ci f <;> rw [hq] at c7 <;> first | (cases c7; done) | (rcases hx with rfl | rfl <;> rfl)
    | long x =>
      have h0 := xif_some h; clear h; obtain ⟨ht, h⟩ := h0
      refine main (xSL S a f x) (.long x) (xW_SL ha hci20 ht) rfl ?_ ?_ h
      · rw [ht] at c7; cases hq : xty ci f <;> rw [hq] at c7 <;> first | (cases c7; done) | rfl
      · rw [ht] at c7; cases hq : xty ci f <;> rw [hq] at c7 <;> first | (cases c7; done) | rfl
    | ref b =>
      have h0 := xif_some h; clear h; obtain ⟨ht, h⟩ := h0
      refine main (xSR S a f (some b)) (.ref (z + b)) (xW_SR ha hci20 ht) rfl ?_ ?_ h
      · rw [ht] at c7; cases hq : xty ci f <;> rw [hq] at c7 <;> first | (cases c7; done) | rfl
      · rw [ht] at c7; cases hq : xty ci f <;> rw [hq] at c7 <;> first | (cases c7; done) | rfl
    | _ => cases h
  · cases h
set_option maxRecDepth 100000 in
theorem xs_iaload  (X : xCx p R s m args meth c z D cy sa sv o cc ret ini nL C Sl) (hgo : ∀ pc ls st S, go pc ls st S = some rS → xGoT p l e R s m args below meth c Q al z D cy sa nL C Sl rS pc ls st S) (hd : decode cc pc = .ok (.iaload, 1)) (h : xstep al o ret ini go call (.iaload) 1 pc ls st S = some rS) : xGoT p l e R s m args below meth c Q al z D cy sa nL C Sl rS pc ls st S := by
  obtain ⟨hx, hb, hml, hown, hts, hG, hini, hRf, hRl, hCR, hSR, hrt, hlk⟩ := X
  intro H locs cells slots lsM h1 h2 h3 h4 h5 h6 h7
  simp only [xstep] at h
  have h0 := xald_some h; clear h; obtain ⟨j, a, r, t, n, rfl, ha, hj, h⟩ := h0
  have h0 := xif_some h; clear h; obtain ⟨rfl, h⟩ := h0
  have he := xW_get (z := z) (cy := cy) ha
  rw [xce_arr (by omega)] at he
  exact va_iald hx hb hG.1 h2 a 0 he rfl hj hd (hgo _ _ _ _ h H locs cells slots lsM h1 h2 h3 h4 h5 h6 h7)
set_option maxRecDepth 100000 in
theorem xs_caload  (X : xCx p R s m args meth c z D cy sa sv o cc ret ini nL C Sl) (hgo : ∀ pc ls st S, go pc ls st S = some rS → xGoT p l e R s m args below meth c Q al z D cy sa nL C Sl rS pc ls st S) (hd : decode cc pc = .ok (.caload, 1)) (h : xstep al o ret ini go call (.caload) 1 pc ls st S = some rS) : xGoT p l e R s m args below meth c Q al z D cy sa nL C Sl rS pc ls st S := by
  obtain ⟨hx, hb, hml, hown, hts, hG, hini, hRf, hRl, hCR, hSR, hrt, hlk⟩ := X
  intro H locs cells slots lsM h1 h2 h3 h4 h5 h6 h7
  simp only [xstep] at h
  have h0 := xald_some h; clear h; obtain ⟨j, a, r, t, n, rfl, ha, hj, h⟩ := h0
  have h0 := xif_some h; clear h; obtain ⟨rfl, h⟩ := h0
  have he := xW_get (z := z) (cy := cy) ha
  rw [xce_arr (by omega)] at he
  exact va_cald hx hb hG.1 h2 a 1 he rfl hj hd (hgo _ _ _ _ h H locs cells slots lsM h1 h2 h3 h4 h5 h6 h7)
set_option maxRecDepth 100000 in
theorem xs_baload  (X : xCx p R s m args meth c z D cy sa sv o cc ret ini nL C Sl) (hgo : ∀ pc ls st S, go pc ls st S = some rS → xGoT p l e R s m args below meth c Q al z D cy sa nL C Sl rS pc ls st S) (hd : decode cc pc = .ok (.baload, 1)) (h : xstep al o ret ini go call (.baload) 1 pc ls st S = some rS) : xGoT p l e R s m args below meth c Q al z D cy sa nL C Sl rS pc ls st S := by
  obtain ⟨hx, hb, hml, hown, hts, hG, hini, hRf, hRl, hCR, hSR, hrt, hlk⟩ := X
  intro H locs cells slots lsM h1 h2 h3 h4 h5 h6 h7
  simp only [xstep] at h
  have h0 := xald_some h; clear h; obtain ⟨j, a, r, t, n, rfl, ha, hj, h⟩ := h0
  have h0 := xif_some h; clear h; obtain ⟨ht, h⟩ := h0
  have he := xW_get (z := z) (cy := cy) ha
  rcases ht with rfl | rfl
  · rw [xce_arr (by omega)] at he
    exact va_bald hx hb hG.1 h2 a 2 he rfl hj hd (hgo _ _ _ _ h H locs cells slots lsM h1 h2 h3 h4 h5 h6 h7)
  · rw [xce_arr (by omega)] at he
    exact va_zald hx hb hG.1 h2 a 3 he rfl hj hd (hgo _ _ _ _ h H locs cells slots lsM h1 h2 h3 h4 h5 h6 h7)
set_option maxRecDepth 100000 in
theorem xs_aaload  (X : xCx p R s m args meth c z D cy sa sv o cc ret ini nL C Sl) (hgo : ∀ pc ls st S, go pc ls st S = some rS → xGoT p l e R s m args below meth c Q al z D cy sa nL C Sl rS pc ls st S) (hd : decode cc pc = .ok (.aaload, 1)) (h : xstep al o ret ini go call (.aaload) 1 pc ls st S = some rS) : xGoT p l e R s m args below meth c Q al z D cy sa nL C Sl rS pc ls st S := by
  obtain ⟨hx, hb, hml, hown, hts, hG, hini, hRf, hRl, hCR, hSR, hrt, hlk⟩ := X
  intro H locs cells slots lsM h1 h2 h3 h4 h5 h6 h7
  simp only [xstep] at h
  have h0 := xald_some h; clear h; obtain ⟨j, a, r, t, n, rfl, ha, hj, h⟩ := h0
  have h0 := xif_some h; clear h; obtain ⟨ht, h⟩ := h0
  have he := xW_get (z := z) (cy := cy) ha
  have hg := (hgo _ _ _ _ h H locs cells slots lsM h1 h2 h3 h4 h5 h6 h7)
  rw [List.map_cons, xup_rf] at hg
  rcases ht with rfl | rfl | rfl
  · rw [xce_arr (by omega)] at he
    exact va_aldq (C := RX3) hx hb hG.1 h2 a 5 he rfl hj hd hg
  · rw [xce_arr (by omega)] at he
    exact va_aldq (C := RX1) hx hb hG.1 h2 a 6 he rfl hj hd hg
  · rw [xce_arr (by omega)] at he
    have hlt : j.toNatClampNeg < n := Nat.not_le.mp fun q => hj (Or.inr q)
    exact W.aald (v := va_rf ((S.2.2.1 a j.toNatClampNeg).map (fun b => z + b))) (ty := .array .int) hx hb (h2 a _ he) ((hG.1.2 7 _ rfl).1 n (fun j => va_rf ((S.2.2.1 a j).map (fun b => z + b)))) rfl (fun q => by cases q) (by show ¬ (j < 0 ∨ (arrV _ _ _).slots.size ≤ _); rw [arrV_size]; exact hj) (by show (arrV (cy 27) n (fun j => va_rf ((S.2.2.1 a j).map (fun b => z + b)))).slots[_]? = _; rw [arrV_read _ _ hlt]) rfl rfl hd hg
set_option maxRecDepth 100000 in
theorem xs_iastore  (X : xCx p R s m args meth c z D cy sa sv o cc ret ini nL C Sl) (hgo : ∀ pc ls st S, go pc ls st S = some rS → xGoT p l e R s m args below meth c Q al z D cy sa nL C Sl rS pc ls st S) (hd : decode cc pc = .ok (.iastore, 1)) (h : xstep al o ret ini go call (.iastore) 1 pc ls st S = some rS) : xGoT p l e R s m args below meth c Q al z D cy sa nL C Sl rS pc ls st S := by
  obtain ⟨hx, hb, hml, hown, hts, hG, hini, hRf, hRl, hCR, hSR, hrt, hlk⟩ := X
  intro H locs cells slots lsM h1 h2 h3 h4 h5 h6 h7
  simp only [xstep] at h
  have h0 := xast_some h; clear h; obtain ⟨v, j, a, r, t, n, rfl, ha, hj, h⟩ := h0
  have h0 := xif_some h; clear h; obtain ⟨rfl, h⟩ := h0
  have h0 := xI1_some h; clear h; obtain ⟨x, r', hr, h⟩ := h0
  cases hr
  have he := xW_get (z := z) (cy := cy) ha
  rw [xce_arr (by omega)] at he
  exact va_iast hx hb hG.1 h2 (xW_D z cy S) (xS_self h4) a 0 he rfl hj hd fun H1 locs1 hP1 _ hS1 => by
    rw [xW_AI ha (by omega) (by omega)] at hP1
    exact xkeep (S := S) (hgo _ _ _ _ h) rfl h1 h3 h4 h5 h6 h7 hP1 hS1
set_option maxRecDepth 100000 in
theorem xs_castore  (X : xCx p R s m args meth c z D cy sa sv o cc ret ini nL C Sl) (hgo : ∀ pc ls st S, go pc ls st S = some rS → xGoT p l e R s m args below meth c Q al z D cy sa nL C Sl rS pc ls st S) (hd : decode cc pc = .ok (.castore, 1)) (h : xstep al o ret ini go call (.castore) 1 pc ls st S = some rS) : xGoT p l e R s m args below meth c Q al z D cy sa nL C Sl rS pc ls st S := by
  obtain ⟨hx, hb, hml, hown, hts, hG, hini, hRf, hRl, hCR, hSR, hrt, hlk⟩ := X
  intro H locs cells slots lsM h1 h2 h3 h4 h5 h6 h7
  simp only [xstep] at h
  have h0 := xast_some h; clear h; obtain ⟨v, j, a, r, t, n, rfl, ha, hj, h⟩ := h0
  have h0 := xif_some h; clear h; obtain ⟨rfl, h⟩ := h0
  have h0 := xI1_some h; clear h; obtain ⟨x, r', hr, h⟩ := h0
  cases hr
  have he := xW_get (z := z) (cy := cy) ha
  rw [xce_arr (by omega)] at he
  exact va_cast hx hb hG.1 h2 (xW_D z cy S) (xS_self h4) a 1 he rfl hj hd fun H1 locs1 hP1 _ hS1 => by
    rw [xW_AI ha (by omega) (by omega)] at hP1
    exact xkeep (S := S) (hgo _ _ _ _ h) rfl h1 h3 h4 h5 h6 h7 hP1 hS1
set_option maxRecDepth 100000 in
theorem xs_bastore  (X : xCx p R s m args meth c z D cy sa sv o cc ret ini nL C Sl) (hgo : ∀ pc ls st S, go pc ls st S = some rS → xGoT p l e R s m args below meth c Q al z D cy sa nL C Sl rS pc ls st S) (hd : decode cc pc = .ok (.bastore, 1)) (h : xstep al o ret ini go call (.bastore) 1 pc ls st S = some rS) : xGoT p l e R s m args below meth c Q al z D cy sa nL C Sl rS pc ls st S := by
  obtain ⟨hx, hb, hml, hown, hts, hG, hini, hRf, hRl, hCR, hSR, hrt, hlk⟩ := X
  intro H locs cells slots lsM h1 h2 h3 h4 h5 h6 h7
  simp only [xstep] at h
  have h0 := xast_some h; clear h; obtain ⟨v, j, a, r, t, n, rfl, ha, hj, h⟩ := h0
  have he := xW_get (z := z) (cy := cy) ha
  split at h
  · rename_i ht
    subst ht
    have h0 := xI1_some h; clear h; obtain ⟨x, r', hr, h⟩ := h0
    cases hr
    rw [xce_arr (by omega)] at he
    exact va_bast hx hb hG.1 h2 (xW_D z cy S) (xS_self h4) a 2 he rfl hj hd fun H1 locs1 hP1 _ hS1 => by
      rw [xW_AI ha (by omega) (by omega)] at hP1
      exact xkeep (S := S) (hgo _ _ _ _ h) rfl h1 h3 h4 h5 h6 h7 hP1 hS1
  · have h0 := xif_some h; clear h; obtain ⟨rfl, h⟩ := h0
    have h0 := xI1_some h; clear h; obtain ⟨x, r', hr, h⟩ := h0
    cases hr
    rw [xce_arr (by omega)] at he
    exact va_zast hx hb hG.1 h2 (xW_D z cy S) (xS_self h4) a 3 he rfl hj hd fun H1 locs1 hP1 _ hS1 => by
      rw [xW_AI ha (by omega) (by omega)] at hP1
      exact xkeep (S := S) (hgo _ _ _ _ h) rfl h1 h3 h4 h5 h6 h7 hP1 hS1
set_option maxRecDepth 100000 in
theorem xs_aastore  (X : xCx p R s m args meth c z D cy sa sv o cc ret ini nL C Sl) (hgo : ∀ pc ls st S, go pc ls st S = some rS → xGoT p l e R s m args below meth c Q al z D cy sa nL C Sl rS pc ls st S) (hd : decode cc pc = .ok (.aastore, 1)) (h : xstep al o ret ini go call (.aastore) 1 pc ls st S = some rS) : xGoT p l e R s m args below meth c Q al z D cy sa nL C Sl rS pc ls st S := by
  obtain ⟨hx, hb, hml, hown, hts, hG, hini, hRf, hRl, hCR, hSR, hrt, hlk⟩ := X
  intro H locs cells slots lsM h1 h2 h3 h4 h5 h6 h7
  simp only [xstep] at h
  have h0 := xast_some h; clear h; obtain ⟨v, j, a, r, t, n, rfl, ha, hj, h⟩ := h0
  have h0 := xR1_some h; clear h; obtain ⟨b, r', hr, h⟩ := h0
  cases hr
  have h0 := xif_some h; clear h; obtain ⟨ht, h⟩ := h0
  have he := xW_get (z := z) (cy := cy) ha
  rcases ht with ⟨rfl, hv⟩ | ⟨rfl, hv⟩
  · rw [xce_arr (by omega)] at he
    have hv' := xW_get (z := z) (cy := cy) hv
    rw [xce_obj (by omega)] at hv'
    exact va_astq (r := xcl 3) hx hb hG.1 h2 (xW_D z cy S) (xS_self h4) a 5 b 3 he rfl hv' (xcl_at (by omega)) hj hd fun H1 locs1 hP1 _ hS1 => by
      rw [xW_AR ha (by omega)] at hP1
      exact xkeep (S := S) (hgo _ _ _ _ h) rfl h1 h3 h4 h5 h6 h7 hP1 hS1
  · rw [xce_arr (by omega)] at he
    have hv' := xW_get (z := z) (cy := cy) hv
    rw [xce_obj (by omega)] at hv'
    exact va_astq (r := xcl 1) hx hb hG.1 h2 (xW_D z cy S) (xS_self h4) a 6 b 1 he rfl hv' (xcl_at (by omega)) hj hd fun H1 locs1 hP1 _ hS1 => by
      rw [xW_AR ha (by omega)] at hP1
      exact xkeep (S := S) (hgo _ _ _ _ h) rfl h1 h3 h4 h5 h6 h7 hP1 hS1
set_option maxRecDepth 100000 in
theorem xs_arraylength  (X : xCx p R s m args meth c z D cy sa sv o cc ret ini nL C Sl) (hgo : ∀ pc ls st S, go pc ls st S = some rS → xGoT p l e R s m args below meth c Q al z D cy sa nL C Sl rS pc ls st S) (hd : decode cc pc = .ok (.arraylength, 1)) (h : xstep al o ret ini go call (.arraylength) 1 pc ls st S = some rS) : xGoT p l e R s m args below meth c Q al z D cy sa nL C Sl rS pc ls st S := by
  obtain ⟨hx, hb, hml, hown, hts, hG, hini, hRf, hRl, hCR, hSR, hrt, hlk⟩ := X
  intro H locs cells slots lsM h1 h2 h3 h4 h5 h6 h7
  simp only [xstep] at h
  have h0 := xR1_some h; clear h; obtain ⟨a, r, rfl, h⟩ := h0
  split at h
  · rename_i t n ha
    have h0 := xif_some h; clear h; obtain ⟨ht, h⟩ := h0
    have he := xW_get (z := z) (cy := cy) ha
    rw [xce_arr (by omega)] at he
    obtain ⟨ty, hty⟩ := xtys_at (cy := cy) ht.1 ht.2
    exact va_alen hx hb hG.1 h2 a (t - 20) he hty rfl hd (hgo _ _ _ _ h H locs cells slots lsM h1 h2 h3 h4 h5 h6 h7)
  · cases h
set_option maxRecDepth 100000 in
theorem xs_ireturn (X : xCx p R s m args meth c z D cy sa sv o cc ret ini nL C Sl) (hd : decode cc pc = .ok (.ireturn, 1)) (h : xstep al o ret ini go call (.ireturn) 1 pc ls st S = some rS) : xGoT p l e R s m args below meth c (MQ below (xQ al z D cy sa rS.1 rS.2) args s C Sl (fun q => z ≤ q)) al z D cy sa nL C Sl rS pc ls st S := by
  obtain ⟨hx, hb, hml, hown, hts, hG, hini, hRf, hRl, hCR, hSR, hrt, hlk⟩ := X
  intro H locs cells slots lsM h1 h2 h3 h4 h5 h6 h7
  simp only [xstep] at h
  unfold xretI at h
  split at h
  · have h0 := xif_some h; clear h; obtain ⟨hn, h⟩ := h0
    cases h
    obtain rfl : C = cells := by have h6 : C + S.1.length = cells + S.1.length := h6; omega
    obtain rfl : Sl = slots := by have h7 : Sl + xsz S = slots + xsz S := h7; omega
    exact W.zret hx hb hrt hn (fun t ht hW => ⟨⟨rfl, by rw [ht]; exact h2, fun ha => by rw [ht]; exact (h3 ha).1⟩, h4.F ht⟩) h4.2.2 hd hlk
  · cases h
set_option maxRecDepth 100000 in
theorem xs_lreturn (X : xCx p R s m args meth c z D cy sa sv o cc ret ini nL C Sl) (hd : decode cc pc = .ok (.lreturn, 1)) (h : xstep al o ret ini go call (.lreturn) 1 pc ls st S = some rS) : xGoT p l e R s m args below meth c (MQ below (xQ al z D cy sa rS.1 rS.2) args s C Sl (fun q => z ≤ q)) al z D cy sa nL C Sl rS pc ls st S := by
  obtain ⟨hx, hb, hml, hown, hts, hG, hini, hRf, hRl, hCR, hSR, hrt, hlk⟩ := X
  intro H locs cells slots lsM h1 h2 h3 h4 h5 h6 h7
  simp only [xstep] at h
  unfold xretL at h
  split at h
  · cases h
    obtain rfl : C = cells := by have h6 : C + S.1.length = cells + S.1.length := h6; omega
    obtain rfl : Sl = slots := by have h7 : Sl + xsz S = slots + xsz S := h7; omega
    exact W.lret hx hb hrt (fun t ht hW => ⟨⟨rfl, by rw [ht]; exact h2, fun ha => by rw [ht]; exact (h3 ha).1⟩, h4.F ht⟩) h4.2.2 hd hlk
  · cases h
set_option maxRecDepth 100000 in
theorem xs_return (X : xCx p R s m args meth c z D cy sa sv o cc ret ini nL C Sl) (hd : decode cc pc = .ok (.return_, 1)) (h : xstep al o ret ini go call (.return_) 1 pc ls st S = some rS) : xGoT p l e R s m args below meth c (MQ below (xQ al z D cy sa rS.1 rS.2) args s C Sl (fun q => z ≤ q)) al z D cy sa nL C Sl rS pc ls st S := by
  obtain ⟨hx, hb, hml, hown, hts, hG, hini, hRf, hRl, hCR, hSR, hrt, hlk⟩ := X
  intro H locs cells slots lsM h1 h2 h3 h4 h5 h6 h7
  simp only [xstep] at h
  unfold xretV at h
  split at h
  · cases h
    obtain rfl : C = cells := by have h6 : C + S.1.length = cells + S.1.length := h6; omega
    obtain rfl : Sl = slots := by have h7 : Sl + xsz S = slots + xsz S := h7; omega
    exact W.vret hx hb hrt (fun t ht hW => ⟨⟨rfl, by rw [ht]; exact h2, fun ha => by rw [ht]; exact (h3 ha).1⟩, h4.F ht⟩) h4.2.2 hd hlk
  · cases h
set_option maxRecDepth 100000 in
theorem xs_areturn (X : xCx p R s m args meth c z D cy sa sv o cc ret ini nL C Sl) (hd : decode cc pc = .ok (.areturn, 1)) (h : xstep al o ret ini go call (.areturn) 1 pc ls st S = some rS) : xGoT p l e R s m args below meth c (MQ below (xQ al z D cy sa rS.1 rS.2) args s C Sl (fun q => z ≤ q)) al z D cy sa nL C Sl rS pc ls st S := by
  obtain ⟨hx, hb, hml, hown, hts, hG, hini, hRf, hRl, hCR, hSR, hrt, hlk⟩ := X
  intro H locs cells slots lsM h1 h2 h3 h4 h5 h6 h7
  simp only [xstep] at h
  unfold xretA at h
  split at h
  · have h0 := xif_some h; clear h; obtain ⟨hn, h⟩ := h0
    cases h
    obtain rfl : C = cells := by have h6 : C + S.1.length = cells + S.1.length := h6; omega
    obtain rfl : Sl = slots := by have h7 : Sl + xsz S = slots + xsz S := h7; omega
    refine W.aret hx hb hrt (Or.inl ⟨_, rfl⟩) ?_ (fun t ht hW => ⟨⟨rfl, by rw [ht]; exact h2, fun ha => by rw [ht]; exact (h3 ha).1⟩, h4.F ht⟩) h4.2.2 hd hlk
    rcases xref_cases hn with ⟨a, rfl⟩ | rfl | ⟨k, rfl⟩
    · exact Or.inr ⟨_, rfl⟩
    · exact Or.inl rfl
    · exact Or.inr ⟨_, rfl⟩
  · have h0 := xif_some h; clear h; obtain ⟨hn, h⟩ := h0
    cases h
    obtain rfl : C = cells := by have h6 : C + S.1.length = cells + S.1.length := h6; omega
    obtain rfl : Sl = slots := by have h7 : Sl + xsz S = slots + xsz S := h7; omega
    refine W.aret hx hb hrt (Or.inr ⟨_, rfl⟩) ?_ (fun t ht hW => ⟨⟨rfl, by rw [ht]; exact h2, fun ha => by rw [ht]; exact (h3 ha).1⟩, h4.F ht⟩) h4.2.2 hd hlk
    rcases xref_cases hn with ⟨a, rfl⟩ | rfl | ⟨k, rfl⟩
    · exact Or.inr ⟨_, rfl⟩
    · exact Or.inl rfl
    · exact Or.inr ⟨_, rfl⟩
  · cases h
theorem xpop_some {n : Nat} {st : List Value} {k : List Value → List Value → xO} {q : Option Value × xS} (h : xpop n st k = some q) : ∃ as r, st = as.reverse ++ r ∧ as.length = n ∧ k as r = some q := by
  unfold xpop at h
  have h0 := xif_some h; clear h; obtain ⟨hn, h⟩ := h0
  exact ⟨_, _, by rw [List.reverse_reverse, List.take_append_drop], by rw [List.length_reverse, List.length_take]; omega, h⟩
theorem xthis_some {as : List Value} {S : xS} {k : Nat → xO} {q : Option Value × xS} (h : xthis as S k = some q) : ∃ a as' t nn, as = .ref a :: as' ∧ S.1[a]? = some (t, nn) ∧ k t = some q := by
  unfold xthis at h
  split at h
  · split at h
    · exact ⟨_, _, _, _, rfl, by assumption, h⟩
    · cases h
  · cases h
theorem xgood {ws : List Cond} (h : ∀ w ∈ ws, w ∈ xAL) : GoodIn xAL ws := fun w hw => ⟨h w hw, good_of_word (List.mem_filter.mp (h w hw)).2⟩
theorem xws_in {y : MethodName} {code : ByteArray} {ml : Nat} {r : Option FieldType} (h : Cond.code y code ml r ∈ xAL) : ∀ w ∈ xws y code ml r, w ∈ xAL := fun w hw => (List.mem_cons.mp hw).elim (fun e => by rw [e]; exact h) id
/-- behind a call -/
theorem xr_cont {H : Heap} {locs : List Loc} {cells slots mc ms : Nat} {lsM : Array Slot} {st0 rest : List Value} {a : Array Value} {v : Option Value} {S1 : xS} (hr : va_Run p l e R s m args below meth c H locs cells slots mc ms (F0 m pc lsM st0) rest (xQ al z D cy sa v S1 a) (fun q => z ≤ q)) (hS : va_S (fun q => z ≤ q) s.heap H locs)
    (kk : ∀ (H1 : Heap) (locs1 : List Loc), va_P D vwCl (xW z cy S1) H1 → (al = true → H1.size = z + S1.1.length) → va_S (fun q => z ≤ q) s.heap H1 locs1 → W p l e R s m args below meth c H1 locs1 (cells + mc) (slots + ms) Q (F0 m (pc + 3) lsM ((v.map (xup z sa)).toList ++ rest))) : W p l e R s m args below meth c H locs cells slots Q (F0 m pc lsM st0) := by
  intro T hT X
  obtain ⟨v', st₀, t, T', L, h0, X', hL, e1, e2, ⟨⟨hv, hP1, hal1⟩, hz, hk⟩, st⟩ := hr T hT X
  cases hv
  rw [h0] at hz hk
  obtain ⟨t2, a1, b1⟩ := kk T'.heap (locs ++ L) (by rw [e1]; exact hP1) (fun ha => by rw [e1]; exact hal1 ha) ⟨Nat.le_trans hS.1 (by rw [e1]; exact hz), fun q q1 q2 => by rw [e1, hk q (Nat.lt_of_lt_of_le q1 hS.1) q2]; exact hS.2.1 q q1 q2, fun q hq => by
    rcases List.mem_append.mp hq with h | h
    · exact hS.2.2 q h
    · exact hL q h⟩ T' rfl X'
  exact ⟨t2, st t2 a1, b1⟩
set_option maxRecDepth 100000 in
theorem xs_invokevirtual_o {k0 kd j : Nat} (X : xCx p R s m args meth c z D cy sa sv o cc ret ini nL C Sl) (hgo : ∀ pc ls st S, go pc ls st S = some rS → xGoT p l e R s m args below meth c Q al z D cy sa nL C Sl rS pc ls st S) (hk : xlk o k0 = some [1, kd, j]) (hcall : ∀ j as S v S1, call j as S = some (v, S1) → xCall l R al z D cy sa sv j as S v S1) (hgm : ∀ pc ls st S, go pc ls st S = some rS → xlater S rS.2) (hd : decode cc pc = .ok (.invokevirtual k0, 3)) (h : xstep al o ret ini go call (.invokevirtual k0) 3 pc ls st S = some rS) : xGoT p l e R s m args below meth c Q al z D cy sa nL C Sl rS pc ls st S := by
  obtain ⟨hx, hb, hml, hown, hts, hG, hini, hRf, hRl, hCR, hSR, hrt, hlk⟩ := X
  intro H locs cells slots lsM h1 h2 h3 h4 h5 h6 h7
  simp only [xstep] at h
  rw [hk] at h
  simp only at h
  have h0 := xif_some h; clear h; obtain ⟨hkd, h⟩ := h0
  have h0 := xpop_some h; clear h; obtain ⟨as, r, hst, hlen, h⟩ := h0
  have h0 := xthis_some h; clear h; obtain ⟨a, as', t, nn, has, ha, h⟩ := h0
  have h0 := xif_some h; clear h; obtain ⟨⟨ht, ht12, hsm⟩, h⟩ := h0
  split at h
  · rename_i v S1 hc
    obtain ⟨hlt, hj0, d, hd1, hd2, -, hMet⟩ := hcall _ _ _ _ _ hc
    obtain ⟨hj, hJ⟩ := xJ_ok hk
    generalize hq : xMI j = mi at hMet hlen ht hJ
    obtain ⟨o', n, ml, y, code, ret2, ini2, stt⟩ := mi
    obtain ⟨hw, hst2, hin2, hsel⟩ := hJ rfl
    obtain ⟨m1, -, m3, m4, m5, m6, m7, m8, m9, m10, -, m12, m13⟩ := xM_ok hj hq
    dsimp only at hMet hlen ht
    have hstt : stt = false := by rw [hst2]; rcases hkd with rfl | rfl <;> rfl
    have hini2 : ini2 = false := by rw [hin2]; rcases hkd with rfl | rfl <;> rfl
    subst hstt; subst hini2; subst ht
    have hsel2 := m5 rfl rfl (by rcases hsel with q | q; exact q; rcases hkd with rfl | rfl <;> omega)
    have he := xW_get (z := z) (cy := cy) ha
    rw [xce_obj (by omega)] at he
    have hrecv := va_recv hG.1 h2 (xcl_at ht12) he
    rw [(xC_ok ht12).2.1, ← m6] at hrecv
    have hPre : ∀ U : State, U.heap = H → s.WarmedH U.vm → va_Pc (as.map (xup z sa)) (xPre al z D cy sa sv S) (as.map (xup z sa)).toArray U := fun U hU hW => ⟨rfl, xG_at hG h4 hU hW, by rw [hU]; exact h2, fun ha => by rw [hU]; exact (h3 ha).1⟩
    have hroomC : cells + (S1.1.length - S.1.length) ≤ R.cells ∧ slots + (xsz S1 - xsz S) ≤ R.slots := by
      have q1 := (hgm _ _ _ _ h).1; have q2 := (hgm _ _ _ _ h).2; have q3 := hlt.1; have q4 := hlt.2
      exact ⟨by omega, by omega⟩
    have hsum : 2 * (F0 m pc lsM (st.map (xup z sa))).monitorRoom + ((r.map (xup z sa)).map fun v => v.category).sum ≤ 8 := by
      have e : ((r.map (xup z sa)).map fun v => v.category) = (r.map fun v => v.category) := by rw [List.map_map]; exact List.map_congr_left fun v _ => xup_cat z sa v
      rw [e]
      have e2 : (F0 m pc lsM (st.map (xup z sa))).monitorRoom = 0 := rfl
      omega
    subst has
    have hstack : (F0 m pc lsM (st.map (xup z sa))).stack = (as'.map (xup z sa)).reverse ++ .ref (z + a) :: r.map (xup z sa) := by
      show st.map (xup z sa) = _
      rw [hst]; simp [xup]
    have hn8 : (parseMethodDescriptor y.desc).map (fun d => d.parameters.length) = some (n - 1) := by rw [m8]; rfl
    have hlen' : (as'.map (xup z sa)).length = n - 1 := by rw [List.length_map]; have : as'.length + 1 = n := hlen; omega
    have hR2 : (xroom d (S1.1.length - S.1.length) (xsz S1 - xsz S)).frames + 1 ≤ R.frames ∧ 8 + (ml + 11) + (xroom d (S1.1.length - S.1.length) (xsz S1 - xsz S)).locals ≤ R.locals := ⟨by show d + 8 + 1 ≤ _; omega, by show 8 + (ml + 11) + (60 * d + 400) ≤ _; omega⟩
    have hdec : decode cc (F0 m pc lsM (st.map (xup z sa))).pc = .ok (.invokevirtual k0, 3) := hd
    rcases hw with ⟨-, hw⟩ | ⟨-, hw⟩
    · have cw := cwV (s := s) (R := R) (args := args) (own := xNm o) (index := k0) (rm := xroom d (S1.1.length - S.1.length) (xsz S1 - xsz S)) (mc := S1.1.length - S.1.length) (ms := xsz S1 - xsz S) (n - 1) hts (xgood (ws := wsV (xNm o) k0 y.cls y (xws y code ml ret2)) (fun w hw' => by
        rcases List.mem_append.mp hw' with hw' | hw'
        · simp only [List.mem_cons, List.not_mem_nil, or_false] at hw'
          rcases hw' with rfl | rfl | rfl | rfl
          · exact hw
          · exact m3 rfl
          · exact hsel2
          · exact m4
        · exact xws_in m1 w hw')) rfl rfl rfl ⟨rfl, m7.1, m7.2, hn8⟩ hR2
      refine xr_cont (va_runV (As := as'.map (xup z sa)) (rest := r.map (xup z sa)) ⟨hx, hb, hml, hown, hts⟩ hMet cw ⟨xPre_blind, hrecv, hPre⟩ rfl hlen' (by show lsM.size = nL; exact h5.1) hstack hsum hdec hroomC) h4 fun H1 locs1 hP1 hal1 hS1 => ?_
      have hh := hgo _ _ _ _ h H1 locs1 (cells + (S1.1.length - S.1.length)) (slots + (xsz S1 - xsz S)) lsM h1 hP1 (fun ha => ⟨hal1 ha, by have q1 := hal1 ha; have q2 := h3 ha; have q3 := hlt.1; omega⟩) hS1 h5 (by have q3 := hlt.1; omega) (by have q3 := hlt.2; omega)
      rw [List.map_append] at hh
      cases v <;> exact hh
    · have cw := va_cnB (s := s) (R := R) (args := args) (own := xNm o) (host := "RhymeRing") (index := k0) (rm := xroom d (S1.1.length - S.1.length) (xsz S1 - xsz S)) (mc := S1.1.length - S.1.length) (ms := xsz S1 - xsz S) (n - 1) hts (xgood (xws_in m1)) rfl rfl rfl (hG.2.1 _ hw) (hts _ m4) ⟨m7.1, m7.2, hn8⟩ hR2
      refine xr_cont (va_runVN (As := as'.map (xup z sa)) (rest := r.map (xup z sa)) ⟨hx, hb, hml, hown, hts⟩ hMet ⟨cw, hts _ (m3 rfl), hts _ hsel2⟩ ⟨xPre_blind, hrecv, hPre⟩ rfl hlen' (by show lsM.size = nL; exact h5.1) hstack hsum hdec hroomC) h4 fun H1 locs1 hP1 hal1 hS1 => ?_
      have hh := hgo _ _ _ _ h H1 locs1 (cells + (S1.1.length - S.1.length)) (slots + (xsz S1 - xsz S)) lsM h1 hP1 (fun ha => ⟨hal1 ha, by have q1 := hal1 ha; have q2 := h3 ha; have q3 := hlt.1; omega⟩) hS1 h5 (by have q3 := hlt.1; omega) (by have q3 := hlt.2; omega)
      rw [List.map_append] at hh
      cases v <;> exact hh
  · cases h
set_option maxRecDepth 100000 in
theorem xs_invokestatic {k0 kd j : Nat} (X : xCx p R s m args meth c z D cy sa sv o cc ret ini nL C Sl) (hgo : ∀ pc ls st S, go pc ls st S = some rS → xGoT p l e R s m args below meth c Q al z D cy sa nL C Sl rS pc ls st S) (hk : xlk o k0 = some [1, kd, j]) (hcall : ∀ j as S v S1, call j as S = some (v, S1) → xCall l R al z D cy sa sv j as S v S1) (hgm : ∀ pc ls st S, go pc ls st S = some rS → xlater S rS.2) (hd : decode cc pc = .ok (.invokestatic k0, 3)) (h : xstep al o ret ini go call (.invokestatic k0) 3 pc ls st S = some rS) : xGoT p l e R s m args below meth c Q al z D cy sa nL C Sl rS pc ls st S := by
  obtain ⟨hx, hb, hml, hown, hts, hG, hini, hRf, hRl, hCR, hSR, hrt, hlk⟩ := X
  intro H locs cells slots lsM h1 h2 h3 h4 h5 h6 h7
  simp only [xstep] at h
  rw [hk] at h
  simp only at h
  have h0 := xif_some h; clear h; obtain ⟨hkd, h⟩ := h0
  have h0 := xpop_some h; clear h; obtain ⟨as, r, hst, hlen, h⟩ := h0
  have h0 := xif_some h; clear h; obtain ⟨hsm, h⟩ := h0
  split at h
  · rename_i v S1 hc
    obtain ⟨hlt, hj0, d, hd1, hd2, -, hMet⟩ := hcall _ _ _ _ _ hc
    obtain ⟨hj, hJ⟩ := xJ_ok hk
    generalize hq : xMI j = mi at hMet hlen hJ
    obtain ⟨o', n, ml, y, code, ret2, ini2, stt⟩ := mi
    obtain ⟨hw, hst2, hin2, hsel⟩ := hJ rfl
    obtain ⟨m1, m2, m3, m4, m5, m6, m7, m8, m9, m10, m11, m12, m13⟩ := xM_ok hj hq
    dsimp only at hMet hlen
    have hstt : stt = true := by rw [hst2]; rcases hkd with rfl | rfl <;> rfl
    subst hstt
    have hPre : ∀ U : State, U.heap = H → s.WarmedH U.vm → va_Pc (as.map (xup z sa)) (xPre al z D cy sa sv S) (as.map (xup z sa)).toArray U := fun U hU hW => ⟨rfl, xG_at hG h4 hU hW, by rw [hU]; exact h2, fun ha => by rw [hU]; exact (h3 ha).1⟩
    have hroomC : cells + (S1.1.length - S.1.length) ≤ R.cells ∧ slots + (xsz S1 - xsz S) ≤ R.slots := by
      have q1 := (hgm _ _ _ _ h).1; have q2 := (hgm _ _ _ _ h).2; have q3 := hlt.1; have q4 := hlt.2
      exact ⟨by omega, by omega⟩
    have hsum : 2 * (F0 m pc lsM (st.map (xup z sa))).monitorRoom + ((r.map (xup z sa)).map fun v => v.category).sum ≤ 8 := by
      have e : ((r.map (xup z sa)).map fun v => v.category) = (r.map fun v => v.category) := by rw [List.map_map]; exact List.map_congr_left fun v _ => xup_cat z sa v
      rw [e]
      have e2 : (F0 m pc lsM (st.map (xup z sa))).monitorRoom = 0 := rfl
      omega
    have hstack : (F0 m pc lsM (st.map (xup z sa))).stack = (as.map (xup z sa)).reverse ++ r.map (xup z sa) := by
      show st.map (xup z sa) = _
      rw [hst]; simp
    have hn8 : (parseMethodDescriptor y.desc).map (fun d => d.parameters.length) = some n := by rw [m8]; rfl
    have hlen' : (as.map (xup z sa)).length = n := by rw [List.length_map]; exact hlen
    have hR2 : (xroom d (S1.1.length - S.1.length) (xsz S1 - xsz S)).frames + 1 ≤ R.frames ∧ 8 + (ml + 11) + (xroom d (S1.1.length - S.1.length) (xsz S1 - xsz S)).locals ≤ R.locals := ⟨by show d + 8 + 1 ≤ _; omega, by show 8 + (ml + 11) + (60 * d + 400) ≤ _; omega⟩
    have hdec : decode cc (F0 m pc lsM (st.map (xup z sa))).pc = .ok (.invokestatic k0, 3) := hd
    rcases hw with ⟨-, hw⟩ | ⟨-, hw⟩
    · have cw := va_cwS (s := s) (R := R) (args := args) (own := xNm o) (index := k0) (rm := xroom d (S1.1.length - S.1.length) (xsz S1 - xsz S)) (mc := S1.1.length - S.1.length) (ms := xsz S1 - xsz S) n hts (xgood (ws := va_wsS (xNm o) k0 y (xws y code ml ret2)) (fun w hw' => by
        rcases List.mem_append.mp hw' with hw' | hw'
        · simp only [List.mem_cons, List.not_mem_nil, or_false] at hw'
          rcases hw' with rfl | rfl | rfl
          · exact hw
          · exact m2 rfl
          · exact m4
        · exact xws_in m1 w hw')) rfl rfl rfl ⟨m7.1, m7.2, hn8⟩ hR2
      refine xr_cont (va_runS (As := as.map (xup z sa)) (rest := r.map (xup z sa)) ⟨hx, hb, hml, hown, hts⟩ hMet cw ⟨xPre_blind, hPre⟩ rfl hlen' (by show lsM.size = nL; exact h5.1) hstack hsum hdec hroomC) h4 fun H1 locs1 hP1 hal1 hS1 => ?_
      have hh := hgo _ _ _ _ h H1 locs1 (cells + (S1.1.length - S.1.length)) (slots + (xsz S1 - xsz S)) lsM h1 hP1 (fun ha => ⟨hal1 ha, by have q1 := hal1 ha; have q2 := h3 ha; have q3 := hlt.1; omega⟩) hS1 h5 (by have q3 := hlt.1; omega) (by have q3 := hlt.2; omega)
      rw [List.map_append] at hh
      cases v <;> exact hh
    · have cw := va_cnB (s := s) (R := R) (args := args) (own := xNm o) (host := "RhymeRing") (index := k0) (rm := xroom d (S1.1.length - S.1.length) (xsz S1 - xsz S)) (mc := S1.1.length - S.1.length) (ms := xsz S1 - xsz S) n hts (xgood (xws_in m1)) rfl rfl rfl (hG.2.1 _ hw) (hts _ m4) ⟨m7.1, m7.2, hn8⟩ hR2
      refine xr_cont (va_runSN (As := as.map (xup z sa)) (rest := r.map (xup z sa)) ⟨hx, hb, hml, hown, hts⟩ hMet ⟨cw, hts _ (m2 rfl), trivial⟩ ⟨xPre_blind, hPre⟩ rfl hlen' (by show lsM.size = nL; exact h5.1) hstack hsum hdec hroomC) h4 fun H1 locs1 hP1 hal1 hS1 => ?_
      have hh := hgo _ _ _ _ h H1 locs1 (cells + (S1.1.length - S.1.length)) (slots + (xsz S1 - xsz S)) lsM h1 hP1 (fun ha => ⟨hal1 ha, by have q1 := hal1 ha; have q2 := h3 ha; have q3 := hlt.1; omega⟩) hS1 h5 (by have q3 := hlt.1; omega) (by have q3 := hlt.2; omega)
      rw [List.map_append] at hh
      cases v <;> exact hh
  · cases h
set_option maxRecDepth 100000 in
theorem xs_invokeinit {k0 kd j : Nat} (X : xCx p R s m args meth c z D cy sa sv o cc ret ini nL C Sl) (hgo : ∀ pc ls st S, go pc ls st S = some rS → xGoT p l e R s m args below meth c Q al z D cy sa nL C Sl rS pc ls st S) (hk : xlk o k0 = some [1, kd, j]) (hcall : ∀ j as S v S1, call j as S = some (v, S1) → xCall l R al z D cy sa sv j as S v S1) (hgm : ∀ pc ls st S, go pc ls st S = some rS → xlater S rS.2) (hd : decode cc pc = .ok (.invokespecial k0, 3)) (h : xstep al o ret ini go call (.invokespecial k0) 3 pc ls st S = some rS) : xGoT p l e R s m args below meth c Q al z D cy sa nL C Sl rS pc ls st S := by
  obtain ⟨hx, hb, hml, hown, hts, hG, hini, hRf, hRl, hCR, hSR, hrt, hlk⟩ := X
  intro H locs cells slots lsM h1 h2 h3 h4 h5 h6 h7
  simp only [xstep] at h
  rw [hk] at h
  simp only at h
  have h0 := xif_some h; clear h; obtain ⟨hkd, h⟩ := h0
  have h0 := xpop_some h; clear h; obtain ⟨as, r, hst, hlen, h⟩ := h0
  have h0 := xthis_some h; clear h; obtain ⟨a, as', t, nn, has, ha, h⟩ := h0
  have h0 := xif_some h; clear h; obtain ⟨hsm, h⟩ := h0
  split at h
  · rename_i S1 hc
    obtain ⟨hlt, hj0, d, hd1, hd2, -, hMet⟩ := hcall _ _ _ _ _ hc
    obtain ⟨hj, hJ⟩ := xJ_ok hk
    generalize hq : xMI j = mi at hMet hlen hJ
    obtain ⟨o', n, ml, y, code, ret2, ini2, stt⟩ := mi
    obtain ⟨hw, hst2, hin2, hsel⟩ := hJ rfl
    obtain ⟨m1, m2, m3, m4, m5, m6, m7, m8, m9, m10, m11, m12, m13⟩ := xM_ok hj hq
    dsimp only at hMet hlen
    have hini2 : ini2 = true := by rw [hin2]; rcases hkd with rfl | rfl <;> rfl
    have hstt : stt = false := by rw [hst2]; rcases hkd with rfl | rfl <;> rfl
    subst hini2; subst hstt
    have hret2 := m11 rfl
    subst hret2
    have hPre : ∀ U : State, U.heap = H → s.WarmedH U.vm → va_Pc (as.map (xup z sa)) (xPre al z D cy sa sv S) (as.map (xup z sa)).toArray U := fun U hU hW => ⟨rfl, xG_at hG h4 hU hW, by rw [hU]; exact h2, fun ha => by rw [hU]; exact (h3 ha).1⟩
    have hroomC : cells + (S1.1.length - S.1.length) ≤ R.cells ∧ slots + (xsz S1 - xsz S) ≤ R.slots := by
      have q1 := (hgm _ _ _ _ h).1; have q2 := (hgm _ _ _ _ h).2; have q3 := hlt.1; have q4 := hlt.2
      exact ⟨by omega, by omega⟩
    have hsum : 2 * (F0 m pc lsM (st.map (xup z sa))).monitorRoom + ((r.map (xup z sa)).map fun v => v.category).sum ≤ 8 := by
      have e : ((r.map (xup z sa)).map fun v => v.category) = (r.map fun v => v.category) := by rw [List.map_map]; exact List.map_congr_left fun v _ => xup_cat z sa v
      rw [e]
      have e2 : (F0 m pc lsM (st.map (xup z sa))).monitorRoom = 0 := rfl
      omega
    subst has
    have hstack : (F0 m pc lsM (st.map (xup z sa))).stack = (as'.map (xup z sa)).reverse ++ .ref (z + a) :: r.map (xup z sa) := by
      show st.map (xup z sa) = _
      rw [hst]; simp [xup]
    have hn8 : (parseMethodDescriptor y.desc).map (fun d => d.parameters.length) = some (n - 1) := by rw [m8]; rfl
    have hlen' : (as'.map (xup z sa)).length = n - 1 := by rw [List.length_map]; have : as'.length + 1 = n := hlen; omega
    have hR2 : (xroom d (S1.1.length - S.1.length) (xsz S1 - xsz S)).frames + 1 ≤ R.frames ∧ 8 + (ml + 11) + (xroom d (S1.1.length - S.1.length) (xsz S1 - xsz S)).locals ≤ R.locals := ⟨by show d + 8 + 1 ≤ _; omega, by show 8 + (ml + 11) + (60 * d + 400) ≤ _; omega⟩
    have hdec : decode cc (F0 m pc lsM (st.map (xup z sa))).pc = .ok (.invokespecial k0, 3) := hd
    rcases hw with ⟨-, hw⟩ | ⟨-, hw⟩
    · have cw := cwI (s := s) (R := R) (args := args) (own := xNm o) (index := k0) (rm := xroom d (S1.1.length - S.1.length) (xsz S1 - xsz S)) (mc := S1.1.length - S.1.length) (ms := xsz S1 - xsz S) (n - 1) hts (xgood (xws_in m1)) rfl rfl rfl (hts _ m4) (hts _ hw) (hts _ (m3 rfl)) (m10 rfl) ⟨m7.1, m7.2, hn8⟩ hR2
      refine xr_cont (va_runI (As := as'.map (xup z sa)) (rest := r.map (xup z sa)) ⟨hx, hb, hml, hown, hts⟩ hMet cw ⟨xPre_blind, hPre⟩ rfl hlen' (by show lsM.size = nL; exact h5.1) hstack hsum hdec hroomC) h4 fun H1 locs1 hP1 hal1 hS1 => ?_
      have hh := hgo _ _ _ _ h H1 locs1 (cells + (S1.1.length - S.1.length)) (slots + (xsz S1 - xsz S)) lsM h1 hP1 (fun ha => ⟨hal1 ha, by have q1 := hal1 ha; have q2 := h3 ha; have q3 := hlt.1; omega⟩) hS1 h5 (by have q3 := hlt.1; omega) (by have q3 := hlt.2; omega)
      exact hh
    · have cw := va_cnB (s := s) (R := R) (args := args) (own := xNm o) (host := "RhymeRing") (index := k0) (rm := xroom d (S1.1.length - S.1.length) (xsz S1 - xsz S)) (mc := S1.1.length - S.1.length) (ms := xsz S1 - xsz S) (n - 1) hts (xgood (xws_in m1)) rfl rfl rfl (hG.2.1 _ hw) (hts _ m4) ⟨m7.1, m7.2, hn8⟩ hR2
      refine xr_cont (va_runIN (As := as'.map (xup z sa)) (rest := r.map (xup z sa)) ⟨hx, hb, hml, hown, hts⟩ hMet ⟨cw, m10 rfl, hts _ (m3 rfl)⟩ ⟨xPre_blind, hPre⟩ rfl hlen' (by show lsM.size = nL; exact h5.1) hstack hsum hdec hroomC) h4 fun H1 locs1 hP1 hal1 hS1 => ?_
      have hh := hgo _ _ _ _ h H1 locs1 (cells + (S1.1.length - S.1.length)) (slots + (xsz S1 - xsz S)) lsM h1 hP1 (fun ha => ⟨hal1 ha, by have q1 := hal1 ha; have q2 := h3 ha; have q3 := hlt.1; omega⟩) hS1 h5 (by have q3 := hlt.1; omega) (by have q3 := hlt.2; omega)
      exact hh
  · cases h
set_option maxRecDepth 100000 in
theorem xs_invokeobj {k0 : Nat} (X : xCx p R s m args meth c z D cy sa sv o cc ret ini nL C Sl) (hgo : ∀ pc ls st S, go pc ls st S = some rS → xGoT p l e R s m args below meth c Q al z D cy sa nL C Sl rS pc ls st S) (hk : xlk o k0 = some [2]) (hd : decode cc pc = .ok (.invokespecial k0, 3)) (h : xstep al o ret ini go call (.invokespecial k0) 3 pc ls st S = some rS) : xGoT p l e R s m args below meth c Q al z D cy sa nL C Sl rS pc ls st S := by
  obtain ⟨hx, hb, hml, hown, hts, hG, hini, hRf, hRl, hCR, hSR, hrt, hlk⟩ := X
  intro H locs cells slots lsM h1 h2 h3 h4 h5 h6 h7
  simp only [xstep] at h
  rw [hk] at h
  simp only at h
  have h0 := xR1_some h; clear h; obtain ⟨a, r, rfl, h⟩ := h0
  have h0 := xif_some h; clear h; obtain ⟨hsm, h⟩ := h0
  exact W.objInit hx hb hown (hts _ (xO_ok hk)) (hts _ xobj1) (hts _ xobj2) rfl (by show lsM.size = c.maxLocals; rw [hml]; exact h5.1) rfl hd (by omega) (by
    have e : ((r.map (xup z sa)).map fun v => v.category) = (r.map fun v => v.category) := by rw [List.map_map]; exact List.map_congr_left fun v _ => xup_cat z sa v
    rw [e]
    have e2 : (F0 m pc lsM ((.ref a :: r).map (xup z sa))).monitorRoom = 0 := rfl
    omega) (hgo _ _ _ _ h H locs cells slots lsM h1 h2 h3 h4 h5 h6 h7)
set_option maxRecDepth 100000 in
theorem xs_invokevirtual_u {k0 j1 j2 : Nat} (X : xCx p R s m args meth c z D cy sa sv o cc ret ini nL C Sl) (hgo : ∀ pc ls st S, go pc ls st S = some rS → xGoT p l e R s m args below meth c Q al z D cy sa nL C Sl rS pc ls st S) (hk : xlk o k0 = some [3, j1, j2]) (hcall : ∀ j as S v S1, call j as S = some (v, S1) → xCall l R al z D cy sa sv j as S v S1) (hgm : ∀ pc ls st S, go pc ls st S = some rS → xlater S rS.2) (hd : decode cc pc = .ok (.invokevirtual k0, 3)) (h : xstep al o ret ini go call (.invokevirtual k0) 3 pc ls st S = some rS) : xGoT p l e R s m args below meth c Q al z D cy sa nL C Sl rS pc ls st S := by
  obtain ⟨hx, hb, hml, hown, hts, hG, hini, hRf, hRl, hCR, hSR, hrt, hlk⟩ := X
  intro H locs cells slots lsM h1 h2 h3 h4 h5 h6 h7
  simp only [xstep] at h
  rw [hk] at h
  simp only at h
  have h0 := xpop_some h; clear h; obtain ⟨as, r, hst, hlen, h⟩ := h0
  have h0 := xthis_some h; clear h; obtain ⟨a, as', t, nn, has, ha, h⟩ := h0
  have h0 := xif_some h; clear h; obtain ⟨⟨ht, hsm⟩, h⟩ := h0
  split at h
  · rename_i v S1 hc
    obtain ⟨hlt, hj0, d, hd1, hd2, hlen0, hMet⟩ := hcall _ _ _ _ _ hc
    generalize hj : (if t = 7 then j1 else j2) = j at hMet hlen0 hj0
    have hn9 : j ≠ 9999 := by omega
    generalize hq : xMI j = mi at hMet hlen0
    obtain ⟨o', n, ml, y, code, ret2, ini2, stt⟩ := mi
    obtain ⟨hj9, hstt, hini2, har, x, hw1, hw2, hw3, hw4, hn8⟩ := xV_all hk ht hj hn9 hq
    obtain ⟨m1, -, m3, m4, m5, m6, m7, m8, m9, m10, -, m12, m13⟩ := xM_ok hj9 hq
    dsimp only at hMet hlen0
    subst hstt; subst hini2
    have ht12 : t < 12 := by omega
    have he := xW_get (z := z) (cy := cy) ha
    rw [xce_obj (by omega)] at he
    have hrecv := va_recv hG.1 h2 (xcl_at ht12) he
    rw [(xC_ok ht12).2.1] at hrecv
    have hPre : ∀ U : State, U.heap = H → s.WarmedH U.vm → va_Pc (as.map (xup z sa)) (xPre al z D cy sa sv S) (as.map (xup z sa)).toArray U := fun U hU hW => ⟨rfl, xG_at hG h4 hU hW, by rw [hU]; exact h2, fun ha => by rw [hU]; exact (h3 ha).1⟩
    have hroomC : cells + (S1.1.length - S.1.length) ≤ R.cells ∧ slots + (xsz S1 - xsz S) ≤ R.slots := by
      have q1 := (hgm _ _ _ _ h).1; have q2 := (hgm _ _ _ _ h).2; have q3 := hlt.1; have q4 := hlt.2
      exact ⟨by omega, by omega⟩
    have hsum : 2 * (F0 m pc lsM (st.map (xup z sa))).monitorRoom + ((r.map (xup z sa)).map fun v => v.category).sum ≤ 8 := by
      have e : ((r.map (xup z sa)).map fun v => v.category) = (r.map fun v => v.category) := by rw [List.map_map]; exact List.map_congr_left fun v _ => xup_cat z sa v
      rw [e]
      have e2 : (F0 m pc lsM (st.map (xup z sa))).monitorRoom = 0 := rfl
      omega
    subst has
    have hstack : (F0 m pc lsM (st.map (xup z sa))).stack = (as'.map (xup z sa)).reverse ++ .ref (z + a) :: r.map (xup z sa) := by
      show st.map (xup z sa) = _
      rw [hst]; simp [xup]
    have hlen' : (as'.map (xup z sa)).length = n - 1 := by rw [List.length_map]; have : as'.length + 1 = n := hlen0; omega
    have hR2 : (xroom d (S1.1.length - S.1.length) (xsz S1 - xsz S)).frames + 1 ≤ R.frames ∧ 8 + (ml + 11) + (xroom d (S1.1.length - S.1.length) (xsz S1 - xsz S)).locals ≤ R.locals := ⟨by show d + 8 + 1 ≤ _; omega, by show 8 + (ml + 11) + (60 * d + 400) ≤ _; omega⟩
    have hdec : decode cc (F0 m pc lsM (st.map (xup z sa))).pc = .ok (.invokevirtual k0, 3) := hd
    have cw := va_cwA (s := s) (R := R) (args := args) (own := xNm o) (C := xNm t) (owner := RX5) (index := k0) (x := x) (y := y) (rm := xroom d (S1.1.length - S.1.length) (xsz S1 - xsz S)) (mc := S1.1.length - S.1.length) (ms := xsz S1 - xsz S) (n - 1) hts (xgood (ws := va_wsU (xNm o) k0 (xNm t) RX5 x y (xws y code ml ret2)) (fun w hw' => by
        rcases List.mem_append.mp hw' with hw' | hw'
        · simp only [List.mem_cons, List.not_mem_nil, or_false] at hw'
          rcases hw' with rfl | rfl | rfl | rfl | rfl
          · exact hw1
          · exact hw2
          · exact hw3
          · exact m3 rfl
          · exact m4
        · exact xws_in m1 w hw')) rfl rfl rfl (hG.2.1 _ hw4) ⟨by decide, by decide, hn8⟩ hR2
    refine xr_cont (va_runU (As := as'.map (xup z sa)) (rest := r.map (xup z sa)) ⟨hx, hb, hml, hown, hts⟩ hMet cw ⟨xPre_blind, hrecv, hPre⟩ rfl hlen' (by show lsM.size = nL; exact h5.1) hstack hsum hdec hroomC) h4 fun H1 locs1 hP1 hal1 hS1 => ?_
    have hh := hgo _ _ _ _ h H1 locs1 (cells + (S1.1.length - S.1.length)) (slots + (xsz S1 - xsz S)) lsM h1 hP1 (fun ha => ⟨hal1 ha, by have q1 := hal1 ha; have q2 := h3 ha; have q3 := hlt.1; omega⟩) hS1 h5 (by have q3 := hlt.1; omega) (by have q3 := hlt.2; omega)
    rw [List.map_append] at hh
    cases v <;> exact hh
  · cases h
theorem xce_new {z : Nat} {cy : Nat → ClassId} {S : xS} {t n : Nat} : ∀ b, b ≠ S.1.length → ∀ p, xce z cy (xNew S t n) b p = xce z cy S b p := by
  intro b hb p
  have e1 : (xNew S t n).2.1 b = S.2.1 b := by unfold xNew; simp only [if_neg hb]
  have e2 : (xNew S t n).2.2.1 b = S.2.2.1 b := by unfold xNew; simp only [if_neg hb]
  have e3 : (xNew S t n).2.2.2 b = S.2.2.2 b := by unfold xNew; simp only [if_neg hb]
  have e4 : ∀ ci, xfv z (xNew S t n) ci b = xfv z S ci b := fun ci => funext fun f => by unfold xfv; rw [e1, e2, e3]
  unfold xce xarr
  rw [e1, e2, e3, e4]
theorem xW_new {z : Nat} {cy : Nat → ClassId} {S : xS} {t n : Nat} {e : va_E} (he : e = xce z cy (xNew S t n) S.1.length (t, n)) : xW z cy S ++ [(z + S.1.length, e)] = xW z cy (xNew S t n) := by
  have hl : (xW z cy S).length = S.1.length := by unfold xW; simp
  apply List.ext_getElem?
  intro k
  rcases Nat.lt_trichotomy k S.1.length with hk | hk | hk
  · obtain ⟨p, hp⟩ : ∃ p, S.1[k]? = some p := ⟨_, List.getElem?_eq_getElem hk⟩
    rw [List.getElem?_append_left (by omega), xW_get hp, xW_get (S := xNew S t n) (q := p) (by unfold xNew; simp only; rw [List.getElem?_append_left hk]; exact hp), xce_new k (by omega)]
  · subst hk
    rw [List.getElem?_append_right (by omega), hl, Nat.sub_self, xW_get (S := xNew S t n) (q := (t, n)) (by unfold xNew; simp), he]
    rfl
  · have hl2 : (xW z cy (xNew S t n)).length = S.1.length + 1 := by unfold xW xNew; simp
    rw [List.getElem?_eq_none (by rw [List.length_append, hl]; simp; omega), List.getElem?_eq_none (by omega)]
theorem xfresh {z : Nat} {D : va_G} {cy : Nat → ClassId} {S : xS} {H1 : Heap} {q : Nat} {e : va_E} (hP1 : va_P D vwCl (xW z cy S ++ [(q, e)]) H1) (hD1 : va_D (fun q => z ≤ q) (xW z cy S ++ [(q, e)])) (hsz : H1.size ≤ z + S.1.length + 1) : q = z + S.1.length ∧ H1.size = z + S.1.length + 1 := by
  have hl : (xW z cy S).length = S.1.length := by unfold xW; simp
  have hi : (xW z cy S ++ [(q, e)])[S.1.length]? = some (q, e) := by rw [List.getElem?_append_right (by omega), hl, Nat.sub_self]; rfl
  have h1 : q < H1.size := (hP1 _ _ hi).lt
  have h2 : z ≤ q := hD1.2 _ _ hi
  have h3 : ¬ q < z + S.1.length := by
    intro h
    obtain ⟨p, hp⟩ : ∃ p, S.1[q - z]? = some p := ⟨_, List.getElem?_eq_getElem (by omega)⟩
    have hj : (xW z cy S ++ [(q, e)])[q - z]? = some (z + (q - z), xce z cy S (q - z) p) := by rw [List.getElem?_append_left (by omega)]; exact xW_get hp
    have := hD1.1 _ _ _ _ hj hi (by show z + (q - z) = q; omega)
    omega
  omega
theorem xsz_new (S : xS) (t n : Nat) : xsz (xNew S t n) = xsz S + n := by unfold xsz xNew; simp
theorem xlen_new (S : xS) (t n : Nat) : (xNew S t n).1.length = S.1.length + 1 := by unfold xNew; simp
set_option maxRecDepth 100000 in
theorem xs_new {k0 : Nat} (X : xCx p R s m args meth c z D cy sa sv o cc ret ini nL C Sl) (hgo : ∀ pc ls st S, go pc ls st S = some rS → xGoT p l e R s m args below meth c Q al z D cy sa nL C Sl rS pc ls st S) (hgm : ∀ pc ls st S, go pc ls st S = some rS → xlater S rS.2) (hd : decode cc pc = .ok (.new k0, 3)) (h : xstep al o ret ini go call (.new k0) 3 pc ls st S = some rS) : xGoT p l e R s m args below meth c Q al z D cy sa nL C Sl rS pc ls st S := by
  obtain ⟨hx, hb, hml, hown, hts, hG, hini, hRf, hRl, hCR, hSR, hrt, hlk⟩ := X
  intro H locs cells slots lsM h1 h2 h3 h4 h5 h6 h7
  simp only [xstep] at h
  split at h
  · rename_i ci hk
    have h0 := xif_some h; clear h; obtain ⟨hal, h⟩ := h0
    obtain ⟨hci, hcl⟩ := xN_ok hk
    obtain ⟨c1, c2, c3, c4, c5⟩ := xC_ok hci
    obtain ⟨hm1, hm2⟩ := hgm _ _ _ _ h
    rw [xlen_new] at hm1
    rw [xsz_new] at hm2
    have hfs : ∀ j, j < (xcl ci).2.2 → defaultValue (xty ci j) = vp_V ((List.range (xnf ci)).map (xfv z (xNew S ci (xnf ci)) ci S.1.length)) j := by
      intro j hj
      rw [c1] at hj
      obtain ⟨-, c7, -⟩ := c5 j hj
      unfold vp_V
      rw [List.getD_eq_getElem?_getD, List.getElem?_map, List.getElem?_range hj]
      simp only [Option.map_some, Option.getD_some]
      unfold xfv xNew
      simp only [if_true]
      by_cases t1 : xtg ci j = 1
      · rw [if_pos t1]; rw [t1] at c7; cases hq : xty ci j <;> rw [hq] at c7 <;> first | (cases c7; done) | rfl
      · rw [if_neg t1]
        by_cases t2 : xtg ci j = 2
        · rw [if_pos t2]; rw [t2] at c7; cases hq : xty ci j <;> rw [hq] at c7 <;> first | (cases c7; done) | rfl
        · rw [if_neg t2]
          cases hq : xty ci j <;> rw [hq] at c7 <;> first | rfl | (unfold xtyc at c7; split at c7 <;> first | (cases c7; done) | (rename_i w1 w2 _ _; first | (exact absurd w2 t2) | (exact absurd w1 t1) | contradiction))
    refine va_new (C := (xcl ci).1) (T := (xcl ci).2.1) (N := (xcl ci).2.2) hx hb hts (xin_all hci) (xty ci) (fun k hk => (c5 k (by rw [← c1]; exact hk)).1) hown (hts _ hcl) (hts _ c3) (hts _ c4) hG.1 h2 (xW_D z cy S) h4 (fun q hq => Nat.le_trans hG.2.2.2.2.2.2.2.1 hq) (xcl_at hci) hfs (by omega) (by rw [c1]; omega) hd (fun q H1 hP1 hD1 hS1 => ?_)
    refine xW_size fun hsz => ?_
    obtain ⟨g1, g2⟩ := h3 hal
    obtain ⟨rfl, hsz2⟩ := xfresh hP1 hD1 (by omega)
    rw [xW_new (t := ci) (n := xnf ci) (by rw [xce_obj (by omega)])] at hP1
    exact hgo _ _ _ _ h H1 locs (cells + 1) (slots + (xcl ci).2.2) lsM h1 hP1 (fun _ => ⟨by rw [xlen_new]; omega, by omega⟩) hS1 h5 (by rw [xlen_new]; omega) (by rw [xsz_new, c1]; omega)
  · cases h
set_option maxRecDepth 100000 in
theorem xs_newarray {aa : ArrayType} (X : xCx p R s m args meth c z D cy sa sv o cc ret ini nL C Sl) (hgo : ∀ pc ls st S, go pc ls st S = some rS → xGoT p l e R s m args below meth c Q al z D cy sa nL C Sl rS pc ls st S) (hgm : ∀ pc ls st S, go pc ls st S = some rS → xlater S rS.2) (hd : decode cc pc = .ok (.newarray aa, 2)) (h : xstep al o ret ini go call (.newarray aa) 2 pc ls st S = some rS) : xGoT p l e R s m args below meth c Q al z D cy sa nL C Sl rS pc ls st S := by
  obtain ⟨hx, hb, hml, hown, hts, hG, hini, hRf, hRl, hCR, hSR, hrt, hlk⟩ := X
  intro H locs cells slots lsM h1 h2 h3 h4 h5 h6 h7
  simp only [xstep] at h
  have h0 := xI1_some h; clear h; obtain ⟨n, r, rfl, h⟩ := h0
  have h0 := xif_some h; clear h; obtain ⟨⟨hal, hn, hn2, ht⟩, h⟩ := h0
  obtain ⟨hm1, hm2⟩ := hgm _ _ _ _ h
  rw [xlen_new] at hm1
  rw [xsz_new] at hm2
  cases aa with
  | int =>
    refine va_newa (atype := .int) (a0 := xarr z (xNew S 20 n.toNatClampNeg) S.1.length 20 n.toNatClampNeg) hx hb (hts _ xarr_i) rfl hG.1 h2 (xW_D z cy S) h4 (fun q hq => Nat.le_trans hG.2.2.2.2.2.2.2.1 hq) (fun cA => by unfold xarr xNew; simp only [if_true]; rfl) hn rfl (by show n.toNatClampNeg * _ ≤ _; simp only [componentBytes, newarray.typeOf]; omega) (by omega) (by omega) hd (fun q cA H1 hK1 hP1 hD1 hS1 => ?_)
    have hcA : cA = cy 20 := Option.some.inj ((hK1.2 8 (cA, .int) rfl).2.symm.trans (hG.1.2 0 (cy 20, .int) rfl).2)
    subst hcA
    refine xW_size fun hsz => ?_
    obtain ⟨g1, g2⟩ := h3 hal
    obtain ⟨rfl, hsz2⟩ := xfresh hP1 hD1 (by omega)
    rw [xW_new (t := 20) (n := n.toNatClampNeg) (by rw [xce_arr (by omega)])] at hP1
    exact hgo _ _ _ _ h H1 locs (cells + 1) (slots + n.toNatClampNeg) lsM h1 hP1 (fun _ => ⟨by rw [xlen_new]; omega, by omega⟩) hS1 h5 (by rw [xlen_new]; omega) (by rw [xsz_new]; omega)
  | char =>
    refine va_newa (atype := .char) (a0 := xarr z (xNew S 21 n.toNatClampNeg) S.1.length 21 n.toNatClampNeg) hx hb (hts _ xarr_c) rfl hG.1 h2 (xW_D z cy S) h4 (fun q hq => Nat.le_trans hG.2.2.2.2.2.2.2.1 hq) (fun cA => by unfold xarr xNew; simp only [if_true]; rfl) hn rfl (by show n.toNatClampNeg * _ ≤ _; simp only [componentBytes, newarray.typeOf]; omega) (by omega) (by omega) hd (fun q cA H1 hK1 hP1 hD1 hS1 => ?_)
    have hcA : cA = cy 21 := Option.some.inj ((hK1.2 8 (cA, .char) rfl).2.symm.trans (hG.1.2 1 (cy 21, .char) rfl).2)
    subst hcA
    refine xW_size fun hsz => ?_
    obtain ⟨g1, g2⟩ := h3 hal
    obtain ⟨rfl, hsz2⟩ := xfresh hP1 hD1 (by omega)
    rw [xW_new (t := 21) (n := n.toNatClampNeg) (by rw [xce_arr (by omega)])] at hP1
    exact hgo _ _ _ _ h H1 locs (cells + 1) (slots + n.toNatClampNeg) lsM h1 hP1 (fun _ => ⟨by rw [xlen_new]; omega, by omega⟩) hS1 h5 (by rw [xlen_new]; omega) (by rw [xsz_new]; omega)
  | byte =>
    refine va_newa (atype := .byte) (a0 := xarr z (xNew S 22 n.toNatClampNeg) S.1.length 22 n.toNatClampNeg) hx hb (hts _ xarr_b) rfl hG.1 h2 (xW_D z cy S) h4 (fun q hq => Nat.le_trans hG.2.2.2.2.2.2.2.1 hq) (fun cA => by unfold xarr xNew; simp only [if_true]; rfl) hn rfl (by show n.toNatClampNeg * _ ≤ _; simp only [componentBytes, newarray.typeOf]; omega) (by omega) (by omega) hd (fun q cA H1 hK1 hP1 hD1 hS1 => ?_)
    have hcA : cA = cy 22 := Option.some.inj ((hK1.2 8 (cA, .byte) rfl).2.symm.trans (hG.1.2 2 (cy 22, .byte) rfl).2)
    subst hcA
    refine xW_size fun hsz => ?_
    obtain ⟨g1, g2⟩ := h3 hal
    obtain ⟨rfl, hsz2⟩ := xfresh hP1 hD1 (by omega)
    rw [xW_new (t := 22) (n := n.toNatClampNeg) (by rw [xce_arr (by omega)])] at hP1
    exact hgo _ _ _ _ h H1 locs (cells + 1) (slots + n.toNatClampNeg) lsM h1 hP1 (fun _ => ⟨by rw [xlen_new]; omega, by omega⟩) hS1 h5 (by rw [xlen_new]; omega) (by rw [xsz_new]; omega)
  | boolean =>
    refine va_newa (atype := .boolean) (a0 := xarr z (xNew S 23 n.toNatClampNeg) S.1.length 23 n.toNatClampNeg) hx hb (hts _ xarr_z) rfl hG.1 h2 (xW_D z cy S) h4 (fun q hq => Nat.le_trans hG.2.2.2.2.2.2.2.1 hq) (fun cA => by unfold xarr xNew; simp only [if_true]; rfl) hn rfl (by show n.toNatClampNeg * _ ≤ _; simp only [componentBytes, newarray.typeOf]; omega) (by omega) (by omega) hd (fun q cA H1 hK1 hP1 hD1 hS1 => ?_)
    have hcA : cA = cy 23 := Option.some.inj ((hK1.2 8 (cA, .boolean) rfl).2.symm.trans (hG.1.2 3 (cy 23, .boolean) rfl).2)
    subst hcA
    refine xW_size fun hsz => ?_
    obtain ⟨g1, g2⟩ := h3 hal
    obtain ⟨rfl, hsz2⟩ := xfresh hP1 hD1 (by omega)
    rw [xW_new (t := 23) (n := n.toNatClampNeg) (by rw [xce_arr (by omega)])] at hP1
    exact hgo _ _ _ _ h H1 locs (cells + 1) (slots + n.toNatClampNeg) lsM h1 hP1 (fun _ => ⟨by rw [xlen_new]; omega, by omega⟩) hS1 h5 (by rw [xlen_new]; omega) (by rw [xsz_new]; omega)
  | _ => exact absurd ht (by decide)
set_option maxRecDepth 100000 in
theorem xs_anewarray {k0 : Nat} (X : xCx p R s m args meth c z D cy sa sv o cc ret ini nL C Sl) (hgo : ∀ pc ls st S, go pc ls st S = some rS → xGoT p l e R s m args below meth c Q al z D cy sa nL C Sl rS pc ls st S) (hgm : ∀ pc ls st S, go pc ls st S = some rS → xlater S rS.2) (hd : decode cc pc = .ok (.anewarray k0, 3)) (h : xstep al o ret ini go call (.anewarray k0) 3 pc ls st S = some rS) : xGoT p l e R s m args below meth c Q al z D cy sa nL C Sl rS pc ls st S := by
  obtain ⟨hx, hb, hml, hown, hts, hG, hini, hRf, hRl, hCR, hSR, hrt, hlk⟩ := X
  intro H locs cells slots lsM h1 h2 h3 h4 h5 h6 h7
  simp only [xstep] at h
  have h0 := xI1_some h; clear h; obtain ⟨n, r, rfl, h⟩ := h0
  split at h
  · rename_i ci hk
    have h0 := xif_some h; clear h; obtain ⟨⟨hal, hn, hn2, hci⟩, h⟩ := h0
    obtain ⟨-, hcl⟩ := xN_ok hk
    obtain ⟨hm1, hm2⟩ := hgm _ _ _ _ h
    rw [xlen_new] at hm1
    rw [xsz_new] at hm2
    rcases hci with rfl | rfl
    · rw [if_pos rfl] at h
      refine va_newq (C := RX3) hx hb hown (hts _ hcl) hG.2.2.2.2.2.1 hG.1 h2 (xW_D z cy S) h4 (fun q hq => Nat.le_trans hG.2.2.2.2.2.2.2.1 hq) hn rfl (by omega) (by omega) (by omega) hd (fun q cA H1 hK1 hP1 hD1 hS1 => ?_)
      have hcA : cA = cy 25 := by
        obtain ⟨_, _, _, _, _, w1⟩ := (hK1.2 8 (cA, .object RX3) rfl).2
        obtain ⟨_, _, _, _, _, w2⟩ := (hG.1.2 5 (cy 25, .object RX3) rfl).2
        exact Option.some.inj (w1.symm.trans w2)
      subst hcA
      refine xW_size fun hsz => ?_
      obtain ⟨g1, g2⟩ := h3 hal
      obtain ⟨rfl, hsz2⟩ := xfresh hP1 hD1 (by omega)
      rw [xW_new (t := 25) (n := n.toNatClampNeg) (by rw [xce_arr (by omega)]; unfold xarr xNew; simp only [if_true]; rfl)] at hP1
      exact hgo _ _ _ _ h H1 locs (cells + 1) (slots + n.toNatClampNeg) lsM h1 hP1 (fun _ => ⟨by rw [xlen_new]; omega, by omega⟩) hS1 h5 (by rw [xlen_new]; omega) (by rw [xsz_new]; omega)

    · rw [if_neg (by decide)] at h
      refine va_newq (C := RX1) hx hb hown (hts _ hcl) hG.2.2.2.2.2.2.1 hG.1 h2 (xW_D z cy S) h4 (fun q hq => Nat.le_trans hG.2.2.2.2.2.2.2.1 hq) hn rfl (by omega) (by omega) (by omega) hd (fun q cA H1 hK1 hP1 hD1 hS1 => ?_)
      have hcA : cA = cy 26 := by
        obtain ⟨_, _, _, _, _, w1⟩ := (hK1.2 8 (cA, .object RX1) rfl).2
        obtain ⟨_, _, _, _, _, w2⟩ := (hG.1.2 6 (cy 26, .object RX1) rfl).2
        exact Option.some.inj (w1.symm.trans w2)
      subst hcA
      refine xW_size fun hsz => ?_
      obtain ⟨g1, g2⟩ := h3 hal
      obtain ⟨rfl, hsz2⟩ := xfresh hP1 hD1 (by omega)
      rw [xW_new (t := 26) (n := n.toNatClampNeg) (by rw [xce_arr (by omega)]; unfold xarr xNew; simp only [if_true]; rfl)] at hP1
      exact hgo _ _ _ _ h H1 locs (cells + 1) (slots + n.toNatClampNeg) lsM h1 hP1 (fun _ => ⟨by rw [xlen_new]; omega, by omega⟩) hS1 h5 (by rw [xlen_new]; omega) (by rw [xsz_new]; omega)

  · cases h
theorem xlen_rows (S : xS) (n k : Nat) : (xrows S n k).1.length = S.1.length + 1 + n := by unfold xrows; simp; omega
theorem xsz_rows (S : xS) (n k : Nat) : xsz (xrows S n k) = xsz S + n + n * k := by
  unfold xsz xrows
  simp only [List.map_append, List.map_cons, List.map_replicate, List.sum_append, List.sum_cons, List.sum_replicate_nat]
  omega
theorem xlater_rf (S : xS) : xlater S S := ⟨Nat.le_refl _, Nat.le_refl _⟩
theorem xlater_tr {S S1 S2 : xS} (h : xlater S S1) (h1 : xlater S1 S2) : xlater S S2 := ⟨Nat.le_trans h.1 h1.1, Nat.le_trans h.2 h1.2⟩
theorem xlater_new (S : xS) (t n : Nat) : xlater S (xNew S t n) := ⟨by rw [xlen_new]; omega, by rw [xsz_new]; omega⟩
theorem xlater_rows (S : xS) (n k : Nat) : xlater S (xrows S n k) := ⟨by rw [xlen_rows]; omega, by rw [xsz_rows]; omega⟩
set_option maxHeartbeats 4000000 in
theorem xstep_mono {i : Instr} {len : Nat} (hgo : ∀ pc ls st S, go pc ls st S = some rS → xlater S rS.2) (hcall : ∀ j as S v S1, call j as S = some (v, S1) → xlater S S1) (h : xstep al o ret ini go call i len pc ls st S = some rS) : xlater S rS.2 := by
  unfold xstep at h
  split at h
  all_goals first
    | (have h9 := hgo _ _ _ _ h; exact h9)
    | (cases h; done)
    | (have h0 := xI1_some h; clear h; obtain ⟨_, _, rfl, h⟩ := h0; first
        | (have h9 := hgo _ _ _ _ h; exact h9)
        | (have h0 := xst1_some h; clear h; obtain ⟨_, _, h⟩ := h0; (have h9 := hgo _ _ _ _ h; exact h9))
        | (have h0 := xL1_some h; clear h; obtain ⟨_, _, rfl, h⟩ := h0; (have h9 := hgo _ _ _ _ h; exact h9))
        | (have h0 := xif_some h; clear h; obtain ⟨_, h⟩ := h0; exact xlater_tr (xlater_new _ _ _) (hgo _ _ _ _ h))
        | (have h0 := xjmp_some h; clear h; obtain ⟨_, _, h⟩ := h0; split at h <;> (have h9 := hgo _ _ _ _ h; exact h9))
        | (have h0 := xif_some h; clear h; obtain ⟨_, h⟩ := h0; have h0 := xjmp_some h; clear h; obtain ⟨_, _, h⟩ := h0; (have h9 := hgo _ _ _ _ h; exact h9))
        | (split at h
           · have h0 := xjmp_some h; clear h; obtain ⟨_, _, h⟩ := h0; (have h9 := hgo _ _ _ _ h; exact h9)
           · split at h
             · have h0 := xjmp_some h; clear h; obtain ⟨_, _, h⟩ := h0; (have h9 := hgo _ _ _ _ h; exact h9)
             · cases h)
        | (split at h
           · have h0 := xif_some h; clear h; obtain ⟨_, h⟩ := h0; exact xlater_tr (xlater_new _ _ _) (hgo _ _ _ _ h)
           · cases h)
        | (have h0 := xI1_some h; clear h; obtain ⟨_, _, rfl, h⟩ := h0
           split at h
           · have h0 := xif_some h; clear h; obtain ⟨_, h⟩ := h0; exact xlater_tr (xlater_rows _ _ _) (hgo _ _ _ _ h)
           · cases h))
    | (have h0 := xI2_some h; clear h; obtain ⟨_, _, _, rfl, h⟩ := h0; first
        | (have h9 := hgo _ _ _ _ h; exact h9)
        | (have h0 := xifn_some h; clear h; obtain ⟨_, h⟩ := h0; (have h9 := hgo _ _ _ _ h; exact h9))
        | (have h0 := xjmp_some h; clear h; obtain ⟨_, _, h⟩ := h0; split at h <;> (have h9 := hgo _ _ _ _ h; exact h9)))
    | (have h0 := xL2_some h; clear h; obtain ⟨_, _, _, rfl, h⟩ := h0; first
        | (have h9 := hgo _ _ _ _ h; exact h9)
        | (have h0 := xifn_some h; clear h; obtain ⟨_, h⟩ := h0; (have h9 := hgo _ _ _ _ h; exact h9)))
    | (have h0 := xL1_some h; clear h; obtain ⟨_, _, rfl, h⟩ := h0; have h0 := xst2_some h; clear h; obtain ⟨_, _, h⟩ := h0; (have h9 := hgo _ _ _ _ h; exact h9))
    | (have h0 := xld_some h; clear h; obtain ⟨_, _, h⟩ := h0; first
        | (have h0 := xif_some h; clear h; obtain ⟨_, h⟩ := h0; (have h9 := hgo _ _ _ _ h; exact h9))
        | (have h0 := xI1_some h; clear h; obtain ⟨_, _, _, h⟩ := h0; first
            | (have h9 := hgo _ _ _ _ h; exact h9)
            | (have h0 := xst1_some h; clear h; obtain ⟨_, _, h⟩ := h0; (have h9 := hgo _ _ _ _ h; exact h9)))
        | (have h0 := xL1_some h; clear h; obtain ⟨_, _, _, h⟩ := h0; (have h9 := hgo _ _ _ _ h; exact h9)))
    | (have h0 := xR1_some h; clear h; obtain ⟨_, _, rfl, h⟩ := h0; first
        | (split at h
           · have h0 := xif_some h; clear h; obtain ⟨_, h⟩ := h0; (have h9 := hgo _ _ _ _ h; exact h9)
           · cases h))
    | (have h0 := xald_some h; clear h; obtain ⟨_, _, _, _, _, rfl, _, _, h⟩ := h0; have h0 := xif_some h; clear h; obtain ⟨_, h⟩ := h0; (have h9 := hgo _ _ _ _ h; exact h9))
    | (have h0 := xast_some h; clear h; obtain ⟨_, _, _, _, _, _, rfl, _, _, h⟩ := h0; first
        | (have h0 := xif_some h; clear h; obtain ⟨_, h⟩ := h0; have h0 := xI1_some h; clear h; obtain ⟨_, _, _, h⟩ := h0; (have h9 := hgo _ _ _ _ h; exact h9))
        | (have h0 := xR1_some h; clear h; obtain ⟨_, _, _, h⟩ := h0; have h0 := xif_some h; clear h; obtain ⟨_, h⟩ := h0; (have h9 := hgo _ _ _ _ h; exact h9))
        | (split at h
           · have h0 := xI1_some h; clear h; obtain ⟨_, _, _, h⟩ := h0; (have h9 := hgo _ _ _ _ h; exact h9)
           · have h0 := xif_some h; clear h; obtain ⟨_, h⟩ := h0; have h0 := xI1_some h; clear h; obtain ⟨_, _, _, h⟩ := h0; (have h9 := hgo _ _ _ _ h; exact h9)))
    | (have h0 := xV1_some h; clear h; obtain ⟨_, _, rfl, h⟩ := h0; first
        | (have h0 := xif_some h; clear h; obtain ⟨_, h⟩ := h0; first
            | (have h9 := hgo _ _ _ _ h; exact h9)
            | (have h0 := xst1_some h; clear h; obtain ⟨_, _, h⟩ := h0; (have h9 := hgo _ _ _ _ h; exact h9)))
        | (have h0 := xjmp_some h; clear h; obtain ⟨_, _, h⟩ := h0; split at h <;> first | (have h9 := hgo _ _ _ _ h; exact h9) | cases h)
        | (have h0 := xV1_some h; clear h; obtain ⟨_, _, rfl, h⟩ := h0; have h0 := xif_some h; clear h; obtain ⟨_, h⟩ := h0; (have h9 := hgo _ _ _ _ h; exact h9))
        | (have h0 := xR1_some h; clear h; obtain ⟨_, _, rfl, h⟩ := h0
           split at h
           · have h0 := xif_some h; clear h; obtain ⟨_, h⟩ := h0
             split at h <;> first | (have h0 := xif_some h; clear h; obtain ⟨_, h⟩ := h0; (have h9 := hgo _ _ _ _ h; exact h9)) | cases h
           · cases h))
    | (have h0 := xjmp_some h; clear h; obtain ⟨_, _, h⟩ := h0; (have h9 := hgo _ _ _ _ h; exact h9))
    | (unfold xretI at h; split at h <;> first | (have h0 := xif_some h; clear h; obtain ⟨_, h⟩ := h0; cases h; exact xlater_rf _) | cases h)
    | (unfold xretL at h; split at h <;> first | (cases h; exact xlater_rf _) | cases h)
    | (unfold xretA at h; split at h <;> first | (have h0 := xif_some h; clear h; obtain ⟨_, h⟩ := h0; cases h; exact xlater_rf _) | cases h)
    | (unfold xretV at h; split at h <;> first | (cases h; exact xlater_rf _) | cases h)
    | (split at h <;> first | (have h9 := hgo _ _ _ _ h; exact h9) | (cases h; done) | (have h0 := xif_some h; clear h; obtain ⟨_, h⟩ := h0; exact xlater_tr (xlater_new _ _ _) (hgo _ _ _ _ h)))
    | (split at h
       all_goals first
         | (cases h; done)
         | (have h0 := xR1_some h; clear h; obtain ⟨_, _, rfl, h⟩ := h0; have h0 := xif_some h; clear h; obtain ⟨_, h⟩ := h0; (have h9 := hgo _ _ _ _ h; exact h9))
         | (have h0 := xI2_some h; clear h; obtain ⟨_, _, _, rfl, h⟩ := h0; have h0 := xif_some h; clear h; obtain ⟨_, h⟩ := h0; (have h9 := hgo _ _ _ _ h; exact h9))
         | (have h0 := xL2_some h; clear h; obtain ⟨_, _, _, rfl, h⟩ := h0; have h0 := xif_some h; clear h; obtain ⟨_, h⟩ := h0; (have h9 := hgo _ _ _ _ h; exact h9))
         | (split at h <;> first | (have h0 := xif_some h; clear h; obtain ⟨_, h⟩ := h0; (have h9 := hgo _ _ _ _ h; exact h9)) | (cases h; done))
         | (split at h <;> first | (have h9 := hgo _ _ _ _ h; exact h9) | (have h0 := xifn_some h; clear h; obtain ⟨_, h⟩ := h0; (have h9 := hgo _ _ _ _ h; exact h9)) | (cases h; done))
         | (have h0 := xif_some h; clear h; obtain ⟨_, h⟩ := h0
            have h0 := xpop_some h; clear h; obtain ⟨_, _, _, _, h⟩ := h0
            first
              | (have h0 := xif_some h; clear h; obtain ⟨_, h⟩ := h0
                 split at h
                 · rename_i hc; exact xlater_tr (hcall _ _ _ _ _ hc) (hgo _ _ _ _ h)
                 · cases h)
              | (have h0 := xthis_some h; clear h; obtain ⟨_, _, _, _, _, _, h⟩ := h0
                 have h0 := xif_some h; clear h; obtain ⟨_, h⟩ := h0
                 split at h
                 · rename_i hc; exact xlater_tr (hcall _ _ _ _ _ hc) (hgo _ _ _ _ h)
                 · cases h))
         | (have h0 := xpop_some h; clear h; obtain ⟨_, _, _, _, h⟩ := h0
            have h0 := xthis_some h; clear h; obtain ⟨_, _, _, _, _, _, h⟩ := h0
            have h0 := xif_some h; clear h; obtain ⟨_, h⟩ := h0
            split at h
            · rename_i hc; exact xlater_tr (hcall _ _ _ _ _ hc) (hgo _ _ _ _ h)
            · cases h))
def xroomS : Room := { frames := 6, cells := 0, slots := 0, locals := 300 }
def xHl (l : Launch) (al : Bool) (z : Nat) (D : va_G) (cy : Nat → ClassId) (sa sv : Nat → Nat) : Prop := ∀ k S, k < 9 → Met l yJ0_length_8abf5 (xws yJ0_length_8abf5 cJ0_length_8abf5 1 (some .int)) xroomS (va_Pc [.ref (sa k)] (xPre al z D cy sa sv S)) (xQ al z D cy sa (some (.int (Int32.ofNat (xStr k).length))) S) 0 0 (fun q => z ≤ q)
def xHc (l : Launch) (al : Bool) (z : Nat) (D : va_G) (cy : Nat → ClassId) (sa sv : Nat → Nat) : Prop := ∀ k S (i : Int32), k < 9 → vp_in i (xStr k).length → Met l yJ0_charAt_5068e (xws yJ0_charAt_5068e cJ0_charAt_5068e 2 (some .char)) xroomS (va_Pc [.ref (sa k), .int i] (xPre al z D cy sa sv S)) (xQ al z D cy sa (some (.int (Int32.ofNat ((xStr k).getD i.toNatClampNeg 0)))) S) 0 0 (fun q => z ≤ q)
set_option maxRecDepth 100000 in
theorem xs_invokevirtual_l {k0 : Nat} (X : xCx p R s m args meth c z D cy sa sv o cc ret ini nL C Sl) (hgo : ∀ pc ls st S, go pc ls st S = some rS → xGoT p l e R s m args below meth c Q al z D cy sa nL C Sl rS pc ls st S) (hk : xlk o k0 = some [4]) (hHl : xHl l al z D cy sa sv) (hgm : ∀ pc ls st S, go pc ls st S = some rS → xlater S rS.2) (hd : decode cc pc = .ok (.invokevirtual k0, 3)) (h : xstep al o ret ini go call (.invokevirtual k0) 3 pc ls st S = some rS) : xGoT p l e R s m args below meth c Q al z D cy sa nL C Sl rS pc ls st S := by
  obtain ⟨hx, hb, hml, hown, hts, hG, hini, hRf, hRl, hCR, hSR, hrt, hlk⟩ := X
  intro H locs cells slots lsM h1 h2 h3 h4 h5 h6 h7
  simp only [xstep] at h
  rw [hk] at h
  simp only at h
  split at h
  · rename_i s0 r
    have h0 := xif_some h; clear h; obtain ⟨⟨hs, hsm⟩, h⟩ := h0
    have hw1 : Cond.methodLink (xNm o) k0 yJ0_length_8abf5 ∈ xAL := xSl_ok hk
    have cw := cwV (s := s) (R := R) (args := args) (own := xNm o) (index := k0) (rm := xroomS) (mc := 0) (ms := 0) 0 hts (xgood (ws := wsV (xNm o) k0 RJ0 yJ0_length_8abf5 (xws yJ0_length_8abf5 cJ0_length_8abf5 1 (some .int))) (fun w hw' => by
        rcases List.mem_append.mp hw' with hw' | hw'
        · simp only [List.mem_cons, List.not_mem_nil, or_false] at hw'
          rcases hw' with rfl | rfl | rfl | rfl
          · exact hw1
          · exact xstr_l_i
          · exact xstr_l_s
          · exact xstr_init
        · exact xws_in xstr_l_c w hw')) rfl rfl rfl ⟨rfl, by decide, by decide, by decide +kernel⟩ ⟨by show 6 + 1 ≤ _; omega, by show 8 + (_ + 11) + 300 ≤ _; omega⟩
    have hsum : 2 * (F0 m pc lsM ((Value.retAddr s0 :: r).map (xup z sa))).monitorRoom + ((r.map (xup z sa)).map fun v => v.category).sum ≤ 8 := by
      have e : ((r.map (xup z sa)).map fun v => v.category) = (r.map fun v => v.category) := by rw [List.map_map]; exact List.map_congr_left fun v _ => xup_cat z sa v
      rw [e]
      have e2 : (F0 m pc lsM ((Value.retAddr s0 :: r).map (xup z sa))).monitorRoom = 0 := rfl
      omega
    refine xr_cont (va_runV (As := []) (rest := r.map (xup z sa)) ⟨hx, hb, hml, hown, hts⟩ (hHl s0 S hs) cw ⟨xPre_blind, vk_recv hG.2.2.2.1 hs h4, fun U hU hW => ⟨rfl, xG_at hG h4 hU hW, by rw [hU]; exact h2, fun ha => by rw [hU]; exact (h3 ha).1⟩⟩ rfl rfl (by show lsM.size = nL; exact h5.1) rfl hsum hd ⟨by have := (hgm _ _ _ _ h).1; omega, by have := (hgm _ _ _ _ h).2; omega⟩) h4 fun H1 locs1 hP1 hal1 hS1 => ?_
    exact hgo _ _ _ _ h H1 locs1 cells slots lsM h1 hP1 (fun ha => ⟨hal1 ha, by have q1 := hal1 ha; have q2 := h3 ha; omega⟩) hS1 h5 h6 h7
  · cases h
set_option maxRecDepth 100000 in
theorem xs_invokevirtual_c {k0 : Nat} (X : xCx p R s m args meth c z D cy sa sv o cc ret ini nL C Sl) (hgo : ∀ pc ls st S, go pc ls st S = some rS → xGoT p l e R s m args below meth c Q al z D cy sa nL C Sl rS pc ls st S) (hk : xlk o k0 = some [5]) (hHc : xHc l al z D cy sa sv) (hgm : ∀ pc ls st S, go pc ls st S = some rS → xlater S rS.2) (hd : decode cc pc = .ok (.invokevirtual k0, 3)) (h : xstep al o ret ini go call (.invokevirtual k0) 3 pc ls st S = some rS) : xGoT p l e R s m args below meth c Q al z D cy sa nL C Sl rS pc ls st S := by
  obtain ⟨hx, hb, hml, hown, hts, hG, hini, hRf, hRl, hCR, hSR, hrt, hlk⟩ := X
  intro H locs cells slots lsM h1 h2 h3 h4 h5 h6 h7
  simp only [xstep] at h
  rw [hk] at h
  simp only at h
  split at h
  · rename_i i s0 r
    have h0 := xifn_some h; clear h; obtain ⟨hn, h⟩ := h0
    have hi : vp_in i (xStr s0).length := fun q => hn (Or.inl q)
    have hs : s0 < 9 ∧ (r.map fun v => v.category).sum ≤ 8 := Classical.byContradiction fun q => hn (Or.inr q)
    obtain ⟨hs, hsm⟩ := hs
    have hw1 : Cond.methodLink (xNm o) k0 yJ0_charAt_5068e ∈ xAL := xSc_ok hk
    have cw := cwV (s := s) (R := R) (args := args) (own := xNm o) (index := k0) (rm := xroomS) (mc := 0) (ms := 0) 1 hts (xgood (ws := wsV (xNm o) k0 RJ0 yJ0_charAt_5068e (xws yJ0_charAt_5068e cJ0_charAt_5068e 2 (some .char))) (fun w hw' => by
        rcases List.mem_append.mp hw' with hw' | hw'
        · simp only [List.mem_cons, List.not_mem_nil, or_false] at hw'
          rcases hw' with rfl | rfl | rfl | rfl
          · exact hw1
          · exact xstr_c_i
          · exact xstr_c_s
          · exact xstr_init
        · exact xws_in xstr_c_c w hw')) rfl rfl rfl ⟨rfl, by decide, by decide, by decide +kernel⟩ ⟨by show 6 + 1 ≤ _; omega, by show 8 + (_ + 11) + 300 ≤ _; omega⟩
    have hsum : 2 * (F0 m pc lsM ((Value.int i :: Value.retAddr s0 :: r).map (xup z sa))).monitorRoom + ((r.map (xup z sa)).map fun v => v.category).sum ≤ 8 := by
      have e : ((r.map (xup z sa)).map fun v => v.category) = (r.map fun v => v.category) := by rw [List.map_map]; exact List.map_congr_left fun v _ => xup_cat z sa v
      rw [e]
      have e2 : (F0 m pc lsM ((Value.int i :: Value.retAddr s0 :: r).map (xup z sa))).monitorRoom = 0 := rfl
      omega
    refine xr_cont (va_runV (As := [.int i]) (rest := r.map (xup z sa)) ⟨hx, hb, hml, hown, hts⟩ (hHc s0 S i hs hi) cw ⟨xPre_blind, vk_recv hG.2.2.2.1 hs h4, fun U hU hW => ⟨rfl, xG_at hG h4 hU hW, by rw [hU]; exact h2, fun ha => by rw [hU]; exact (h3 ha).1⟩⟩ rfl rfl (by show lsM.size = nL; exact h5.1) rfl hsum hd ⟨by have := (hgm _ _ _ _ h).1; omega, by have := (hgm _ _ _ _ h).2; omega⟩) h4 fun H1 locs1 hP1 hal1 hS1 => ?_
    exact hgo _ _ _ _ h H1 locs1 cells slots lsM h1 hP1 (fun ha => ⟨hal1 ha, by have q1 := hal1 ha; have q2 := h3 ha; omega⟩) hS1 h5 h6 h7
  · cases h
set_option maxRecDepth 100000 in
theorem xs_invokestatic_max {k0 : Nat} (X : xCx p R s m args meth c z D cy sa sv o cc ret ini nL C Sl) (hgo : ∀ pc ls st S, go pc ls st S = some rS → xGoT p l e R s m args below meth c Q al z D cy sa nL C Sl rS pc ls st S) (hk : xlk o k0 = some [12]) (hgm : ∀ pc ls st S, go pc ls st S = some rS → xlater S rS.2) (hd : decode cc pc = .ok (.invokestatic k0, 3)) (h : xstep al o ret ini go call (.invokestatic k0) 3 pc ls st S = some rS) : xGoT p l e R s m args below meth c Q al z D cy sa nL C Sl rS pc ls st S := by
  obtain ⟨hx, hb, hml, hown, hts, hG, hini, hRf, hRl, hCR, hSR, hrt, hlk⟩ := X
  intro H locs cells slots lsM h1 h2 h3 h4 h5 h6 h7
  simp only [xstep] at h
  rw [hk] at h
  simp only at h
  have h0 := xI2_some h; clear h; obtain ⟨x, y, r, rfl, h⟩ := h0
  have h0 := xif_some h; clear h; obtain ⟨hsm, h⟩ := h0
  have e : ((r.map (xup z sa)).map fun v => v.category) = (r.map fun v => v.category) := by rw [List.map_map]; exact List.map_congr_left fun v _ => xup_cat z sa v
  have hcs : cells ≤ R.cells ∧ slots ≤ R.slots := by
    have q1 := (hgm _ _ _ _ h).1; have q2 := (hgm _ _ _ _ h).2
    exact ⟨by omega, by omega⟩
  exact va_mmax hx hb (by rw [hml]; exact h5.1.symm) hown (hts _ (xMx_ok hk)) (hts _ xmmax_s) (hts _ xmath_init) (hts _ xmmax_c) (by omega) (by rw [e]; omega) hcs.1 hcs.2 hd (hgo _ _ _ _ h H locs cells slots lsM h1 h2 h3 h4 h5 h6 h7)
set_option maxRecDepth 100000 in
theorem xs_invokestatic_min {k0 : Nat} (X : xCx p R s m args meth c z D cy sa sv o cc ret ini nL C Sl) (hgo : ∀ pc ls st S, go pc ls st S = some rS → xGoT p l e R s m args below meth c Q al z D cy sa nL C Sl rS pc ls st S) (hk : xlk o k0 = some [13]) (hgm : ∀ pc ls st S, go pc ls st S = some rS → xlater S rS.2) (hd : decode cc pc = .ok (.invokestatic k0, 3)) (h : xstep al o ret ini go call (.invokestatic k0) 3 pc ls st S = some rS) : xGoT p l e R s m args below meth c Q al z D cy sa nL C Sl rS pc ls st S := by
  obtain ⟨hx, hb, hml, hown, hts, hG, hini, hRf, hRl, hCR, hSR, hrt, hlk⟩ := X
  intro H locs cells slots lsM h1 h2 h3 h4 h5 h6 h7
  simp only [xstep] at h
  rw [hk] at h
  simp only at h
  have h0 := xI2_some h; clear h; obtain ⟨x, y, r, rfl, h⟩ := h0
  have h0 := xif_some h; clear h; obtain ⟨hsm, h⟩ := h0
  have e : ((r.map (xup z sa)).map fun v => v.category) = (r.map fun v => v.category) := by rw [List.map_map]; exact List.map_congr_left fun v _ => xup_cat z sa v
  have hcs : cells ≤ R.cells ∧ slots ≤ R.slots := by
    have q1 := (hgm _ _ _ _ h).1; have q2 := (hgm _ _ _ _ h).2
    exact ⟨by omega, by omega⟩
  exact va_mmin hx hb (by rw [hml]; exact h5.1.symm) hown (hts _ (xMn_ok hk)) (hts _ xmmin_s) (hts _ xmath_init) (hts _ xmmin_c) (by omega) (by rw [e]; omega) hcs.1 hcs.2 hd (hgo _ _ _ _ h H locs cells slots lsM h1 h2 h3 h4 h5 h6 h7)
set_option maxRecDepth 100000 in
theorem xs_invokestatic_minl {k0 : Nat} (X : xCx p R s m args meth c z D cy sa sv o cc ret ini nL C Sl) (hgo : ∀ pc ls st S, go pc ls st S = some rS → xGoT p l e R s m args below meth c Q al z D cy sa nL C Sl rS pc ls st S) (hk : xlk o k0 = some [14]) (hgm : ∀ pc ls st S, go pc ls st S = some rS → xlater S rS.2) (hd : decode cc pc = .ok (.invokestatic k0, 3)) (h : xstep al o ret ini go call (.invokestatic k0) 3 pc ls st S = some rS) : xGoT p l e R s m args below meth c Q al z D cy sa nL C Sl rS pc ls st S := by
  obtain ⟨hx, hb, hml, hown, hts, hG, hini, hRf, hRl, hCR, hSR, hrt, hlk⟩ := X
  intro H locs cells slots lsM h1 h2 h3 h4 h5 h6 h7
  simp only [xstep] at h
  rw [hk] at h
  simp only at h
  have h0 := xL2_some h; clear h; obtain ⟨x, y, r, rfl, h⟩ := h0
  have h0 := xif_some h; clear h; obtain ⟨hsm, h⟩ := h0
  have e : ((r.map (xup z sa)).map fun v => v.category) = (r.map fun v => v.category) := by rw [List.map_map]; exact List.map_congr_left fun v _ => xup_cat z sa v
  have hcs : cells ≤ R.cells ∧ slots ≤ R.slots := by
    have q1 := (hgm _ _ _ _ h).1; have q2 := (hgm _ _ _ _ h).2
    exact ⟨by omega, by omega⟩
  exact va_mmin_long hx hb (by rw [hml]; exact h5.1.symm) hown (hts _ (xMl_ok hk)) (hts _ xmminl_s) (hts _ xmath_init) (hts _ xmminl_c) (by omega) (by rw [e]; omega) hcs.1 hcs.2 hd (hgo _ _ _ _ h H locs cells slots lsM h1 h2 h3 h4 h5 h6 h7)
theorem xrows_len (S : xS) (n k : Nat) : (xrows S n k).1.length = S.1.length + 1 + n := by
  unfold xrows
  simp only [List.length_append, List.length_cons, List.length_replicate]
  omega
theorem xrows_sz (S : xS) (n k : Nat) : xsz (xrows S n k) = xsz S + (n + n * k) := by
  unfold xsz xrows
  simp only [List.map_append, List.map_cons, List.map_replicate, List.sum_append, List.sum_cons, List.sum_replicate_nat]
theorem xrows_P {z : Nat} {D : va_G} {cy : Nat → ClassId} {S : xS} {H H1 : Heap} {n k : Nat} (hP : va_P D vwCl (xW z cy S) H) (hsz : H.size = z + S.1.length) (ho : ∀ a : Nat, a < H.size → H1[a]? = H[a]?) (h1 : H1[H.size]? = some (xmou (cy 27) n H.size n)) (h2 : ∀ i, i < n → H1[H.size + 1 + i]? = some (xmr (cy 20) k)) : va_P D vwCl (xW z cy (xrows S n k)) H1 := by
  intro i q hq
  obtain ⟨hi, rfl⟩ := xW_inv hq
  rw [xrows_len] at hi
  rcases Nat.lt_trichotomy i S.1.length with w | w | w
  · obtain ⟨x, hx⟩ : ∃ x, S.1[i]? = some x := ⟨_, List.getElem?_eq_getElem w⟩
    have hx2 : (xrows S n k).1[i]? = some x := by unfold xrows; rw [List.getElem?_append_left w]; exact hx
    have h9 := hP i _ (xW_get hx)
    rw [show (xrows S n k).1.getD i (0, 0) = x by rw [List.getD_eq_getElem?_getD, hx2]; rfl]
    have e1 : (xrows S n k).2.1 i = S.2.1 i := by unfold xrows; simp only [if_neg (show ¬ S.1.length ≤ i by omega)]
    have e2 : (xrows S n k).2.2.1 i = S.2.2.1 i := by unfold xrows; simp only [if_neg (show ¬ i = S.1.length by omega), if_neg (show ¬ S.1.length < i by omega)]
    have e3 : (xrows S n k).2.2.2 i = S.2.2.2 i := by unfold xrows; simp only [if_neg (show ¬ S.1.length ≤ i by omega)]
    have e4 : ∀ ci, xfv z (xrows S n k) ci i = xfv z S ci i := fun ci => funext fun f => by unfold xfv; rw [e1, e2, e3]
    have e5 : xce z cy (xrows S n k) i x = xce z cy S i x := by unfold xce xarr; rw [e1, e2, e3, e4]
    rw [e5]
    have hlt := h9.lt
    exact va_at.kept h9 (ho _ hlt)
  · subst w
    have hx2 : (xrows S n k).1.getD S.1.length (0, 0) = (27, n) := by unfold xrows; rw [List.getD_eq_getElem?_getD, List.getElem?_append_right (Nat.le_refl _), Nat.sub_self]; rfl
    rw [hx2]
    show H1[z + S.1.length]? = some _
    rw [← hsz, h1]
    refine congrArg some ?_
    show xmou (cy 27) n H.size n = arrV (cy 27) n (fun j => va_rf (((xrows S n k).2.2.1 S.1.length j).map (fun b => z + b)))
    have e : (xmou (cy 27) n H.size n).slots = (arrV (cy 27) n (fun j => va_rf (((xrows S n k).2.2.1 S.1.length j).map (fun b => z + b)))).slots := by
      apply Array.ext_getElem?
      intro j
      rw [xmou_g]
      rcases Nat.lt_or_ge j n with q | q
      · rw [if_pos q, if_pos q, arrV_read _ _ q]
        have e2 : (xrows S n k).2.2.1 S.1.length j = some (S.1.length + 1 + j) := by unfold xrows; simp only [if_true, if_pos q]
        rw [e2]
        show some (Value.ref (H.size + 1 + j)) = some (Value.ref (z + (S.1.length + 1 + j)))
        rw [show H.size + 1 + j = z + (S.1.length + 1 + j) by omega]
      · rw [if_neg (by omega), Array.getElem?_eq_none (by rw [arrV_size]; exact q)]
    show ({ cls := cy 27, slots := (xmou (cy 27) n H.size n).slots, vm := .none } : Cell) = _
    rw [e]
    rfl
  · obtain ⟨j, rfl⟩ : ∃ j, i = S.1.length + 1 + j := ⟨i - S.1.length - 1, by omega⟩
    have hj : j < n := by omega
    have hx2 : (xrows S n k).1.getD (S.1.length + 1 + j) (0, 0) = (20, k) := by
      unfold xrows
      rw [List.getD_eq_getElem?_getD, List.getElem?_append_right (by omega), show S.1.length + 1 + j - S.1.length = j + 1 by omega, List.getElem?_cons_succ, List.getElem?_replicate, if_pos hj]
      rfl
    rw [hx2]
    show H1[z + (S.1.length + 1 + j)]? = some _
    rw [show z + (S.1.length + 1 + j) = H.size + 1 + j by omega, h2 j hj]
    refine congrArg some ?_
    have e2 : (xrows S n k).2.1 (S.1.length + 1 + j) = fun _ => 0 := by unfold xrows; simp only [if_pos (show S.1.length ≤ S.1.length + 1 + j by omega)]
    show xmr (cy 20) k = arrV (cy 20) k (fun q => .int ((xrows S n k).2.1 (S.1.length + 1 + j) q))
    rw [e2]
    exact arrV_new _ _ _
set_option maxRecDepth 100000 in
theorem xs_multianewarray {k0 dm : Nat} (X : xCx p R s m args meth c z D cy sa sv o cc ret ini nL C Sl) (hgo : ∀ pc ls st S, go pc ls st S = some rS → xGoT p l e R s m args below meth c Q al z D cy sa nL C Sl rS pc ls st S) (hgm : ∀ pc ls st S, go pc ls st S = some rS → xlater S rS.2) (hd : decode cc pc = .ok (.multianewarray k0 dm, 4)) (h : xstep al o ret ini go call (.multianewarray k0 dm) 4 pc ls st S = some rS) : xGoT p l e R s m args below meth c Q al z D cy sa nL C Sl rS pc ls st S := by
  obtain ⟨hx, hb, hml, hown, hts, hG, hini, hRf, hRl, hCR, hSR, hrt, hlk⟩ := X
  intro H locs cells slots lsM h1 h2 h3 h4 h5 h6 h7
  simp only [xstep] at h
  have h0 := xI1_some h; clear h; obtain ⟨k, r, rfl, h⟩ := h0
  have h0 := xI1_some h; clear h; obtain ⟨n, r, rfl, h⟩ := h0
  split at h
  · rename_i hk
    have h0 := xif_some h; clear h; obtain ⟨⟨hal, rfl, hn, hm, hn2, hm2⟩, h⟩ := h0
    obtain ⟨hm3, hm4⟩ := hgm _ _ _ _ h
    rw [xrows_len] at hm3
    rw [xrows_sz] at hm4
    refine xW_size fun hsz => ?_
    obtain ⟨g1, g2⟩ := h3 hal
    refine xw_multi hx hb hown (hts _ (xA_ok hk)) hG.2.2.2.2.2.2.2.2.2 (hts _ xarr_i) hn hm hn2 hm2 (by omega) (by omega) hd (fun cA comp H1 f1 f2 z1 o1 e1 e2 => ?_)
    have hcA : cA = cy 27 := Option.some.inj (f1.symm.trans (hG.1.2 7 (cy 27, .array .int) rfl).2)
    have hcC : comp = cy 20 := Option.some.inj (f2.symm.trans (hG.1.2 0 (cy 20, .int) rfl).2)
    subst hcA; subst hcC
    have hP1 := xrows_P h2 g1 o1 e1 e2
    have hS1 : va_S (fun q => z ≤ q) s.heap H1 locs := ⟨Nat.le_trans h4.1 (by omega), fun x w1 w2 => (o1 x (Nat.lt_of_lt_of_le w1 h4.1)).trans (h4.2.1 x w1 w2), h4.2.2⟩
    rw [g1]
    exact hgo _ _ _ _ h H1 locs (cells + 1 + n.toNatClampNeg) (slots + n.toNatClampNeg + n.toNatClampNeg * k.toNatClampNeg) lsM h1 hP1 (fun _ => ⟨by rw [xrows_len]; omega, by omega⟩) hS1 h5 (by rw [xrows_len]; omega) (by rw [xrows_sz]; omega)
  · cases h
end XSOUND
