section XMAIN
variable {l : Launch} {al : Bool} {z : Nat} {D : va_G} {cy : Nat → ClassId} {sa sv : Nat → Nat}
theorem xmet_of {d j o n ml : Nat} {y : MethodName} {code : ByteArray} {ret : Option FieldType} {ini stt : Bool} {as : List Value} {S S1 : xS} {v : Option Value} (hj : j < 299) (hq : xMI j = (o, n, ml, y, code, ret, ini, stt)) (hx : (xargs as).length ≤ ml) (hlt : xlater S S1)
    (h : ∀ {p : Program} {e : Env} {R : Room} {s : State} {m : MethodId} {args : Array Value} {below : List Frame} {meth : Method} {c : Code} {C Sl : Nat}, xCx p R s m args meth c z D cy sa sv o code ret ini ml C Sl → d + 6 ≤ R.frames → 60 * d + 400 ≤ R.locals →
      xGoT p l e R s m args below meth c (MQ below (xQ al z D cy sa v S1) args s C Sl (fun q => z ≤ q)) al z D cy sa ml C Sl (v, S1) 0 (xent as ml) [] S) :
    Met l y (xws y code ml ret) (xroom d (S1.1.length - S.1.length) (xsz S1 - xsz S)) (va_Pc (as.map (xup z sa)) (xPre al z D cy sa sv S)) (xQ al z D cy sa v S1) (S1.1.length - S.1.length) (xsz S1 - xsz S) (fun q => z ≤ q) := by
  obtain ⟨m1, m2, m3, m4, m5, m6, m7, m8, m9, m10, m11, m12, m13⟩ := xM_ok hj hq
  refine Met.ofW (cc := code) (maxL := ml) (ret := ret) m12 rfl ?_
  intro p e s m args below meth c s₁ B hml hv
  obtain ⟨rfl, hG, hP, hal⟩ := hv
  have hts := atoms_spec (ws := xws y code ml ret) B.pre
  have hown := findClass_of_methodNamed B.named
  rw [m6] at hown
  have hname : meth.name = y.name := (name_of_methodNamed B.named B.method).1
  have hl := lv_entry (as.map (xup z sa)) (n := ml) (by rw [xargs_sl]; exact hx)
  rw [lg_entry_eq]
  have X : xCx p (headSpec (xws y code ml ret) (xroom d (S1.1.length - S.1.length) (xsz S1 - xsz S))).room s m (as.map (xup z sa)).toArray meth c z D cy sa sv o code ret ini ml (S1.1.length - S.1.length) (xsz S1 - xsz S) :=
    ⟨B.exec, B.bytes, hml, hown, fun w hw => hts w (List.mem_cons_of_mem _ hw), hG, fun hi => by rw [hname]; exact m10 hi, by show 6 ≤ d + 6; omega, by show 400 ≤ 60 * d + 400; omega, Nat.le_refl _, Nat.le_refl _, B.returns, B.notSynchronized⟩
  exact h X (Nat.le_refl _) (Nat.le_refl _) s.heap [] 0 0 _ (xent_len hx) hP (fun ha => ⟨hal ha, rfl⟩) va_S.rf (xlp_ent hl) (by have := hlt.1; omega) (by have := hlt.2; omega)
end XMAIN
