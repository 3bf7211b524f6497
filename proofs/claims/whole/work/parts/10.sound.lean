section XMAIN
variable {l : Launch} {al : Bool} {z : Nat} {D : va_G} {cy : Nat → ClassId} {sa sv : Nat → Nat}
theorem xmet_of {d j o n ml : Nat} {y : MethodName} {code : ByteArray} {ret : Option FieldType} {ini stt : Bool} {as : List Value} {S S1 : xS} {v : Option Value} (hj : j < 296) (hq : xMI j = (o, n, ml, y, code, ret, ini, stt)) (hx : (xargs as).length ≤ ml) (hlt : xlater S S1)
    (h : ∀ {p : Program} {e : Env} {R : Room} {s : State} {m : MethodId} {args : Array Value} {below : List Frame} {meth : Method} {c : Code} {C Sl : Nat}, xCx p R s m args meth c z D cy sa sv o code ret ini ml C Sl → d + 8 ≤ R.frames → 60 * d + 400 ≤ R.locals →
      xGoT p l e R s m args below meth c (MQ below (xQ al z D cy sa v S1) args s C Sl (fun q => z ≤ q)) al z D cy sa ml C Sl (v, S1) 0 (xent as ml) [] S) :
    Met l y (xws y code ml ret) (xroom d (S1.1.length - S.1.length) (xsz S1 - xsz S)) (va_Pc (as.map (xup z sa)) (xPre al z D cy sa sv S)) (xQ al z D cy sa v S1) (S1.1.length - S.1.length) (xsz S1 - xsz S) (fun q => z ≤ q) := by
  obtain ⟨m1, m2, m3, m4, m5, m6, m7, m8, m9, m10, m11, m12, m13⟩ := xM_ok hj hq
  refine Met.ofW (cc := code) (maxL := ml) (ret := ret) m12 rfl ?_
  intro p e s m args below meth c s₁ B hml hv
  obtain ⟨rfl, hG, hP, hal⟩ := hv
  have hts := atoms_spec (ws := xws y code ml ret) B.pre
  have hown := findClass_of_methodNamed B.named
  rw [m6] at hown
  have hname : meth.name = y.name := (name_of_methodNamed B.named B.method).1
  have hl := lv_entry (as.map (xup z sa)) (n := ml) (by rw [xargs_sl]; exact hx)
  rw [lg_entry_eq]
  have X : xCx p (headSpec (xws y code ml ret) (xroom d (S1.1.length - S.1.length) (xsz S1 - xsz S))).room s m (as.map (xup z sa)).toArray meth c z D cy sa sv o code ret ini ml (S1.1.length - S.1.length) (xsz S1 - xsz S) :=
    ⟨B.exec, B.bytes, hml, hown, fun w hw => hts w (List.mem_cons_of_mem _ hw), hG, fun hi => by rw [hname]; exact m10 hi, by show 8 ≤ d + 8; omega, by show 400 ≤ 60 * d + 400; omega, Nat.le_refl _, Nat.le_refl _, B.returns, B.notSynchronized⟩
  exact h X (Nat.le_refl _) (Nat.le_refl _) s.heap [] 0 0 _ (xent_len hx) hP (fun ha => ⟨hal ha, rfl⟩) va_S.rf (xlp_ent hl) (by have := hlt.1; show _ = 0 + S1.1.length; omega) (by have := hlt.2; show _ = 0 + xsz S1; omega)

set_option maxHeartbeats 4000000 in
theorem xstep_ok {p : Program} {e : Env} {R : Room} {s : State} {m : MethodId} {args : Array Value} {below : List Frame} {meth : Method} {c : Code} {o : Nat} {cc : ByteArray} {ret : Option FieldType} {ini : Bool} {nL C Sl : Nat} {rS : Option Value × xS} {pc : Nat} {ls st : List Value} {S : xS} {go : Nat → List Value → List Value → xS → xO} {call : Nat → List Value → xS → xO} {i : Instr} {len : Nat}
    (hHl : xHl l al z D cy sa sv) (hHc : xHc l al z D cy sa sv) (X : xCx p R s m args meth c z D cy sa sv o cc ret ini nL C Sl)
    (hgo : ∀ pc ls st S, go pc ls st S = some rS → xGoT p l e R s m args below meth c (MQ below (xQ al z D cy sa rS.1 rS.2) args s C Sl (fun q => z ≤ q)) al z D cy sa nL C Sl rS pc ls st S)
    (hgm : ∀ pc ls st S, go pc ls st S = some rS → xlater S rS.2) (hcall : ∀ j as S v S1, call j as S = some (v, S1) → xCall l R al z D cy sa sv j as S v S1)
    (hlen : len = xlen i ∨ xsw i = true) (hd : decode cc pc = .ok (i, len)) (h : xstep al o ret ini go call i len pc ls st S = some rS) :
    xGoT p l e R s m args below meth c (MQ below (xQ al z D cy sa rS.1 rS.2) args s C Sl (fun q => z ≤ q)) al z D cy sa nL C Sl rS pc ls st S := by
  have none' : ∀ {A : Prop}, (none : xO) = some rS → A := fun h => by cases h
  cases i with
  | iadd => obtain rfl : len = 1 := hlen.elim id (fun q => by cases q); exact xs_iadd X hgo hd h
  | isub => obtain rfl : len = 1 := hlen.elim id (fun q => by cases q); exact xs_isub X hgo hd h
  | imul => obtain rfl : len = 1 := hlen.elim id (fun q => by cases q); exact xs_imul X hgo hd h
  | iand => obtain rfl : len = 1 := hlen.elim id (fun q => by cases q); exact xs_iand X hgo hd h
  | ior => obtain rfl : len = 1 := hlen.elim id (fun q => by cases q); exact xs_ior X hgo hd h
  | ixor => obtain rfl : len = 1 := hlen.elim id (fun q => by cases q); exact xs_ixor X hgo hd h
  | ishl => obtain rfl : len = 1 := hlen.elim id (fun q => by cases q); exact xs_ishl X hgo hd h
  | ishr => obtain rfl : len = 1 := hlen.elim id (fun q => by cases q); exact xs_ishr X hgo hd h
  | iushr => obtain rfl : len = 1 := hlen.elim id (fun q => by cases q); exact xs_iushr X hgo hd h
  | idiv => obtain rfl : len = 1 := hlen.elim id (fun q => by cases q); exact xs_idiv X hgo hd h
  | irem => obtain rfl : len = 1 := hlen.elim id (fun q => by cases q); exact xs_irem X hgo hd h
  | ladd => obtain rfl : len = 1 := hlen.elim id (fun q => by cases q); exact xs_ladd X hgo hd h
  | lsub => obtain rfl : len = 1 := hlen.elim id (fun q => by cases q); exact xs_lsub X hgo hd h
  | lmul => obtain rfl : len = 1 := hlen.elim id (fun q => by cases q); exact xs_lmul X hgo hd h
  | lor => obtain rfl : len = 1 := hlen.elim id (fun q => by cases q); exact xs_lor X hgo hd h
  | land => obtain rfl : len = 1 := hlen.elim id (fun q => by cases q); exact xs_land X hgo hd h
  | ldiv => obtain rfl : len = 1 := hlen.elim id (fun q => by cases q); exact xs_ldiv X hgo hd h
  | lrem => obtain rfl : len = 1 := hlen.elim id (fun q => by cases q); exact xs_lrem X hgo hd h
  | ineg => obtain rfl : len = 1 := hlen.elim id (fun q => by cases q); exact xs_ineg X hgo hd h
  | i2l => obtain rfl : len = 1 := hlen.elim id (fun q => by cases q); exact xs_i2l X hgo hd h
  | i2b => obtain rfl : len = 1 := hlen.elim id (fun q => by cases q); exact xs_i2b X hgo hd h
  | i2c => obtain rfl : len = 1 := hlen.elim id (fun q => by cases q); exact xs_i2c X hgo hd h
  | lshl => obtain rfl : len = 1 := hlen.elim id (fun q => by cases q); exact xs_lshl X hgo hd h
  | lcmp => obtain rfl : len = 1 := hlen.elim id (fun q => by cases q); exact xs_lcmp X hgo hd h
  | dup => obtain rfl : len = 1 := hlen.elim id (fun q => by cases q); exact xs_dup X hgo hd h
  | dup2 => obtain rfl : len = 1 := hlen.elim id (fun q => by cases q); exact xs_dup2 X hgo hd h
  | pop => obtain rfl : len = 1 := hlen.elim id (fun q => by cases q); exact xs_pop X hgo hd h
  | aconst_null => obtain rfl : len = 1 := hlen.elim id (fun q => by cases q); exact xs_aconst_null X hgo hd h
  | iaload => obtain rfl : len = 1 := hlen.elim id (fun q => by cases q); exact xs_iaload X hgo hd h
  | caload => obtain rfl : len = 1 := hlen.elim id (fun q => by cases q); exact xs_caload X hgo hd h
  | baload => obtain rfl : len = 1 := hlen.elim id (fun q => by cases q); exact xs_baload X hgo hd h
  | aaload => obtain rfl : len = 1 := hlen.elim id (fun q => by cases q); exact xs_aaload X hgo hd h
  | iastore => obtain rfl : len = 1 := hlen.elim id (fun q => by cases q); exact xs_iastore X hgo hd h
  | castore => obtain rfl : len = 1 := hlen.elim id (fun q => by cases q); exact xs_castore X hgo hd h
  | bastore => obtain rfl : len = 1 := hlen.elim id (fun q => by cases q); exact xs_bastore X hgo hd h
  | aastore => obtain rfl : len = 1 := hlen.elim id (fun q => by cases q); exact xs_aastore X hgo hd h
  | arraylength => obtain rfl : len = 1 := hlen.elim id (fun q => by cases q); exact xs_arraylength X hgo hd h
  | iconst n => obtain rfl : len = 1 := hlen.elim id (fun q => by cases q); exact xs_iconst X hgo hd h
  | bipush n => obtain rfl : len = 2 := hlen.elim id (fun q => by cases q); exact xs_bipush X hgo hd h
  | sipush n => obtain rfl : len = 3 := hlen.elim id (fun q => by cases q); exact xs_sipush X hgo hd h
  | lconst n => obtain rfl : len = 1 := hlen.elim id (fun q => by cases q); exact xs_lconst X hgo hd h
  | iload_n k0 => obtain rfl : len = 1 := hlen.elim id (fun q => by cases q); exact xs_iload_n X hgo hd h
  | iload k0 => obtain rfl : len = 2 := hlen.elim id (fun q => by cases q); exact xs_iload X hgo hd h
  | lload_n k0 => obtain rfl : len = 1 := hlen.elim id (fun q => by cases q); exact xs_lload_n X hgo hd h
  | lload k0 => obtain rfl : len = 2 := hlen.elim id (fun q => by cases q); exact xs_lload X hgo hd h
  | aload_n k0 => obtain rfl : len = 1 := hlen.elim id (fun q => by cases q); exact xs_aload_n X hgo hd h
  | aload k0 => obtain rfl : len = 2 := hlen.elim id (fun q => by cases q); exact xs_aload X hgo hd h
  | istore_n k0 => obtain rfl : len = 1 := hlen.elim id (fun q => by cases q); exact xs_istore_n X hgo hd h
  | istore k0 => obtain rfl : len = 2 := hlen.elim id (fun q => by cases q); exact xs_istore X hgo hd h
  | lstore_n k0 => obtain rfl : len = 1 := hlen.elim id (fun q => by cases q); exact xs_lstore_n X hgo hd h
  | lstore k0 => obtain rfl : len = 2 := hlen.elim id (fun q => by cases q); exact xs_lstore X hgo hd h
  | astore_n k0 => obtain rfl : len = 1 := hlen.elim id (fun q => by cases q); exact xs_astore_n X hgo hd h
  | astore k0 => obtain rfl : len = 2 := hlen.elim id (fun q => by cases q); exact xs_astore X hgo hd h
  | goto off => obtain rfl : len = 3 := hlen.elim id (fun q => by cases q); exact xs_goto X hgo hd h
  | ifnull off => obtain rfl : len = 3 := hlen.elim id (fun q => by cases q); exact xs_ifnull X hgo hd h
  | ifnonnull off => obtain rfl : len = 3 := hlen.elim id (fun q => by cases q); exact xs_ifnonnull X hgo hd h
  | ldc k0 => obtain rfl : len = 2 := hlen.elim id (fun q => by cases q); exact xs_ldc X hgo hd h
  | ldc_w k0 => obtain rfl : len = 3 := hlen.elim id (fun q => by cases q); exact xs_ldc_w X hgo hd h
  | ldc2_w k0 => obtain rfl : len = 3 := hlen.elim id (fun q => by cases q); exact xs_ldc2_w X hgo hd h
  | getfield k0 => obtain rfl : len = 3 := hlen.elim id (fun q => by cases q); exact xs_getfield X hgo hd h
  | putfield k0 => obtain rfl : len = 3 := hlen.elim id (fun q => by cases q); exact xs_putfield X hgo hd h
  | if_icmp cd off =>
    obtain rfl : len = 3 := hlen.elim id (fun q => by cases q)
    cases cd
    · exact xs_icmp_eq X hgo hd h
    · exact xs_icmp_ne X hgo hd h
    · exact xs_icmp_lt X hgo hd h
    · exact xs_icmp_ge X hgo hd h
    · exact xs_icmp_gt X hgo hd h
    · exact xs_icmp_le X hgo hd h
  | ifCond cd off =>
    obtain rfl : len = 3 := hlen.elim id (fun q => by cases q)
    cases cd
    · exact xs_if_eq X hgo hd h
    · exact xs_if_ne X hgo hd h
    · exact xs_if_lt X hgo hd h
    · exact xs_if_ge X hgo hd h
    · exact xs_if_gt X hgo hd h
    · exact xs_if_le X hgo hd h
  | iinc k0 n => obtain rfl : len = 3 := hlen.elim id (fun q => by cases q); exact xs_iinc X hgo hd h
  | tableswitch a b c0 d0 => exact xs_tableswitch X hgo hd h
  | lookupswitch a b => exact xs_lookupswitch X hgo hd h
  | ireturn => obtain rfl : len = 1 := hlen.elim id (fun q => by cases q); exact xs_ireturn X hd h
  | lreturn => obtain rfl : len = 1 := hlen.elim id (fun q => by cases q); exact xs_lreturn X hd h
  | areturn => obtain rfl : len = 1 := hlen.elim id (fun q => by cases q); exact xs_areturn X hd h
  | return_ => obtain rfl : len = 1 := hlen.elim id (fun q => by cases q); exact xs_return X hd h
  | new k0 => obtain rfl : len = 3 := hlen.elim id (fun q => by cases q); exact xs_new X hgo hgm hd h
  | newarray aa => obtain rfl : len = 2 := hlen.elim id (fun q => by cases q); exact xs_newarray X hgo hgm hd h
  | anewarray k0 => obtain rfl : len = 3 := hlen.elim id (fun q => by cases q); exact xs_anewarray X hgo hgm hd h
  | multianewarray k0 dm => obtain rfl : len = 4 := hlen.elim id (fun q => by cases q); exact xs_multianewarray X hgo hgm hd h
  | invokestatic k0 =>
    obtain rfl : len = 3 := hlen.elim id (fun q => by cases q)
    have h0 := h
    simp only [xstep] at h0
    split at h0
    · rename_i kd j hk; exact xs_invokestatic X hgo hk hcall hgm hd h
    · rename_i hk; exact xs_invokestatic_max X hgo hk hgm hd h
    · rename_i hk; exact xs_invokestatic_min X hgo hk hgm hd h
    · rename_i hk; exact xs_invokestatic_minl X hgo hk hgm hd h
    · exact none' h0
  | invokespecial k0 =>
    obtain rfl : len = 3 := hlen.elim id (fun q => by cases q)
    have h0 := h
    simp only [xstep] at h0
    split at h0
    · rename_i hk; exact xs_invokeobj X hgo hk hd h
    · rename_i kd j hk; exact xs_invokeinit X hgo hk hcall hgm hd h
    · exact none' h0
  | invokevirtual k0 =>
    obtain rfl : len = 3 := hlen.elim id (fun q => by cases q)
    have h0 := h
    simp only [xstep] at h0
    split at h0
    · rename_i kd j hk; exact xs_invokevirtual_o X hgo hk hcall hgm hd h
    · rename_i j1 j2 hk; exact xs_invokevirtual_u X hgo hk hcall hgm hd h
    · rename_i hk; exact xs_invokevirtual_l X hgo hk hHl hgm hd h
    · rename_i hk; exact xs_invokevirtual_c X hgo hk hHc hgm hd h
    · exact none' h0
  | _ => exact none' (by simpa only [xstep] using h)
theorem xsound (hHl : xHl l al z D cy sa sv) (hHc : xHc l al z D cy sa sv) : ∀ (n d o : Nat) (cc : ByteArray) (ret : Option FieldType) (ini : Bool) (pc : Nat) (ls st : List Value) (S : xS) (rS : Option Value × xS), xrun al n d o cc ret ini pc ls st S = some rS → xlater S rS.2 ∧
    ∀ {p : Program} {e : Env} {R : Room} {s : State} {m : MethodId} {args : Array Value} {below : List Frame} {meth : Method} {c : Code} {C Sl : Nat}, xCx p R s m args meth c z D cy sa sv o cc ret ini ls.length C Sl → d + 8 ≤ R.frames → 60 * d + 400 ≤ R.locals →
      xGoT p l e R s m args below meth c (MQ below (xQ al z D cy sa rS.1 rS.2) args s C Sl (fun q => z ≤ q)) al z D cy sa ls.length C Sl rS pc ls st S := by
  intro n
  induction n with
  | zero =>
    intro d o cc ret ini pc ls st S rS h
    cases h
  | succ n ih =>
    intro d o cc ret ini pc ls st S rS h
    unfold xrun at h
    split at h
    · rename_i i len hd
      obtain ⟨hl, h⟩ := xif_some h
      have hgm : ∀ pc ls st S, xrun al n d o cc ret ini pc ls st S = some rS → xlater S rS.2 := fun _ _ _ _ h => (ih _ _ _ _ _ _ _ _ _ _ h).1
      have hcm : ∀ j as S v S1, xcf al d n j as S = some (v, S1) → xlater S S1 := fun j as S v S1 h => by
        unfold xcf at h
        cases d with
        | zero => cases h
        | succ d => exact (ih _ _ _ _ _ _ _ _ _ _ (xif_some h).2).1
      refine ⟨xstep_mono hgm hcm h, fun {p e R s m args below meth c C Sl} X hf hloc => ?_⟩
      refine xstep_ok (call := xcf al d n) hHl hHc X (fun pc ls' st S h H locs cells slots lsM h1 => ?_) hgm (fun j as S v S1 h => ?_) hl hd h
      · have := (ih _ _ _ _ _ _ _ _ _ _ h).2 (p := p) (e := e) (R := R) (s := s) (m := m) (args := args) (below := below) (meth := meth) (c := c) (C := C) (Sl := Sl) (by rw [h1]; exact X) hf hloc H locs cells slots lsM rfl
        rw [h1] at this
        exact this
      · unfold xcf at h
        cases d with
        | zero => cases h
        | succ d =>
          obtain ⟨⟨c1, c2, c3⟩, h⟩ := xif_some h
          have hh := ih _ _ _ _ _ _ _ _ _ _ h
          generalize hq : xMI j = mi at c1 c2 h hh
          obtain ⟨o', n', ml, y, code, ret2, ini2, stt⟩ := mi
          refine ⟨hh.1, c3, d, by omega, by omega, by rw [hq]; exact c1, ?_⟩
          rw [hq]
          refine xmet_of c3 hq c2 hh.1 (fun {p e R s m args below meth c C Sl} X hf hloc => ?_)
          have h9 := hh.2 (p := p) (e := e) (R := R) (s := s) (m := m) (args := args) (below := below) (meth := meth) (c := c) (C := C) (Sl := Sl) (by rw [show (xent as ml).length = ml from xent_len c2]; exact X) hf hloc
          rw [show (xent as ml).length = ml from xent_len c2] at h9
          exact h9
    · cases h
/-- a call of the pure machine is a contract of the machine -/
theorem xmet (hHl : xHl l al z D cy sa sv) (hHc : xHc l al z D cy sa sv) {d j o n ml : Nat} {y : MethodName} {code : ByteArray} {ret : Option FieldType} {ini stt : Bool} {as : List Value} {S S1 : xS} {v : Option Value} (hq : xMI j = (o, n, ml, y, code, ret, ini, stt)) (h : xcall al d j as S v S1) : xlater S S1 ∧
    Met l y (xws y code ml ret) (xroom d (S1.1.length - S.1.length) (xsz S1 - xsz S)) (va_Pc (as.map (xup z sa)) (xPre al z D cy sa sv S)) (xQ al z D cy sa v S1) (S1.1.length - S.1.length) (xsz S1 - xsz S) (fun q => z ≤ q) := by
  unfold xcall at h
  rw [hq] at h
  obtain ⟨c1, c2, c3, N, c4⟩ := h
  have hh := xsound (l := l) (z := z) (D := D) (cy := cy) (sa := sa) (sv := sv) hHl hHc _ _ _ _ _ _ _ _ _ _ _ (c4 N (Nat.le_refl N))
  refine ⟨hh.1, xmet_of c3 hq c2 hh.1 (fun {p e R s m args below meth c C Sl} X hf hloc => ?_)⟩
  have h9 := hh.2 (p := p) (e := e) (R := R) (s := s) (m := m) (args := args) (below := below) (meth := meth) (c := c) (C := C) (Sl := Sl) (by rw [show (xent as ml).length = ml from xent_len c2]; exact X) hf hloc
  rw [show (xent as ml).length = ml from xent_len c2] at h9
  exact h9
end XMAIN
