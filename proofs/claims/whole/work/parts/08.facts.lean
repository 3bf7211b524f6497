theorem xAL_of {w : Cond} {p : Nat} (h : xat p = some w) (hg : goodWord w = true) : w ∈ xAL := List.mem_filter.mpr ⟨xat_in h, hg⟩
theorem xNW_of {w : Cond} {p : Nat} (h : xat p = some w) (hg : xNest w = true) : w ∈ xNW := List.mem_filter.mpr ⟨xat_in h, hg⟩
theorem xM_ok {j o n ml : Nat} {y : MethodName} {code : ByteArray} {ret : Option FieldType} {ini stt : Bool} (hj : j < 296) (hq : xMI j = (o, n, ml, y, code, ret, ini, stt)) :
    Cond.code y code ml ret ∈ xAL ∧ (stt = true → Cond.static y ∈ xAL) ∧ (stt = false → Cond.instanceMethod y ∈ xAL) ∧ Cond.initialized y.cls ∈ xAL ∧ (stt = false → ini = false → (xMP.getD j (0, 0, 0, 0)).2.2.2 ≠ 99999 → Cond.selects y.cls y y ∈ xAL) ∧ y.cls = xNm o ∧ (y.cls ≠ "java/lang/invoke/MethodHandle" ∧ y.cls ≠ "java/lang/invoke/VarHandle") ∧ (parseMethodDescriptor y.desc).map (fun d => d.parameters.length) = some (if stt then n else n - 1) ∧ ml ≤ 40 ∧ (ini = true → y.name = "<init>") ∧ (ini = true → ret = none) ∧ plainName y.cls = true ∧ (stt = false → 1 ≤ n) := by
  have h := xchkM_all hj
  unfold xchkM at h
  rw [hq] at h
  simp only [Bool.and_eq_true, decide_eq_true_eq, Bool.or_eq_true, Bool.not_eq_true', beq_iff_eq] at h
  obtain ⟨⟨⟨⟨⟨⟨⟨⟨⟨⟨⟨h2, h3⟩, h4⟩, h5⟩, h6⟩, h7⟩, h8⟩, h9⟩, h10⟩, h11⟩, h12⟩, h13⟩ := h
  have h1 := xcode_all hj
  unfold xcw at h1
  rw [hq] at h1
  refine ⟨List.mem_filter.mpr ⟨h1, rfl⟩, fun e => ?_, fun e => ?_, xAL_of h3 rfl, fun e1 e2 e3 => ?_, h5, ⟨h6, h7⟩, h8, h9, fun e => ?_, fun e => ?_, h12, fun e => ?_⟩
  · subst e; exact xAL_of (by simpa using h2) rfl
  · subst e; exact xAL_of (by simpa using h2) rfl
  · subst e1; subst e2
    rcases h4 with ((h4 | h4) | h4) | h4
    · cases h4
    · cases h4
    · exact absurd h4 e3
    · exact xAL_of h4 rfl
  · subst e; simpa using h10
  · subst e; simpa using h11
  · subst e; simpa using h13
theorem xL_ok {o k : Nat} {e : List Nat} (h : xlk o k = some e) : ∃ p, xchkL o (k, e) p = true := by
  unfold xlk at h
  cases hf : (xLkL o).find? (fun e => e.1 == k) with
  | none => rw [hf] at h; cases h
  | some q =>
    rw [hf] at h
    have he : q.2 = e := Option.some.inj h
    have h1 := List.find?_some hf
    have hk : q.1 = k := by simpa using h1
    have hm : q ∈ xLkL o := List.mem_of_find?_eq_some hf
    obtain ⟨p, hp⟩ := xchkL_all o q hm
    exact ⟨p, by rw [show (k, e) = q from Prod.ext hk.symm he.symm]; exact hp⟩
theorem xF_ok {o k ci f z : Nat} (h : xlk o k = some [0, ci, f, z]) : ci < 12 ∧ ((z = 0 ∧ Cond.fieldLink (xNm o) k ((xcl ci).2.1 f).1 ((xcl ci).2.1 f).2.1 ((xcl ci).2.1 f).2.2.1 ∈ xAL) ∨ (z ≠ 0 ∧ Cond.fieldLinkNest (xNm o) k ((xcl ci).2.1 f).1 ((xcl ci).2.1 f).2.1 ((xcl ci).2.1 f).2.2.1 "RhymeRing" ∈ xNW)) := by
  obtain ⟨p, hp⟩ := xL_ok h
  unfold xchkL at hp
  simp only [Bool.and_eq_true, decide_eq_true_eq] at hp
  refine ⟨hp.1, ?_⟩
  by_cases hz : z = 0
  · exact Or.inl ⟨hz, xAL_of (by simpa [hz] using hp.2) rfl⟩
  · exact Or.inr ⟨hz, xNW_of (by simpa [hz] using hp.2) rfl⟩
theorem xJ_ok {o k kd j : Nat} (h : xlk o k = some [1, kd, j]) : j < 296 ∧ ∀ {o' n ml : Nat} {y : MethodName} {code : ByteArray} {ret : Option FieldType} {ini stt : Bool}, xMI j = (o', n, ml, y, code, ret, ini, stt) → (((kd = 0 ∨ kd = 2 ∨ kd = 4) ∧ Cond.methodLink (xNm o) k y ∈ xAL) ∨ (¬ (kd = 0 ∨ kd = 2 ∨ kd = 4) ∧ Cond.methodLinkNest (xNm o) k y "RhymeRing" ∈ xNW)) ∧ stt = decide (kd = 2 ∨ kd = 3) ∧ ini = decide (kd = 4 ∨ kd = 5) ∧ ((xMP.getD j (0, 0, 0, 0)).2.2.2 ≠ 99999 ∨ 2 ≤ kd) := by
  obtain ⟨p, hp⟩ := xL_ok h
  unfold xchkL at hp
  simp only [Bool.and_eq_true, decide_eq_true_eq] at hp
  refine ⟨hp.1, fun {o' n ml y code ret ini stt} hq => ?_⟩
  have h2 := hp.2
  rw [hq] at h2
  simp only [Bool.and_eq_true, decide_eq_true_eq] at h2
  obtain ⟨⟨⟨h3, h4⟩, h5⟩, h6⟩ := h2
  refine ⟨?_, h4, h5, h6⟩
  by_cases hz : kd = 0 ∨ kd = 2 ∨ kd = 4
  · exact Or.inl ⟨hz, xAL_of (by simpa [hz] using h3) rfl⟩
  · exact Or.inr ⟨hz, xNW_of (by simpa [hz] using h3) rfl⟩
theorem xO_ok {o k : Nat} (h : xlk o k = some [2]) : Cond.methodLink (xNm o) k objectInit ∈ xAL := by
  obtain ⟨p, hp⟩ := xL_ok h
  exact xAL_of (by simpa [xchkL] using hp) rfl
theorem xN_ok {o k ci : Nat} (h : xlk o k = some [6, ci]) : ci < 12 ∧ Cond.classLink (xNm o) k (xcl ci).1 ∈ xAL := by
  obtain ⟨p, hp⟩ := xL_ok h
  simp only [xchkL, Bool.and_eq_true, decide_eq_true_eq] at hp
  exact ⟨hp.1, xAL_of hp.2 rfl⟩
theorem xA_ok {o k : Nat} (h : xlk o k = some [8]) : Cond.classLink (xNm o) k "[[I" ∈ xAL := by
  obtain ⟨p, hp⟩ := xL_ok h
  exact xAL_of (by simpa [xchkL] using hp) rfl
theorem xKI_ok {o k : Nat} (h : xlk o k = some [9]) : Cond.constant (xNm o) k (xKI o k) ∈ xAL := by
  obtain ⟨p, hp⟩ := xL_ok h
  exact xAL_of (by simpa [xchkL] using hp) rfl
theorem xKL_ok {o k : Nat} (h : xlk o k = some [10]) : Cond.constantLong (xNm o) k (xKL o k) ∈ xAL := by
  obtain ⟨p, hp⟩ := xL_ok h
  exact xAL_of (by simpa [xchkL] using hp) rfl
theorem xKS_ok {o k s : Nat} (h : xlk o k = some [11, s]) : s < 9 := by
  obtain ⟨p, hp⟩ := xL_ok h
  simpa [xchkL] using hp
theorem xlay_good : ∀ (C : String) (T : u_T) (N : Nat), ∀ w ∈ u_ws C T N, goodWord w = true := by
  intro C T N w hw
  obtain ⟨k, -, rfl⟩ := List.mem_map.mp hw
  unfold u_lay
  split <;> rfl
theorem xin_all {ci : Nat} (h : ci < 12) : ∀ w ∈ u_ws (xcl ci).1 (xcl ci).2.1 (xcl ci).2.2, w ∈ xAL := by
  intro w hw
  refine List.mem_filter.mpr ⟨?_, xlay_good _ _ _ w hw⟩
  rcases (show ci = 0 ∨ ci = 1 ∨ ci = 2 ∨ ci = 3 ∨ ci = 4 ∨ ci = 5 ∨ ci = 6 ∨ ci = 7 ∨ ci = 8 ∨ ci = 9 ∨ ci = 10 ∨ ci = 11 by omega) with rfl | rfl | rfl | rfl | rfl | rfl | rfl | rfl | rfl | rfl | rfl | rfl
  · exact xin_0 w hw
  · exact xin_1 w hw
  · exact xin_2 w hw
  · exact xin_3 w hw
  · exact xin_4 w hw
  · exact xin_5 w hw
  · exact xin_6 w hw
  · exact xin_7 w hw
  · exact xin_8 w hw
  · exact xin_9 w hw
  · exact xin_10 w hw
  · exact xin_11 w hw
theorem xnm_all {ci : Nat} (h : ci < 12) : ∀ a, a < (xcl ci).2.2 → ∀ b, b < (xcl ci).2.2 → a ≠ b → ((xcl ci).2.1 a).2.1 ≠ ((xcl ci).2.1 b).2.1 := by
  rcases (show ci = 0 ∨ ci = 1 ∨ ci = 2 ∨ ci = 3 ∨ ci = 4 ∨ ci = 5 ∨ ci = 6 ∨ ci = 7 ∨ ci = 8 ∨ ci = 9 ∨ ci = 10 ∨ ci = 11 by omega) with rfl | rfl | rfl | rfl | rfl | rfl | rfl | rfl | rfl | rfl | rfl | rfl
  · exact xnm_0
  · exact xnm_1
  · exact xnm_2
  · exact xnm_3
  · exact xnm_4
  · exact xnm_5
  · exact xnm_6
  · exact xnm_7
  · exact xnm_8
  · exact xnm_9
  · exact xnm_10
  · exact xnm_11
theorem xcl_at {ci : Nat} (h : ci < 12) : vwCl[ci]? = some (xcl ci) := by
  unfold xcl
  rw [List.getD_eq_getElem?_getD, List.getElem?_eq_getElem (show ci < vwCl.length from h)]
  rfl
theorem xC_ok {ci : Nat} (h : ci < 12) : (xcl ci).2.2 = xnf ci ∧ (xcl ci).1 = xNm ci ∧ Cond.instantiable (xcl ci).1 (xcl ci).2.2 ∈ xAL ∧ Cond.initialized (xcl ci).1 ∈ xAL ∧ ∀ k, k < xnf ci → parseFieldDescriptor ((xcl ci).2.1 k).2.2.1 = some (xty ci k) ∧ xtyc (xtg ci k) (xty ci k) = true ∧ ((xcl ci).2.1 k).1 = (xcl ci).1 := by
  have hc := List.all_eq_true.mp xchkC_all ci (List.mem_range.mpr h)
  unfold xchkC at hc
  simp only [Bool.and_eq_true, decide_eq_true_eq] at hc
  obtain ⟨⟨⟨⟨h1, h2⟩, h3⟩, h4⟩, h5⟩ := hc
  refine ⟨h1, h2, xAL_of h3 rfl, xAL_of h4 rfl, fun k hk => ?_⟩
  have := List.all_eq_true.mp h5 k (List.mem_range.mpr hk)
  simp only [Bool.and_eq_true, decide_eq_true_eq] at this
  exact ⟨this.1.1, this.1.2, this.2⟩
theorem xobj1 : Cond.instanceMethod objectInit ∈ xAL := xAL_of (p := 1031) (by decide +kernel) rfl
theorem xobj2 : Cond.code objectInit ⟨#[0xb1]⟩ 1 none ∈ xAL := xAL_of (p := 1032) (by decide +kernel) rfl
theorem xarr_c : Cond.arrayClass .char ∈ xAL := xAL_of (p := 1048) (by decide +kernel) rfl
theorem xarr_i : Cond.arrayClass .int ∈ xAL := xAL_of (p := 1111) (by decide +kernel) rfl
theorem xarr_b : Cond.arrayClass .byte ∈ xAL := xAL_of (p := 3200) (by decide +kernel) rfl
theorem xarr_z : Cond.arrayClass .boolean ∈ xAL := xAL_of (p := 8135) (by decide +kernel) rfl
theorem xarr_l : Cond.arrayClass .long ∈ xAL := xAL_of (p := 9104) (by decide +kernel) rfl
theorem xover_ii : Cond.arrayOver (.array .int) ∈ lw_tbl := xat_in (p := 1232) (by decide +kernel)
theorem xV_ok {o k j1 j2 : Nat} (h : xlk o k = some [3, j1, j2]) : (o = 10 ∧ k = 117 ∧ j1 = 293 ∧ j2 = 9999) ∨ (o = 12 ∧ k = 9 ∧ j1 = 110 ∧ j2 = 128) ∨ (o = 12 ∧ k = 24 ∧ j1 = 111 ∧ j2 = 129) ∨ (o = 10 ∧ k = 135 ∧ j1 = 9999 ∧ j2 = 293) := by
  obtain ⟨p, hp⟩ := xL_ok h
  simp only [xchkL, decide_eq_true_eq, List.mem_cons, Prod.mk.injEq, List.not_mem_nil, or_false] at hp
  exact hp
theorem xv_read7 : ∃ x : MethodName, Cond.methodLink (xNm 10) 117 x ∈ xAL ∧ Cond.sameMethod x.cls RX5 x.name x.desc ∈ xAL ∧ Cond.selects (xNm 7) x yX5_read ∈ xAL ∧ Cond.declares ⟨RX5, x.name, x.desc⟩ ∈ xNW ∧ (parseMethodDescriptor x.desc).map (fun d => d.parameters.length) = some 3 :=
  ⟨(⟨RX8, "read", "(LRhymeRing$Tokens;Ljava/lang/String;I)I"⟩ : MethodName), xAL_of (p := 2236) (by decide +kernel) rfl, xAL_of (p := 2237) (by decide +kernel) rfl, xAL_of (p := 2239) (by decide +kernel) rfl, xNW_of (p := 2238) (by decide +kernel) rfl, by decide +kernel⟩
theorem xv_read9 : ∃ x : MethodName, Cond.methodLink (xNm 10) 135 x ∈ xAL ∧ Cond.sameMethod x.cls RX5 x.name x.desc ∈ xAL ∧ Cond.selects (xNm 9) x yX5_read ∈ xAL ∧ Cond.declares ⟨RX5, x.name, x.desc⟩ ∈ xNW ∧ (parseMethodDescriptor x.desc).map (fun d => d.parameters.length) = some 3 :=
  ⟨(⟨RX10, "read", "(LRhymeRing$Tokens;Ljava/lang/String;I)I"⟩ : MethodName), xAL_of (p := 3206) (by decide +kernel) rfl, xAL_of (p := 3207) (by decide +kernel) rfl, xAL_of (p := 3208) (by decide +kernel) rfl, xNW_of (p := 2238) (by decide +kernel) rfl, by decide +kernel⟩
theorem xv_reset7 : ∃ x : MethodName, Cond.methodLink (xNm 12) 9 x ∈ xAL ∧ Cond.sameMethod x.cls RX5 x.name x.desc ∈ xAL ∧ Cond.selects (xNm 7) x yX8_reset ∈ xAL ∧ Cond.declares ⟨RX5, x.name, x.desc⟩ ∈ xNW ∧ (parseMethodDescriptor x.desc).map (fun d => d.parameters.length) = some 0 :=
  ⟨(⟨RX5, "reset", "()V"⟩ : MethodName), xAL_of (p := 3002) (by decide +kernel) rfl, xAL_of (p := 3004) (by decide +kernel) rfl, xAL_of (p := 3005) (by decide +kernel) rfl, xNW_of (p := 3003) (by decide +kernel) rfl, by decide +kernel⟩
theorem xv_reset9 : ∃ x : MethodName, Cond.methodLink (xNm 12) 9 x ∈ xAL ∧ Cond.sameMethod x.cls RX5 x.name x.desc ∈ xAL ∧ Cond.selects (xNm 9) x yX10_reset ∈ xAL ∧ Cond.declares ⟨RX5, x.name, x.desc⟩ ∈ xNW ∧ (parseMethodDescriptor x.desc).map (fun d => d.parameters.length) = some 0 :=
  ⟨(⟨RX5, "reset", "()V"⟩ : MethodName), xAL_of (p := 3002) (by decide +kernel) rfl, xAL_of (p := 3004) (by decide +kernel) rfl, xAL_of (p := 3008) (by decide +kernel) rfl, xNW_of (p := 3003) (by decide +kernel) rfl, by decide +kernel⟩
theorem xv_rule7 : ∃ x : MethodName, Cond.methodLink (xNm 12) 24 x ∈ xAL ∧ Cond.sameMethod x.cls RX5 x.name x.desc ∈ xAL ∧ Cond.selects (xNm 7) x yX8_readRule ∈ xAL ∧ Cond.declares ⟨RX5, x.name, x.desc⟩ ∈ xNW ∧ (parseMethodDescriptor x.desc).map (fun d => d.parameters.length) = some 2 :=
  ⟨(⟨RX5, "readRule", "(ILRhymeRing$Tokens;)Z"⟩ : MethodName), xAL_of (p := 3083) (by decide +kernel) rfl, xAL_of (p := 3085) (by decide +kernel) rfl, xAL_of (p := 3086) (by decide +kernel) rfl, xNW_of (p := 3084) (by decide +kernel) rfl, by decide +kernel⟩
theorem xv_rule9 : ∃ x : MethodName, Cond.methodLink (xNm 12) 24 x ∈ xAL ∧ Cond.sameMethod x.cls RX5 x.name x.desc ∈ xAL ∧ Cond.selects (xNm 9) x yX10_readRule ∈ xAL ∧ Cond.declares ⟨RX5, x.name, x.desc⟩ ∈ xNW ∧ (parseMethodDescriptor x.desc).map (fun d => d.parameters.length) = some 2 :=
  ⟨(⟨RX5, "readRule", "(ILRhymeRing$Tokens;)Z"⟩ : MethodName), xAL_of (p := 3083) (by decide +kernel) rfl, xAL_of (p := 3085) (by decide +kernel) rfl, xAL_of (p := 3109) (by decide +kernel) rfl, xNW_of (p := 3084) (by decide +kernel) rfl, by decide +kernel⟩
/-- a call that the receiver's class decides -/
theorem xV_all {o k j1 j2 j t n ml o' : Nat} {y : MethodName} {code : ByteArray} {ret : Option FieldType} {ini stt : Bool} (h : xlk o k = some [3, j1, j2]) (ht : t = 7 ∨ t = 9) (hj : (if t = 7 then j1 else j2) = j) (hn9 : j ≠ 9999) (hq : xMI j = (o', n, ml, y, code, ret, ini, stt)) : j < 296 ∧ stt = false ∧ ini = false ∧ (xMI (if j1 = 9999 then j2 else j1)).2.1 = n ∧ ∃ x : MethodName, Cond.methodLink (xNm o) k x ∈ xAL ∧ Cond.sameMethod x.cls RX5 x.name x.desc ∈ xAL ∧ Cond.selects (xNm t) x y ∈ xAL ∧ Cond.declares ⟨RX5, x.name, x.desc⟩ ∈ xNW ∧ (parseMethodDescriptor x.desc).map (fun d => d.parameters.length) = some (n - 1) := by
  rcases xV_ok h with ⟨rfl, rfl, rfl, rfl⟩ | ⟨rfl, rfl, rfl, rfl⟩ | ⟨rfl, rfl, rfl, rfl⟩ | ⟨rfl, rfl, rfl, rfl⟩ <;> rcases ht with rfl | rfl <;> (try (simp only [if_true] at hj)) <;> (try (rw [if_neg (by decide)] at hj)) <;> subst hj <;> first | (exact absurd rfl hn9) | (cases hq; exact ⟨by decide, rfl, rfl, rfl, xv_read7⟩) | (cases hq; exact ⟨by decide, rfl, rfl, rfl, xv_read9⟩) | (cases hq; exact ⟨by decide, rfl, rfl, rfl, xv_reset7⟩) | (cases hq; exact ⟨by decide, rfl, rfl, rfl, xv_reset9⟩) | (cases hq; exact ⟨by decide, rfl, rfl, rfl, xv_rule7⟩) | (cases hq; exact ⟨by decide, rfl, rfl, rfl, xv_rule9⟩)
theorem xSl_ok {o k : Nat} (h : xlk o k = some [4]) : Cond.methodLink (xNm o) k yJ0_length_8abf5 ∈ xAL := by
  obtain ⟨p, hp⟩ := xL_ok h
  exact xAL_of (by simpa [xchkL] using hp) rfl
theorem xSc_ok {o k : Nat} (h : xlk o k = some [5]) : Cond.methodLink (xNm o) k yJ0_charAt_5068e ∈ xAL := by
  obtain ⟨p, hp⟩ := xL_ok h
  exact xAL_of (by simpa [xchkL] using hp) rfl
theorem xstr_init : Cond.initialized RJ0 ∈ xAL := xAL_of (p := 1016) (by decide +kernel) rfl
theorem xstr_l_i : Cond.instanceMethod yJ0_length_8abf5 ∈ xAL := xAL_of (p := 3020) (by decide +kernel) rfl
theorem xstr_l_s : Cond.selects RJ0 yJ0_length_8abf5 yJ0_length_8abf5 ∈ xAL := xAL_of (p := 3021) (by decide +kernel) rfl
theorem xstr_l_c : Cond.code yJ0_length_8abf5 cJ0_length_8abf5 1 (some .int) ∈ xAL := xAL_of (p := 3022) (by decide +kernel) rfl
theorem xstr_c_i : Cond.instanceMethod yJ0_charAt_5068e ∈ xAL := xAL_of (p := 3030) (by decide +kernel) rfl
theorem xstr_c_s : Cond.selects RJ0 yJ0_charAt_5068e yJ0_charAt_5068e ∈ xAL := xAL_of (p := 3031) (by decide +kernel) rfl
theorem xstr_c_c : Cond.code yJ0_charAt_5068e cJ0_charAt_5068e 2 (some .char) ∈ xAL := xAL_of (p := 3032) (by decide +kernel) rfl
theorem xMx_ok {o k : Nat} (h : xlk o k = some [12]) : Cond.methodLink (xNm o) k Lib.Math.max.name ∈ xAL := by
  obtain ⟨p, hp⟩ := xL_ok h
  exact xAL_of (by simpa [xchkL] using hp) rfl
theorem xMn_ok {o k : Nat} (h : xlk o k = some [13]) : Cond.methodLink (xNm o) k Lib.Math.min.name ∈ xAL := by
  obtain ⟨p, hp⟩ := xL_ok h
  exact xAL_of (by simpa [xchkL] using hp) rfl
theorem xMl_ok {o k : Nat} (h : xlk o k = some [14]) : Cond.methodLink (xNm o) k Lib.MathLoose.min_long.x ∈ xAL := by
  obtain ⟨p, hp⟩ := xL_ok h
  exact xAL_of (by simpa [xchkL] using hp) rfl
theorem xmath_init : Cond.initialized "java/lang/Math" ∈ xAL := xAL_of (p := 1015) (by decide +kernel) rfl
theorem xmmax_s : Cond.static Lib.Math.max.name ∈ xAL := xAL_of (p := 3180) (by decide +kernel) rfl
theorem xmmax_c : Cond.code Lib.Math.max.name Lib.Math.max.code 2 (some .int) ∈ xAL := xAL_of (p := 3181) (by decide +kernel) rfl
theorem xmmin_s : Cond.static Lib.Math.min.name ∈ xAL := xAL_of (p := 2220) (by decide +kernel) rfl
theorem xmmin_c : Cond.code Lib.Math.min.name Lib.Math.min.code 2 (some .int) ∈ xAL := xAL_of (p := 2221) (by decide +kernel) rfl
theorem xmminl_s : Cond.static Lib.MathLoose.min_long.x ∈ xAL := xAL_of (p := 5061) (by decide +kernel) rfl
theorem xmminl_c : Cond.code Lib.MathLoose.min_long.x Lib.MathLoose.min_long.code 4 (some .long) ∈ xAL := xAL_of (p := 5062) (by decide +kernel) rfl
