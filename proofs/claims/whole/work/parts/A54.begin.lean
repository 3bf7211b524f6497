/-! WHAT STANDS AT THE LAW'S ENTRY -/
theorem xnw_ot {w : Cond} (h : xNest w = true) : w.onTables = true := by
  cases w <;> first | rfl | (simp [xNest] at h; done)
def xfl : List Cond := flatC (Jvm.Cond.and given_1 narrow_1)
def xbsz : List Nat := [23, 52, 74, 91, 109, 126, 151, 173, 193]
def xtm (k : Nat) : Term := match k with
  | 0 => .string "RhymeRing" 115
  | 1 => .string "RhymeRing$Tongue" 65
  | 2 => .string "RhymeRing$Yard" 55
  | 3 => .string "RhymeRing$Yard" 57
  | 4 => .string "RhymeRing$Yard" 59
  | 5 => .string "RhymeRing$Yard" 61
  | 6 => .string "RhymeRing$Yard" 63
  | 7 => .string "RhymeRing$Yard" 65
  | _ => .string "RhymeRing" 133
def xtx (k : Nat) : String := match k with
  | 0 => "vowels joined mute strong"
  | 1 => "first second last"
  | 2 => "words beats"
  | 3 => "heads fists"
  | 4 => "out stays"
  | 5 => "next same caller"
  | 6 => "never always"
  | 7 => "left free"
  | _ => "count by hit then turn left rhymes aim"
theorem xf_1 : ∀ i, i < 9 → xfl[xbsz.getD i 0]? = some (Cond.exactly (xtm i) "java/lang/String") := by decide +kernel
theorem xf_2 : ∀ i, i < 9 → xfl[xbsz.getD i 0 + 1]? = some (Cond.eq (.field (xtm i) "java/lang/String" "coder" "B") (.int 0)) := by decide +kernel
theorem xf_3 : ∀ i, i < 9 → xfl[xbsz.getD i 0 + 2]? = some (Cond.arrayOf (.field (xtm i) "java/lang/String" "value" "[B") .byte) := by decide +kernel
theorem xf_4 : ∀ i, i < 9 → xfl[xbsz.getD i 0 + 3]? = some (Cond.eq (.length (.field (xtm i) "java/lang/String" "value" "[B")) (.int (Int32.ofNat (xSlen.getD i 0)))) := by decide +kernel
theorem xf_5 : ∀ i, i < 9 → ∀ j, j < xSlen.getD i 0 → xfl[xbsz.getD i 0 + 4 + j]? = some (Cond.eq (.elem (.field (xtm i) "java/lang/String" "value" "[B") (.int (Int32.ofNat j))) (.int ((xSbyt.getD i []).getD j 0))) := by decide +kernel
theorem xf_6 : ∀ i, i < 9 → ∀ k, k < i → xfl[xbsz.getD i 0 + 4 + xSlen.getD i 0 + k]? = some (Cond.not (Cond.eq (xtm k) (xtm i))) := by decide +kernel
theorem xf_7 : ∀ i, i < 9 → xSlen.getD i 0 < 2 ^ 31 := by decide +kernel
theorem xf_c : xfl[4]? = some (Cond.eq (.static "java/lang/String" "COMPACT_STRINGS" "Z") (.int 1)) := by decide +kernel
theorem xf_s : xfl[5]? = some (Cond.isRef (.static "jdk/internal/util/Preconditions" "SIOOBE_FORMATTER" "Ljava/util/function/BiFunction;")) := by decide +kernel
theorem xf_u : xfl[9]? = some (Cond.isRef (.static Bundle.tN "UNASSIGNED_STACK" Bundle.steD)) := by decide +kernel
theorem xf_n : xfl[10]? = some (Cond.isRef (.static Bundle.tN "SUPPRESSED_SENTINEL" Bundle.listD)) := by decide +kernel
def xksl : List (Nat × Nat × Nat) := [(10, 115, 0), (7, 65, 1), (9, 55, 2), (9, 57, 3), (9, 59, 4), (9, 61, 5), (9, 63, 6), (9, 65, 7), (10, 133, 8)]
theorem xks_all : (List.range 17).all (fun o => (xLkL o).all (fun e => match e.2 with
  | [11, s] => decide ((o, e.1, s) ∈ xksl)
  | _ => true)) = true := by decide +kernel
theorem xks_in {o k s : Nat} (h : xlk o k = some [11, s]) : (o, k, s) ∈ xksl := by
  unfold xlk at h
  cases hf : (xLkL o).find? (fun e => e.1 == k) with
  | none => rw [hf] at h; cases h
  | some q =>
    rw [hf] at h
    have he : q.2 = [11, s] := Option.some.inj h
    have hk : q.1 = k := by simpa using List.find?_some hf
    have hm : q ∈ xLkL o := List.mem_of_find?_eq_some hf
    have ho : o < 17 := Nat.lt_of_not_le (fun w => by
      have e : xLkL o = [] := by
        unfold xLkL
        rw [List.getD_eq_getElem?_getD, List.getElem?_eq_none (show xLkLs.length ≤ o from w)]
        rfl
      rw [e] at hm
      cases hm)
    have h1 := List.all_eq_true.mp (List.all_eq_true.mp xks_all o (List.mem_range.mpr ho)) q hm
    obtain ⟨q1, q2⟩ := q
    subst he
    subst hk
    exact of_decide_eq_true h1
theorem xsr_all : ∀ q ∈ xksl, Cond.stringRef (xNm q.1) q.2.1 (xtx q.2.2) ∈ lw_tbl := by
  have h : ∀ q ∈ xksl, ∃ p, p ∈ [2235, 3107, 3133, 3134, 3135, 3136, 3137, 3138, 3205] ∧ xat p = some (Cond.stringRef (xNm q.1) q.2.1 (xtx q.2.2)) := by decide +kernel
  intro q hq
  obtain ⟨p, -, hp⟩ := h q hq
  exact xat_in hp
theorem xsr_tm : ∀ q ∈ xksl, Term.string (xNm q.1) q.2.1 = xtm q.2.2 ∧ q.2.2 < 9 := by decide +kernel
theorem xS_sa {N : Nat} {len : List Nat} {byt : List (List Int32)} {adK adV sa : Nat → Nat} {A : Nat → Prop} {U : State} {H : Heap} (h : vk_S N len byt adK adV A U H) (e : ∀ i, i < N → sa i = adK i) : vk_S N len byt sa adV A U H :=
  ⟨fun i hi => by rw [e i hi]; exact h.1 i hi, fun i j hi hj q => h.2 i j hi hj (by rw [← e i hi, ← e j hj]; exact q)⟩
theorem xar_st {s : State} {args : Array Value} {ty : FieldType} (h : (Cond.arrayClass ty).before args s = true) : ∃ cA, ArrOfT s cA ty ∧ s.vm.findClass ("[" ++ ty.toString) = some cA := by
  obtain ⟨c, k, comp, h1, h2, h3⟩ := Cond.arrayClass_spec h
  exact ⟨c, fun n z => ⟨fun k h => (by cases h), k, h2, comp, h3⟩, h1⟩
theorem xar_ob {s : State} {args : Array Value} {C : String} (h : (Cond.arrayOver (.object C)).before args s = true) : ∃ cA, ArrOfT s cA (.object C) ∧ va_RA s cA (.object C) := by
  obtain ⟨comp, c, k, f1, -, f2, f3, f4⟩ := Cond.arrayOver_spec h
  exact ⟨c, fun n z => ⟨fun k h => (by cases h), k, f2, comp, f3⟩, k, comp, f2, f3, f1, f4⟩
theorem xar_ii {s : State} {args : Array Value} (h : (Cond.arrayOver (.array .int)).before args s = true) : ∃ cA, ArrOfT s cA (.array .int) ∧ va_RA s cA (.array .int) := by
  obtain ⟨comp, c, k, f1, f2, f3, f4, f5⟩ := arrayOverA_spec h
  exact ⟨c, fun n z => ⟨fun k h => (by cases h), k, f3, comp, f4⟩, f5⟩
theorem xao3 : Cond.arrayOver (.object RX3) ∈ lw_tbl := xat_in (p := 1138) (by decide +kernel)
theorem xao1 : Cond.arrayOver (.object RX1) ∈ lw_tbl := xat_in (p := 1230) (by decide +kernel)
theorem xG_start {s : State} {b : Nat} (hts : ∀ w ∈ lw_tbl, w.before #[Value.ref b] s = true) (hgv : (Jvm.Cond.and given_1 narrow_1).before #[Value.ref b] s = true) : ∃ (D : va_G) (cy : Nat → ClassId) (sa sv : Nat → Nat), sa 9 = b ∧ xG s.heap.size D cy sa sv s ∧ xXG s.heap.size s := by
  have hA : ∀ a : Nat, a < s.heap.size → ¬ (fun q : Nat => s.heap.size ≤ q) a := fun a ha => Nat.not_le.mpr ha
  have hAL : ∀ w ∈ xAL, w.before #[Value.ref b] s = true := fun w hw => hts w (List.mem_filter.mp hw).1
  have hs : ∀ {k : Nat} {w : Cond}, xfl[k]? = some w → w.before #[Value.ref b] s = true := fun h => flat_of_before _ hgv _ (List.mem_of_getElem? h)
  have h0 : ∀ ci : Nat, ∃ q : ClassId × (Nat → Nat), ci < 12 → u_Kn s (xcl ci).1 (xcl ci).2.1 (xcl ci).2.2 q.1 q.2 := by
    intro ci
    by_cases h : ci < 12
    · obtain ⟨cC, iS, hK⟩ := u_known hAL (xin_all h) (hAL _ (xC_ok h).2.2.1)
      exact ⟨(cC, iS), fun _ => hK⟩
    · exact ⟨(0, fun _ => 0), fun w => absurd w h⟩
  obtain ⟨ad, had⟩ := Classical.axiomOfChoice h0
  obtain ⟨adK, adV, hS, hev⟩ := vk_Sof (args := #[Value.ref b]) (s := s) (N := 9) (tm := xtm) (len := xSlen) (byt := xSbyt) (A := fun q => s.heap.size ≤ q) xf_7 (fun i hi => hs (xf_1 i hi)) (fun i hi => hs (xf_2 i hi)) (fun i hi => hs (xf_3 i hi)) (fun i hi => hs (xf_4 i hi)) (fun i hi j hj => hs (xf_5 i hi j hj)) (fun i j hi hj hne => by
    rcases Nat.lt_or_gt_of_ne hne with h | h
    · exact Or.inl (hs (xf_6 j hj i h))
    · exact Or.inr (hs (xf_6 i hi j h))) hA
  obtain ⟨c0, a0, b0⟩ := xar_st (hAL _ xarr_i)
  obtain ⟨c1, a1, b1⟩ := xar_st (hAL _ xarr_c)
  obtain ⟨c2, a2, b2⟩ := xar_st (hAL _ xarr_b)
  obtain ⟨c3, a3, b3⟩ := xar_st (hAL _ xarr_z)
  obtain ⟨c4, a4, b4⟩ := xar_st (hAL _ xarr_l)
  obtain ⟨c5, a5, b5⟩ := xar_ob (hts _ xao3)
  obtain ⟨c6, a6, b6⟩ := xar_ob (hts _ xao1)
  obtain ⟨c7, a7, b7⟩ := xar_ii (hts _ xover_ii)
  have hsaE : ∀ i, i < 9 → (fun k => if k = 9 then b else adK k) i = adK i := fun i hi => if_neg (by omega)
  refine ⟨(fun ci => (ad ci).1, fun ci => (ad ci).2), fun t => if t = 20 then c0 else if t = 21 then c1 else if t = 22 then c2 else if t = 23 then c3 else if t = 24 then c4 else if t = 25 then c5 else if t = 26 then c6 else c7, fun k => if k = 9 then b else adK k, adV, if_pos rfl, ⟨⟨?_, ?_⟩, ?_, ?_, xS_sa hS hsaE, ?_, hts _ xao3, hts _ xao1, Nat.le_refl _, ?_, hts _ xover_ii⟩, ?_⟩
  · intro ci q hq
    have hci : ci < 12 := (List.getElem?_eq_some_iff.mp hq).1
    have e := Option.some.inj ((xcl_at hci).symm.trans hq)
    rw [← e]
    exact had ci hci
  · intro k q hk
    match k, hk with
    | 0, hk => have e := Option.some.inj (show some (c0, FieldType.int) = some q from hk); subst e; exact ⟨a0, b0⟩
    | 1, hk => have e := Option.some.inj (show some (c1, FieldType.char) = some q from hk); subst e; exact ⟨a1, b1⟩
    | 2, hk => have e := Option.some.inj (show some (c2, FieldType.byte) = some q from hk); subst e; exact ⟨a2, b2⟩
    | 3, hk => have e := Option.some.inj (show some (c3, FieldType.boolean) = some q from hk); subst e; exact ⟨a3, b3⟩
    | 4, hk => have e := Option.some.inj (show some (c4, FieldType.long) = some q from hk); subst e; exact ⟨a4, b4⟩
    | 5, hk => have e := Option.some.inj (show some (c5, FieldType.object RX3) = some q from hk); subst e; exact ⟨a5, b5⟩
    | 6, hk => have e := Option.some.inj (show some (c6, FieldType.object RX1) = some q from hk); subst e; exact ⟨a6, b6⟩
    | 7, hk => have e := Option.some.inj (show some (c7, FieldType.array .int) = some q from hk); subst e; exact ⟨a7, b7⟩
    | k + 8, hk => simp [xtys] at hk
  · exact fun w hw => va_Nw.of (xnw_ot (List.mem_filter.mp hw).2) (hts w (List.mem_filter.mp hw).1)
  · intro o k s' h
    have hm := xks_in h
    obtain ⟨e1, e2⟩ := xsr_tm _ hm
    have e1 : Term.string (xNm o) k = xtm s' := e1
    have e2 : s' < 9 := e2
    refine ⟨xtx s', vk_R.of (A := #[Value.ref b]) (hts _ (xsr_all _ hm)) ?_⟩
    rw [e1, hsaE s' e2]
    exact hev s' e2
  · exact va_Zof (hts _ (xat_in (p := 3028) (by decide +kernel))) (hAL _ xstr_init) (va_eqi (hs xf_c)) hA
  · rcases va_Zqof (hts _ (xat_in (p := 3044) (by decide +kernel))) (hts _ (xat_in (p := 1018) (by decide +kernel))) (hs xf_s) hA with h | ⟨t, h⟩
    · exact ⟨.null, h, rfl⟩
    · exact ⟨.ref t, h, rfl⟩
  · exact ⟨va_Nw.of rfl (hts _ (xat_in (p := 6066) (by decide +kernel))), vx_Zqof (hts _ (xat_in (p := 6091) (by decide +kernel))) (hts _ (xat_in (p := 1021) (by decide +kernel))) (hs xf_u) hA, vx_Zqof (hts _ (xat_in (p := 6093) (by decide +kernel))) (hts _ (xat_in (p := 1021) (by decide +kernel))) (hs xf_n) hA⟩
