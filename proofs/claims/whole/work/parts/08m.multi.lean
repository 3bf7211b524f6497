/-! A NEW int[n][k]: the outer row, its rows behind it -/
theorem xao_moved {u U : State} (hvm : u.vm.Alike U.vm) (h : (Cond.arrayOver (.array .int)).before #[] u = true) : (Cond.arrayOver (.array .int)).before #[] U = true := by
  obtain ⟨comp, c, k, h1, h2, h3, h4, h5⟩ := arrayOverA_spec h
  obtain ⟨k', hk', he⟩ := hvm.2.2 _ _ h3
  have hi : (U.vm.classes.findIdx? fun (x : Class) => match x.kind with | .array component _ => component == comp | _ => false) = some c := by
    rw [hvm.findIdx?_eq _ (fun _ => rfl)]
    exact h2
  have hkind : k'.kind = .array comp (.array .int) := by rw [he]; exact h4
  have f1 : U.vm.findClass (FieldType.array .int).toString = some comp := by rw [hvm.findClass]; exact h1
  have f2 : U.vm.findClass ("[" ++ (FieldType.array .int).toString) = some c := by rw [hvm.findClass]; exact h5
  unfold Cond.before Cond.holds
  simp only [Cond.value]
  rw [f1, Option.bind_some]
  refine (congrArg (fun o : Option Nat => (o.bind (fun c => (U.vm.classes[c]?).map fun (k : Class) => match k.kind with | .array _ ty => decide (ty = FieldType.array .int) && decide (U.vm.findClass ("[" ++ (FieldType.array .int).toString) = some c) | _ => false) == some true)) hi).trans ?_
  simp [hk', hkind, f2]
/-- an inner row; the outer one with its first i rows there -/
def xmr (comp : ClassId) (K : Nat) : Cell := { cls := comp, slots := Array.replicate K (.int 0), vm := .none }
def xmou (cA : ClassId) (N h i : Nat) : Cell := { cls := cA, slots := ((List.range N).map (fun j => if j < i then Value.ref (h + 1 + j) else .null)).toArray, vm := .none }
def xmpu (comp : ClassId) (K : Nat) : Nat → State → State
  | 0, s => s
  | j + 1, s => (xmpu comp K j s).pushCell (xmr comp K)
theorem xmou_size (cA : ClassId) (N h i : Nat) : (xmou cA N h i).slots.size = N := by unfold xmou; simp
theorem xmou_g (cA : ClassId) (N h i j : Nat) : (xmou cA N h i).slots[j]? = if j < N then some (if j < i then Value.ref (h + 1 + j) else .null) else none := by
  unfold xmou
  rw [List.getElem?_toArray, List.getElem?_map]
  rcases Nat.lt_or_ge j N with q | q
  · rw [List.getElem?_range q, if_pos q]; rfl
  · rw [List.getElem?_eq_none (by rw [List.length_range]; exact q), if_neg (by omega)]; rfl
theorem xmou_0 (cA : ClassId) (N h : Nat) : xmou cA N h 0 = { cls := cA, slots := Array.replicate N .null, vm := .none } := by
  have e : (xmou cA N h 0).slots = Array.replicate N .null := by
    apply Array.ext_getElem?
    intro j
    rw [xmou_g, Array.getElem?_replicate, if_neg (Nat.not_lt_zero j)]
  show ({ cls := cA, slots := (xmou cA N h 0).slots, vm := .none } : Cell) = _
  rw [e]
theorem xmou_s (cA : ClassId) (N h i : Nat) (hi : i < N) : (xmou cA N h i).setSlot i (.ref (h + 1 + i)) = xmou cA N h (i + 1) := by
  have e : (xmou cA N h i).slots.setIfInBounds i (.ref (h + 1 + i)) = (xmou cA N h (i + 1)).slots := by
    apply Array.ext_getElem?
    intro j
    rw [Array.getElem?_setIfInBounds, xmou_g, xmou_g, xmou_size, if_pos hi]
    rcases Nat.lt_trichotomy j i with q | q | q
    · rw [if_neg (by omega), if_pos q, if_pos (show j < i + 1 by omega)]
    · subst q; rw [if_pos rfl, if_pos hi, if_pos (show j < j + 1 by omega)]
    · rw [if_neg (by omega), if_neg (show ¬ j < i by omega), if_neg (show ¬ j < i + 1 by omega)]
  show ({ cls := cA, slots := (xmou cA N h i).slots.setIfInBounds i (.ref (h + 1 + i)), vm := .none } : Cell) = _
  rw [e]
  rfl
theorem xmpu_size (comp : ClassId) (K : Nat) (s : State) : ∀ j, (xmpu comp K j s).heap.size = s.heap.size + j ∧ (xmpu comp K j s).slotsUsed = s.slotsUsed + j * K ∧ (xmpu comp K j s).vm = s.vm
  | 0 => ⟨rfl, by rw [Nat.zero_mul]; rfl, rfl⟩
  | j + 1 => by
    obtain ⟨a, b, d⟩ := xmpu_size comp K s j
    refine ⟨?_, ?_, d⟩
    · show ((xmpu comp K j s).heap.push _).size = _
      rw [Array.size_push, a]; rfl
    · show (xmpu comp K j s).slotsUsed + (Array.replicate K (Value.int 0)).size = _
      rw [b, Array.size_replicate, Nat.succ_mul]; omega
theorem xpush_set (s : State) (x b : Cell) {h : Nat} (hh : h < s.heap.size) : (s.pushCell x).setCell h b = (s.setCell h b).pushCell x := by
  have e : (s.heap.push x).setIfInBounds h b = (s.heap.setIfInBounds h b).push x := by
    apply Array.ext_getElem?
    intro j
    rw [Array.getElem?_setIfInBounds, Array.getElem?_push, Array.getElem?_push, Array.getElem?_setIfInBounds, Array.size_push, Array.size_setIfInBounds]
    rcases Decidable.em (h = j) with q | q
    · subst q; rw [if_pos rfl, if_pos (by omega), if_neg (by omega), if_pos rfl, if_pos hh]
    · rw [if_neg q, if_neg q]
  show ({ s with heap := (s.heap.push x).setIfInBounds h b, slotsUsed := _ } : State) = _
  rw [e]
  rfl
theorem xmpu_set (comp : ClassId) (K : Nat) (b : Cell) {h : Nat} : ∀ (j : Nat) (s : State), h < s.heap.size → (xmpu comp K j s).setCell h b = xmpu comp K j (s.setCell h b)
  | 0, _, _ => rfl
  | j + 1, s, hh => by
    show ((xmpu comp K j s).pushCell _).setCell h b = _
    rw [xpush_set _ _ _ (by rw [(xmpu_size comp K s j).1]; omega), xmpu_set comp K b j s hh]
    rfl
theorem xpush_own (s : State) (a b : Cell) (h : a.slots.size = b.slots.size) : (s.pushCell a).setCell s.heap.size b = s.pushCell b := by
  have e : (s.heap.push a).setIfInBounds s.heap.size b = s.heap.push b := by
    apply Array.ext_getElem?
    intro j
    rw [Array.getElem?_setIfInBounds, Array.getElem?_push, Array.getElem?_push, Array.size_push]
    rcases Decidable.em (s.heap.size = j) with q | q
    · subst q; rw [if_pos rfl, if_pos (by omega), if_pos rfl]
    · rw [if_neg q, if_neg (fun z => q z.symm), if_neg (fun z => q z.symm)]
  show ({ s with heap := (s.heap.push a).setIfInBounds s.heap.size b, slotsUsed := s.slotsUsed + a.slots.size } : State) = _
  rw [e, h]
  rfl
theorem xmpu_old (comp : ClassId) (K : Nat) (s : State) {a : Nat} (ha : a < s.heap.size) : ∀ j, (xmpu comp K j s).heap[a]? = s.heap[a]?
  | 0 => rfl
  | j + 1 => by
    show ((xmpu comp K j s).heap.push _)[a]? = _
    rw [Array.getElem?_push, if_neg (by rw [(xmpu_size comp K s j).1]; omega)]
    exact xmpu_old comp K s ha j
theorem xmpu_new (comp : ClassId) (K : Nat) (s : State) : ∀ j i, i < j → (xmpu comp K j s).heap[s.heap.size + i]? = some (xmr comp K)
  | 0, _, h => absurd h (Nat.not_lt_zero _)
  | j + 1, i, h => by
    show ((xmpu comp K j s).heap.push _)[s.heap.size + i]? = _
    rw [Array.getElem?_push, (xmpu_size comp K s j).1]
    rcases Decidable.em (i = j) with q | q
    · rw [if_pos (by omega)]
    · rw [if_neg (by omega)]
      exact xmpu_new comp K s j i (by omega)
section XMULTI
variable {E : CtlPost} {e : Env} {d : Bool} {acts : List Action} {s : State}
theorem xm_new {c comp : ClassId} {k : Class} {ty : FieldType} {N : Nat} {v : Value} (hk : s.vm.classes[c]? = some k) (hkind : k.kind = .array comp ty) (h1 : ¬ N > e.platform.arrayLengthLimit) (h2 : ¬ N * componentBytes ty > e.platform.maxHeapBytes) (hf : fits ty v = true) (hd : v.isDefault = true) {Q : Addr → Pre} (c1 : s.heap.size < e.platform.maxCells) (c2 : s.slotsUsed + N ≤ e.platform.maxSlots) (hq : Q s.heap.size d acts (s.pushCell { cls := c, slots := Array.replicate N v, vm := .none })) : wp (Jvm.newArray c N v) Q E e d acts s := by
  have ha : allocActs (Array.replicate N v) s.heap.size acts = acts := by
    unfold allocActs
    rw [if_pos (by rw [Array.all_replicate]; split <;> simp [hd])]
  simp only [Jvm.newArray, Jvm.arrayFits, wp_bind', W.ask, W.ite, h1, if_false, wp_pure', W.theClass, hk, hkind, h2, W.alloc, W.stop, Option.some.injEq, exists_eq_left', Array.size_replicate, ha]
  rw [if_neg (by omega)]
  refine ⟨c1, c2, fun i w hw => ?_, hq⟩
  rw [Array.getElem?_replicate] at hw
  split at hw
  · cases hw; simp [State.fitsSlot, State.slotType?, hk, hkind, hf]
  · cases hw
theorem xm_make {cA comp cc : ClassId} {k kc : Class} {n m : Int32} (hk : s.vm.classes[cA]? = some k) (hkind : k.kind = .array comp (.array .int)) (hkc : s.vm.classes[comp]? = some kc) (hkindc : kc.kind = .array cc .int) (hn : ¬ n < 0) (hm : ¬ m < 0)
    (l1 : ¬ n.toNatClampNeg > e.platform.arrayLengthLimit) (l2 : ¬ n.toNatClampNeg * componentBytes (.array .int) > e.platform.maxHeapBytes) (l3 : ¬ m.toNatClampNeg > e.platform.arrayLengthLimit) (l4 : ¬ m.toNatClampNeg * componentBytes .int > e.platform.maxHeapBytes)
    (hc : s.heap.size + 1 + n.toNatClampNeg ≤ e.platform.maxCells) (hs : s.slotsUsed + n.toNatClampNeg + n.toNatClampNeg * m.toNatClampNeg ≤ e.platform.maxSlots) {Q : Addr → Pre}
    (hq : ∀ d' acts', Q s.heap.size d' acts' (xmpu comp m.toNatClampNeg n.toNatClampNeg (s.pushCell (xmou cA n.toNatClampNeg s.heap.size n.toNatClampNeg)))) : wp (Op.multianewarray.make cA [n, m]) Q E e d acts s := by
  have hfind : ([m].find? (· < 0)) = none := by simp [hm]
  have hz := Nat.zero_le (n.toNatClampNeg * m.toNatClampNeg)
  rw [Op.multianewarray.make]
  simp only [wp_bind', W.ite, hn, if_false, wp_pure', W.theClass, hk, hkind, Option.some.injEq, exists_eq_left']
  refine xm_new hk hkind l1 l2 rfl rfl (by omega) (by omega) ?_
  rw [← xmou_0 cA n.toNatClampNeg s.heap.size]
  simp only [hfind]
  rw [ite_self, wp_bind', Std.Legacy.Range.forIn_eq_forIn_range']
  have hsz : ([:n.toNatClampNeg] : Std.Legacy.Range).size = n.toNatClampNeg := by simp [Std.Legacy.Range.size]
  rw [hsz]
  show wp (forIn (List.range' 0 n.toNatClampNeg 1) PUnit.unit _) _ E e d acts _
  generalize hN : n.toNatClampNeg = N at *
  generalize hK : m.toNatClampNeg = K at *
  refine wp_forIn_inv (fun rest s' => ∃ i, i ≤ N ∧ rest = List.range' i (N - i) ∧ s' = xmpu comp K i (s.pushCell (xmou cA N s.heap.size i))) _ _ ⟨0, Nat.zero_le _, rfl, rfl⟩ ?_ ?_
  · rintro x rest s' d' acts' Q' ⟨i, hi, hl, rfl⟩ hnext
    have hlt : i < N := by
      rcases Nat.lt_or_ge i N with h | h
      · exact h
      · rw [show N - i = 0 from by omega] at hl; cases hl
    rw [show N - i = (N - (i + 1)) + 1 from by omega, List.range'_succ] at hl
    obtain ⟨rfl, hrest⟩ := List.cons.inj hl
    have z0 : (s.pushCell (xmou cA N s.heap.size x)).heap.size = s.heap.size + 1 := by
      show (s.heap.push _).size = _
      rw [Array.size_push]
    obtain ⟨z1, z2, z3⟩ := xmpu_size comp K (s.pushCell (xmou cA N s.heap.size x)) x
    have z4 : (s.pushCell (xmou cA N s.heap.size x)).slotsUsed = s.slotsUsed + N := by
      show s.slotsUsed + (xmou cA N s.heap.size x).slots.size = _
      rw [xmou_size]
    have hmul : x * K + K ≤ N * K := by
      have := Nat.mul_le_mul_right K (show x + 1 ≤ N from hlt)
      rw [Nat.succ_mul] at this
      exact this
    have hkc' : (xmpu comp K x (s.pushCell (xmou cA N s.heap.size x))).vm.classes[comp]? = some kc := by rw [z3]; exact hkc
    have hk' : (xmpu comp K (x + 1) (s.pushCell (xmou cA N s.heap.size x))).vm.classes[cA]? = some k := by rw [(xmpu_size comp K _ (x + 1)).2.2]; exact hk
    simp only [wp_bind']
    rw [Op.multianewarray.make]
    simp only [wp_bind', W.ite, hm, if_false, wp_pure', W.theClass, hkc', hkindc, Option.some.injEq, exists_eq_left']
    rw [hK]
    refine xm_new (v := defaultValue .int) hkc' hkindc l3 l4 rfl rfl (by rw [z1, z0]; omega) (by rw [z2, z4]; omega) ?_
    simp only [wp_bind', W.writeLoc, wp_pure']
    have hcell : (xmpu comp K (x + 1) (s.pushCell (xmou cA N s.heap.size x))).heap[s.heap.size]? = some (xmou cA N s.heap.size x) := by
      rw [xmpu_old _ _ _ (by rw [z0]; omega)]
      exact Array.getElem?_push_size
    refine ⟨xmou cA N s.heap.size x, hcell, (fun h => by cases h), (by rw [xmou_size]; exact hlt), ?_, hnext _ _ _ ⟨x + 1, hlt, hrest, ?_⟩⟩
    · show State.fitsSlot (xmpu comp K (x + 1) (s.pushCell (xmou cA N s.heap.size x))) cA .none x (.ref _) = true
      simp [State.fitsSlot, State.slotType?, hk', hkind, fits]
    · rw [z1, z0, xmou_s _ _ _ _ hlt]
      show (xmpu comp K (x + 1) (s.pushCell (xmou cA N s.heap.size x))).setCell s.heap.size _ = _
      rw [xmpu_set _ _ _ _ _ (by rw [z0]; omega), xpush_own _ _ _ (by rw [xmou_size, xmou_size])]
  · rintro s' d' acts' ⟨i, hi, hl, rfl⟩
    have hiN : i = N := by
      rcases Nat.lt_or_ge i N with h | h
      · rw [show N - i = (N - (i + 1)) + 1 from by omega, List.range'_succ] at hl; cases hl
      · omega
    subst hiN
    simp only [wp_pure']
    exact hq _ _
end XMULTI
section XMULTW
variable {p : Program} {l : Launch} {e : Env} {R : Room} {s : State} {m : MethodId} {args : Array Value} {below : List Frame} {meth : Method} {c : Code} {H : Heap} {locs : List Loc} {cells slots : Nat} {Q : State → Prop}
theorem xm_stand {T : State} (X : Stand p l e R s m args below meth c T locs cells slots) (comp : ClassId) (K : Nat) : ∀ j, Stand p l e R s m args below meth c (xmpu comp K j T) locs (cells + j) (slots + j * K)
  | 0 => by rw [Nat.zero_mul]; exact X
  | j + 1 => by
    have h := (xm_stand X comp K j).pushed (xmr comp K)
    have e1 : (xmr comp K).slots.size = K := by unfold xmr; simp
    rw [e1] at h
    rw [Nat.succ_mul, ← Nat.add_assoc slots]
    exact h
theorem xmpu_setTop (comp : ClassId) (K : Nat) (s : State) (f : JFrame) : ∀ j, xmpu comp K j (s.setTop f) = (xmpu comp K j s).setTop f
  | 0 => rfl
  | j + 1 => by
    show (xmpu comp K j (s.setTop f)).pushCell _ = _
    rw [xmpu_setTop comp K s f j, State.pushCell_setTop]
    rfl
theorem xw_multi {cc : ByteArray} (hexec : p.tables.exec = Jvm.exec) (hb : c.code = cc) {own : String} {index : Nat} (hown : s.vm.findClass own = some m.cls) (hclink : (Cond.classLink own index "[[I").before args s = true) (hover : (Cond.arrayOver (.array .int)).before #[] s = true) (harr : (Cond.arrayClass .int).before args s = true)
    {pc : Nat} {ls : Array Slot} {rest : List Value} {n k : Int32} (hn : ¬ n < 0) (hk : ¬ k < 0) (hb1 : n.toNatClampNeg ≤ 1000) (hb2 : k.toNatClampNeg ≤ 1000) (hcells : cells + (1 + n.toNatClampNeg) ≤ R.cells) (hslots : slots + (n.toNatClampNeg + n.toNatClampNeg * k.toNatClampNeg) ≤ R.slots) (hdg : decode cc pc = .ok (.multianewarray index 2, 4))
    (kk : ∀ (cA comp : ClassId) (H1 : Heap), s.vm.findClass "[[I" = some cA → s.vm.findClass "[I" = some comp → H1.size = H.size + 1 + n.toNatClampNeg → (∀ a : Nat, a < H.size → H1[a]? = H[a]?) → H1[H.size]? = some (xmou cA n.toNatClampNeg H.size n.toNatClampNeg) → (∀ i, i < n.toNatClampNeg → H1[H.size + 1 + i]? = some (xmr comp k.toNatClampNeg)) →
      W p l e R s m args below meth c H1 locs (cells + 1 + n.toNatClampNeg) (slots + n.toNatClampNeg + n.toNatClampNeg * k.toNatClampNeg) Q (F0 m (pc + 4) ls (.ref H.size :: rest))) : W p l e R s m args below meth c H locs cells slots Q (F0 m pc ls (.int k :: .int n :: rest)) := by
  intro T hT X
  subst hT; subst hb
  have hpl : e.platform.magicAccessors = ({} : Platform).magicAccessors := by rw [X.admits.platform]
  obtain ⟨comp, cA, kA, hcomp, hidx, hkA, hkindA, hnameA⟩ := arrayOverA_spec hover
  obtain ⟨comp', kC, cc2, hcomp', hkC, hkindC⟩ := Cond.arrayClass_spec harr
  have ecomp : comp' = comp := Option.some.inj (hcomp'.symm.trans hcomp)
  subst ecomp
  obtain ⟨c0, hfc0, hcl⟩ := Cond.classLink_spec hown hclink e.platform hpl
  have ec0 : cA = c0 := Option.some.inj (hnameA.symm.trans hfc0)
  subst ec0
  obtain ⟨hg₁, hwarm₁, hready₁⟩ := State.classEntry (e := e) X.warmed hcl
  generalize T.vm.noted m.cls index (.cls cA) = vm₁ at hg₁ hwarm₁ hready₁
  have hal : s.vm.Alike vm₁ := hwarm₁.alike
  obtain ⟨kA₁, hkA₁, heA⟩ := hal.2.2 _ _ hkA
  obtain ⟨kC₁, hkC₁, heC⟩ := hal.2.2 _ _ hkC
  have hkindA₁ : kA₁.kind = .array comp' (.array .int) := by rw [heA]; exact hkindA
  have hkindC₁ : kC₁.kind = .array cc2 .int := by rw [heC]; exact hkindC
  have X₁ := X.noted hwarm₁
  obtain ⟨hr1, hr2⟩ := X.roomAbove hcells hslots
  have l1 : ¬ n.toNatClampNeg > e.platform.arrayLengthLimit := by rw [Launch.admits_arrayLengthLimit X.admits]; omega
  have l2 : ¬ n.toNatClampNeg * componentBytes (.array .int) > e.platform.maxHeapBytes := by rw [Launch.admits_maxHeapBytes X.admits]; show ¬ n.toNatClampNeg * 4 > 536870912; omega
  have l3 : ¬ k.toNatClampNeg > e.platform.arrayLengthLimit := by rw [Launch.admits_arrayLengthLimit X.admits]; omega
  have l4 : ¬ k.toNatClampNeg * componentBytes .int > e.platform.maxHeapBytes := by rw [Launch.admits_maxHeapBytes X.admits]; show ¬ k.toNatClampNeg * 4 > 536870912; omega
  have XP := X₁.pushed (xmou cA n.toNatClampNeg T.heap.size n.toNatClampNeg)
  rw [xmou_size] at XP
  have XF := xm_stand XP comp' k.toNatClampNeg n.toNatClampNeg
  generalize hTF : xmpu comp' k.toNatClampNeg n.toNatClampNeg ((T.setVm vm₁).pushCell (xmou cA n.toNatClampNeg T.heap.size n.toNatClampNeg)) = TF at XF
  have hz : ((T.setVm vm₁).pushCell (xmou cA n.toNatClampNeg T.heap.size n.toNatClampNeg)).heap.size = T.heap.size + 1 := by
    show (T.heap.push _).size = _
    rw [Array.size_push]
  obtain ⟨t, a1, b1⟩ := kk cA comp' TF.heap hnameA hcomp (by rw [← hTF, (xmpu_size _ _ _ _).1, hz]) (fun a ha => by
      rw [← hTF, xmpu_old _ _ _ (by rw [hz]; omega)]
      show (T.heap.push _)[a]? = _
      rw [Array.getElem?_push, if_neg (by omega)]) (by
      rw [← hTF, xmpu_old _ _ _ (by rw [hz]; omega)]
      exact Array.getElem?_push_size) (fun i hi => by
      have h := xmpu_new comp' k.toNatClampNeg ((T.setVm vm₁).pushCell (xmou cA n.toNatClampNeg T.heap.size n.toNatClampNeg)) n.toNatClampNeg i hi
      rw [hz] at h
      rw [← hTF]
      exact h) TF rfl XF
  refine ⟨t, ?_, b1⟩
  jvm_step X.here [hexec, hdg]
  have hres := fun (E : CtlPost) (d : Bool) (acts : List Action) (Q : ClassId → Pre) => W.resolveClassAt_links (E := E) (d := d) (acts := acts) (Q := Q) (t := T.setTop (F0 m pc ls (.int k :: .int n :: rest))) (vm' := vm₁) (mm := m) (State.method?_setTop (F0 m pc ls (.int k :: .int n :: rest)) X.here.top) hg₁
  simp only [Op.multianewarray.sem, wp_bind', hres]
  rw [W.popN, if_neg (by decide)]
  refine ⟨_, State.topJava?_setTop' (s := T.setVm vm₁) _ X.here.top, [.int n, .int k], rest, rfl, rfl, ?_⟩
  simp only [List.mapM_cons, List.mapM_nil, wp_bind', wp_pure']
  refine xm_make (k := kA₁) (kc := kC₁) (comp := comp') (cc := cc2) hkA₁ hkindA₁ hkC₁ hkindC₁ hn hk l1 l2 l3 l4 (by show T.heap.size + 1 + _ ≤ _; omega) (by show T.slotsUsed + _ + _ ≤ _; omega) (fun d' acts' => ?_)
  have eS : ((T.setTop (F0 m pc ls (.int k :: .int n :: rest))).setVm vm₁).setTop (F0 m pc ls rest) = (T.setVm vm₁).setTop (F0 m pc ls rest) := by
    show ((T.setVm vm₁).setTop (F0 m pc ls (.int k :: .int n :: rest))).setTop _ = _
    rw [State.setTop_setTop]
  show wp _ _ _ _ _ _ (xmpu _ _ _ ((((T.setTop (F0 m pc ls (.int k :: .int n :: rest))).setVm vm₁).setTop (F0 m pc ls rest)).pushCell _))
  rw [eS, State.pushCell_setTop, xmpu_setTop]
  show wp _ _ _ _ _ _ ((xmpu comp' k.toNatClampNeg n.toNatClampNeg ((T.setVm vm₁).pushCell (xmou cA n.toNatClampNeg T.heap.size n.toNatClampNeg))).setTop _)
  rw [hTF]
  simp only [wp_bind', W.mark, W.pushRef, State.topJava?_setTop' _ XF.here.top, Option.some.injEq, exists_eq_left', State.setTop_setTop, State.heap_setTop]
  intro acts
  simp [jvm, XF.here.top]
  exact a1
end XMULTW
