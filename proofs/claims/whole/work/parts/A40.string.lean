/-! String.length and String.charAt of the constants: contracts -/
theorem xstr_sm : ∀ k, k < 9 → (xStr k).length ≤ 100 := by decide +kernel
theorem xstr_ch : ∀ k, k < 9 → ∀ c ∈ xStr k, c < 128 := by decide +kernel
theorem xch_all : ∀ c, c < 128 → (nI c &&& 255 = nI c ∧ ((nI c).toUInt32 % 65536).toInt32 = nI c ∧ vp_nar .char (nI c) = nI c) := by decide +kernel
theorem xch_and {c : Nat} (h : c < 128) : nI c &&& 255 = nI c ∧ ((nI c).toUInt32 % 65536).toInt32 = nI c ∧ vp_nar .char (nI c) = nI c := xch_all c h
theorem xch_nr {c : Nat} (h : c < 128) : narrow .char (.int (nI c)) = .int (nI c) := congrArg Value.int (xch_all c h).2.2
theorem xch_nar {k : Nat} (hk : k < 9) {i : Int32} (hi : vp_in i (xStr k).length) : narrow .char (.int (Int32.ofNat ((xStr k).getD i.toNatClampNeg 0))) = .int (Int32.ofNat ((xStr k).getD i.toNatClampNeg 0)) := by
  refine xch_nr (xstr_ch k hk _ (xmem_getD (d := 0) ?_))
  exact Nat.not_le.mp fun q => hi (Or.inr q)
theorem xjw_len_v : Cond.fieldLink RJ0 9 RJ0 "value" "[B" ∈ xAL := xAL_of (p := 9121) (by decide +kernel) rfl
theorem xjw_cod_f : Cond.fieldLink RJ0 15 RJ0 "coder" "B" ∈ xAL := xAL_of (p := 9122) (by decide +kernel) rfl
theorem xjw_cs : Cond.fieldLink RJ0 38 RJ0 "COMPACT_STRINGS" "Z" ∈ xAL := xAL_of (p := 3027) (by decide +kernel) rfl
theorem xjw_l335 : Cond.methodLink RJ0 335 yJ0_coder_7d493 ∈ xAL := xAL_of (p := 3023) (by decide +kernel) rfl
theorem xjw_cod_i : Cond.instanceMethod yJ0_coder_7d493 ∈ xAL := xAL_of (p := 3024) (by decide +kernel) rfl
theorem xjw_cod_s : Cond.selects RJ0 yJ0_coder_7d493 yJ0_coder_7d493 ∈ xAL := xAL_of (p := 3025) (by decide +kernel) rfl
theorem xjw_cod_c : Cond.code yJ0_coder_7d493 cJ0_coder_7d493 1 (some .byte) ∈ xAL := xAL_of (p := 3026) (by decide +kernel) rfl
theorem xjw_l492 : Cond.methodLink RJ0 492 yJ0_isLatin1_aae02 ∈ xAL := xAL_of (p := 3033) (by decide +kernel) rfl
theorem xjw_lat_i : Cond.instanceMethod yJ0_isLatin1_aae02 ∈ xAL := xAL_of (p := 3034) (by decide +kernel) rfl
theorem xjw_lat_s : Cond.selects RJ0 yJ0_isLatin1_aae02 yJ0_isLatin1_aae02 ∈ xAL := xAL_of (p := 3035) (by decide +kernel) rfl
theorem xjw_lat_c : Cond.code yJ0_isLatin1_aae02 cJ0_isLatin1_aae02 1 (some .boolean) ∈ xAL := xAL_of (p := 3036) (by decide +kernel) rfl
theorem xjw_l495 : Cond.methodLink RJ0 495 yJ1_charAt_3b067 ∈ xAL := xAL_of (p := 3037) (by decide +kernel) rfl
theorem xjw_l1_t : Cond.static yJ1_charAt_3b067 ∈ xAL := xAL_of (p := 3038) (by decide +kernel) rfl
theorem xjw_l1_c : Cond.code yJ1_charAt_3b067 cJ1_charAt_3b067 2 (some .char) ∈ xAL := xAL_of (p := 3039) (by decide +kernel) rfl
theorem xjw_l1_n : Cond.initialized RJ1 ∈ xAL := xAL_of (p := 1017) (by decide +kernel) rfl
theorem xjw_l9 : Cond.methodLink RJ1 9 yJ0_checkIndex_df160 ∈ xAL := xAL_of (p := 3040) (by decide +kernel) rfl
theorem xjw_ck_t : Cond.static yJ0_checkIndex_df160 ∈ xAL := xAL_of (p := 3041) (by decide +kernel) rfl
theorem xjw_ck_c : Cond.code yJ0_checkIndex_df160 cJ0_checkIndex_df160 2 (none : Option FieldType) ∈ xAL := xAL_of (p := 3042) (by decide +kernel) rfl
theorem xjw_sio : Cond.fieldLink RJ0 1053 RJ3 "SIOOBE_FORMATTER" "Ljava/util/function/BiFunction;" ∈ xAL := xAL_of (p := 3043) (by decide +kernel) rfl
theorem xjw_l1059 : Cond.methodLink RJ0 1059 yJ3_checkIndex_8e157 ∈ xAL := xAL_of (p := 3045) (by decide +kernel) rfl
theorem xjw_p_t : Cond.static yJ3_checkIndex_8e157 ∈ xAL := xAL_of (p := 3046) (by decide +kernel) rfl
theorem xjw_p_c : Cond.code yJ3_checkIndex_8e157 cJ3_checkIndex_8e157 3 (some .int) ∈ xAL := xAL_of (p := 3047) (by decide +kernel) rfl
theorem xjw_p_n : Cond.initialized RJ3 ∈ xAL := xAL_of (p := 1018) (by decide +kernel) rfl
section XJSTR
variable {l : Launch} {al : Bool} {z : Nat} {D : va_G} {cy : Nat → ClassId} {sa sv : Nat → Nat}
/-- a method of the JDK that changes nothing, walked from its entry -/
theorem xjm {y : MethodName} {code : ByteArray} {ml : Nat} {ret : Option FieldType} {rm : Room} {as : List Value} {S : xS} {v : Option Value} (hpl : plainName y.cls = true) (hs : (lg_sl as).length ≤ ml)
    (h : ∀ {p : Program} {e : Env} {R : Room} {s : State} {m : MethodId} {args : Array Value} {below : List Frame} {meth : Method} {c : Code} (lsM : Array Slot), p.tables.exec = Jvm.exec → c.code = code → c.maxLocals = ml → s.vm.findClass y.cls = some m.cls → (∀ w ∈ xAL, w.before args s = true) → xG z D cy sa sv s → va_P D vwCl (xW z cy S) s.heap → (al = true → s.heap.size = z + S.1.length) → rm.frames ≤ R.frames → rm.locals ≤ R.locals → meth.sig.returnType = ret → meth.locks = false → lv_has lsM ml (lv_args 0 as) →
      W p l e R s m args below meth c s.heap [] 0 0 (MQ below (xQ al z D cy sa v S) args s 0 0 (fun q => z ≤ q)) (F0 m 0 lsM [])) :
    Met l y (xws y code ml ret) rm (va_Pc as (xPre al z D cy sa sv S)) (xQ al z D cy sa v S) 0 0 (fun q => z ≤ q) := by
  refine Met.ofW (cc := code) (maxL := ml) (ret := ret) hpl rfl ?_
  intro p e s m args below meth c s₁ B hml hv
  obtain ⟨rfl, hG, hP, hal⟩ := hv
  have hts := atoms_spec (ws := xws y code ml ret) B.pre
  have hown := findClass_of_methodNamed B.named
  have hl := lv_entry as (n := ml) hs
  rw [lg_entry_eq]
  exact h _ B.exec B.bytes hml hown (fun w hw => hts w (List.mem_cons_of_mem _ hw)) hG hP hal (Nat.le_refl _) (Nat.le_refl _) B.returns B.notSynchronized hl
def xr0 : Room := { frames := 0, cells := 0, slots := 0, locals := 0 }
def xr1 : Room := { frames := 1, cells := 0, slots := 0, locals := 30 }
def xr2 : Room := { frames := 2, cells := 0, slots := 0, locals := 70 }
set_option maxRecDepth 100000 in
theorem xc_coder {k : Nat} (hk : k < 9) (S : xS) : Met l yJ0_coder_7d493 (xws yJ0_coder_7d493 cJ0_coder_7d493 1 (some .byte)) xr0 (va_Pc [.ref (sa k)] (xPre al z D cy sa sv S)) (xQ al z D cy sa (some (.int 0)) S) 0 0 (fun q => z ≤ q) := by
  refine xjm (by decide +kernel) (Nat.le_of_ble_eq_true rfl) ?_
  intro p e R s m args below meth c lsM hx hb hml hown hts hG hP hal hRf hRl hrt hlk hl
  have hS : va_S (fun q => z ≤ q) s.heap s.heap [] := va_S.rf
  obtain ⟨hK, -, -, hSt, hCS, -, -, -, ⟨w, hZ, hw⟩, -⟩ := id hG
  have hl : lv_has lsM 1 [(0, .ref (sa k))] := hl
  refine va_gets hx hb hCS hS hown (hts _ xjw_cs) (fun _ h => h) dJ0_coder_7d493_0 ?_
  refine lv_if_eq (tgt := 13) hx hb dJ0_coder_7d493_3 (by decide) (fun q => absurd q (by decide)) (fun _ => ?_)
  refine lv_aload_n hx hb dJ0_coder_7d493_6 rfl (lv_at hl 0 rfl) ?_
  refine vk_getf hx hb (hSt.1 k hk).2.1 hS hown (hts _ xjw_cod_f) (fun _ h => h) dJ0_coder_7d493_7 ?_
  refine lv_goto (tgt := 14) hx hb dJ0_coder_7d493_10 (by decide) ?_
  exact W.zret hx hb hrt rfl (fun t ht hW => ⟨⟨rfl, by rw [ht]; exact hP, fun ha => by rw [ht]; exact hal ha⟩, hS.F ht⟩) hS.2.2 dJ0_coder_7d493_14 hlk
set_option maxRecDepth 100000 in
theorem xc_latin {k : Nat} (hk : k < 9) (S : xS) : Met l yJ0_isLatin1_aae02 (xws yJ0_isLatin1_aae02 cJ0_isLatin1_aae02 1 (some .boolean)) xr0 (va_Pc [.ref (sa k)] (xPre al z D cy sa sv S)) (xQ al z D cy sa (some (.int 1)) S) 0 0 (fun q => z ≤ q) := by
  refine xjm (by decide +kernel) (Nat.le_of_ble_eq_true rfl) ?_
  intro p e R s m args below meth c lsM hx hb hml hown hts hG hP hal hRf hRl hrt hlk hl
  have hS : va_S (fun q => z ≤ q) s.heap s.heap [] := va_S.rf
  obtain ⟨hK, -, -, hSt, hCS, -, -, -, ⟨w, hZ, hw⟩, -⟩ := id hG
  have hl : lv_has lsM 1 [(0, .ref (sa k))] := hl
  refine va_gets hx hb hCS hS hown (hts _ xjw_cs) (fun _ h => h) dJ0_isLatin1_aae02_0 ?_
  refine lv_if_eq (tgt := 17) hx hb dJ0_isLatin1_aae02_3 (by decide) (fun q => absurd q (by decide)) (fun _ => ?_)
  refine lv_aload_n hx hb dJ0_isLatin1_aae02_6 rfl (lv_at hl 0 rfl) ?_
  refine vk_getf hx hb (hSt.1 k hk).2.1 hS hown (hts _ xjw_cod_f) (fun _ h => h) dJ0_isLatin1_aae02_7 ?_
  refine lv_if_ne (tgt := 17) hx hb dJ0_isLatin1_aae02_10 (by decide) (fun q => absurd rfl q) (fun _ => ?_)
  refine lv_iconst (v := 1) hx hb dJ0_isLatin1_aae02_13 (by decide) ?_
  refine lv_goto (tgt := 18) hx hb dJ0_isLatin1_aae02_14 (by decide) ?_
  exact W.zret hx hb hrt rfl (fun t ht hW => ⟨⟨rfl, by rw [ht]; exact hP, fun ha => by rw [ht]; exact hal ha⟩, hS.F ht⟩) hS.2.2 dJ0_isLatin1_aae02_18 hlk
set_option maxRecDepth 100000 in
theorem xjHl : xHl l al z D cy sa sv := by
  intro k S hk
  refine xjm (by decide +kernel) (Nat.le_of_ble_eq_true rfl) ?_
  intro p e R s m args below meth c lsM hx hb hml hown hts hG hP hal hRf hRl hrt hlk hl
  have hS : va_S (fun q => z ≤ q) s.heap s.heap [] := va_S.rf
  obtain ⟨hK, -, -, hSt, hCS, -, -, -, ⟨w, hZ, hw⟩, -⟩ := id hG
  have hl : lv_has lsM 1 [(0, .ref (sa k))] := hl
  refine lv_aload_n hx hb dJ0_length_8abf5_0 rfl (lv_at hl 0 rfl) ?_
  refine vk_getf hx hb (hSt.1 k hk).2.2.1 hS hown (hts _ xjw_len_v) (fun _ h => h) dJ0_length_8abf5_1 ?_
  have hlen : xSlen.getD k 0 = (xStr k).length := by unfold xSlen; rw [List.getD_eq_getElem?_getD, List.getElem?_map, List.getElem?_range hk]; rfl
  refine va_tlen (v := Int32.ofNat (xStr k).length) hx hb (hSt.1 k hk).2.2.2 hS (by rw [hlen]) dJ0_length_8abf5_4 ?_
  refine lv_aload_n hx hb dJ0_length_8abf5_5 rfl (lv_at hl 0 rfl) ?_
  have cw := cwV (s := s) (R := R) (args := args) (own := RJ0) (index := 335) (rm := xr0) (mc := 0) (ms := 0) 0 hts (xgood (ws := wsV RJ0 335 RJ0 yJ0_coder_7d493 (xws yJ0_coder_7d493 cJ0_coder_7d493 1 (some .byte))) (fun w hw' => by
        rcases List.mem_append.mp hw' with hw' | hw'
        · simp only [List.mem_cons, List.not_mem_nil, or_false] at hw'
          rcases hw' with rfl | rfl | rfl | rfl
          · exact xjw_l335
          · exact xjw_cod_i
          · exact xjw_cod_s
          · exact xstr_init
        · exact xws_in xjw_cod_c w hw')) rfl rfl rfl ⟨rfl, by decide, by decide, by decide +kernel⟩ ⟨by show 0 + 1 ≤ _; have : 6 ≤ R.frames := hRf; omega, by show 8 + (1 + 11) + 0 ≤ _; have : 300 ≤ R.locals := hRl; omega⟩
  refine xr_cont (va_runV (As := []) (rest := [.int (Int32.ofNat (xStr k).length)]) ⟨hx, hb, hml, hown, hts⟩ (xc_coder hk S) cw ⟨xPre_blind, vk_recv hSt hk hS, fun U hU hW => ⟨rfl, xG_at hG hS hU hW, by rw [hU]; exact hP, fun ha => by rw [hU]; exact hal ha⟩⟩ rfl rfl (by show lsM.size = _; exact hl.1) rfl (Nat.le_of_ble_eq_true rfl) dJ0_length_8abf5_6 ⟨Nat.zero_le _, Nat.zero_le _⟩) hS fun H1 locs1 hP1 hal1 hS1 => ?_
  refine lv_ishr hx hb dJ0_length_8abf5_9 ?_
  have e0 : ∀ x : Int32, x >>> ((0 : Int32) &&& 31) = x := fun x => by rw [show ((0 : Int32) &&& 31) = 0 by decide]; exact Int32.shiftRight_zero
  show W p l e R s m args below meth c H1 locs1 0 0 _ (F0 m 10 lsM [.int (Int32.ofNat (xStr k).length >>> ((0 : Int32) &&& 31))])
  rw [e0]
  exact W.zret hx hb hrt rfl (fun t ht hW => ⟨⟨rfl, by rw [ht]; exact hP1, fun ha => by rw [ht]; exact hal1 ha⟩, hS1.F ht⟩) hS1.2.2 dJ0_length_8abf5_10 hlk
set_option maxRecDepth 100000 in
theorem xc_pck {i n : Int32} {w : Value} (hw : w.category = 1) (h0 : ¬ i < 0) (h1 : i < n) (S : xS) : Met l yJ3_checkIndex_8e157 (xws yJ3_checkIndex_8e157 cJ3_checkIndex_8e157 3 (some .int)) xr0 (va_Pc [.int i, .int n, w] (xPre al z D cy sa sv S)) (xQ al z D cy sa (some (.int i)) S) 0 0 (fun q => z ≤ q) := by
  refine xjm (by decide +kernel) (by show (lg_sl [Value.int i, Value.int n, w]).length ≤ 3; cases w <;> first | exact Nat.le_of_ble_eq_true rfl | (exact absurd (show (2 : Nat) = 1 from hw) (by decide))) ?_
  intro p e R s m args below meth c lsM hx hb hml hown hts hG hP hal hRf hRl hrt hlk hl
  have hS : va_S (fun q => z ≤ q) s.heap s.heap [] := va_S.rf
  have hl : lv_has lsM 3 [(0, .int i), (1, .int n), (2, w)] := hl
  refine lv_iload_n hx hb dJ3_checkIndex_8e157_0 rfl (lv_at hl 0 rfl) ?_
  refine lv_if_lt (tgt := 9) hx hb dJ3_checkIndex_8e157_1 (by decide) (fun q => absurd q h0) (fun _ => ?_)
  refine lv_iload_n hx hb dJ3_checkIndex_8e157_4 rfl (lv_at hl 0 rfl) ?_
  refine lv_iload_n hx hb dJ3_checkIndex_8e157_5 rfl (lv_at hl 1 rfl) ?_
  refine lv_icmp_lt (tgt := 16) hx hb dJ3_checkIndex_8e157_6 (by decide) (fun _ => ?_) (fun q => absurd h1 q)
  refine lv_iload_n hx hb dJ3_checkIndex_8e157_16 rfl (lv_at hl 0 rfl) ?_
  exact W.zret hx hb hrt rfl (fun t ht hW => ⟨⟨rfl, by rw [ht]; exact hP, fun ha => by rw [ht]; exact hal ha⟩, hS.F ht⟩) hS.2.2 dJ3_checkIndex_8e157_17 hlk
set_option maxRecDepth 100000 in
theorem xc_sck {i n : Int32} (h0 : ¬ i < 0) (h1 : i < n) (S : xS) : Met l yJ0_checkIndex_df160 (xws yJ0_checkIndex_df160 cJ0_checkIndex_df160 2 (none : Option FieldType)) xr1 (va_Pc [.int i, .int n] (xPre al z D cy sa sv S)) (xQ al z D cy sa none S) 0 0 (fun q => z ≤ q) := by
  refine xjm (by decide +kernel) (Nat.le_of_ble_eq_true rfl) ?_
  intro p e R s m args below meth c lsM hx hb hml hown hts hG hP hal hRf hRl hrt hlk hl
  have hS : va_S (fun q => z ≤ q) s.heap s.heap [] := va_S.rf
  obtain ⟨hK, -, -, hSt, hCS, -, -, -, ⟨w, hZ, hw⟩, -⟩ := id hG
  have hl : lv_has lsM 2 [(0, .int i), (1, .int n)] := hl
  have hc1 : w.category = 1 := by cases w <;> first | rfl | (simp [xisref] at hw; done)
  refine lv_iload_n hx hb dJ0_checkIndex_df160_0 rfl (lv_at hl 0 rfl) ?_
  refine lv_iload_n hx hb dJ0_checkIndex_df160_1 rfl (lv_at hl 1 rfl) ?_
  refine va_gets hx hb hZ hS hown (hts _ xjw_sio) (fun _ h => h) dJ0_checkIndex_df160_2 ?_
  have cw := va_cwS (s := s) (R := R) (args := args) (own := RJ0) (index := 1059) (rm := xr0) (mc := 0) (ms := 0) 3 hts (xgood (ws := va_wsS RJ0 1059 yJ3_checkIndex_8e157 (xws yJ3_checkIndex_8e157 cJ3_checkIndex_8e157 3 (some .int))) (fun w hw' => by
        rcases List.mem_append.mp hw' with hw' | hw'
        · simp only [List.mem_cons, List.not_mem_nil, or_false] at hw'
          rcases hw' with rfl | rfl | rfl
          · exact xjw_l1059
          · exact xjw_p_t
          · exact xjw_p_n
        · exact xws_in xjw_p_c w hw')) rfl rfl rfl ⟨by decide, by decide, by decide +kernel⟩ ⟨by show 0 + 1 ≤ _; have : 1 ≤ R.frames := hRf; omega, by show 8 + (3 + 11) + 0 ≤ _; have : 30 ≤ R.locals := hRl; omega⟩
  refine xr_cont (va_runS (As := [.int i, .int n, w]) (rest := []) ⟨hx, hb, hml, hown, hts⟩ (xc_pck (w := w) hc1 h0 h1 S) cw ⟨xPre_blind, fun U hU hW => ⟨rfl, xG_at hG hS hU hW, by rw [hU]; exact hP, fun ha => by rw [hU]; exact hal ha⟩⟩ rfl rfl (by show lsM.size = _; exact hl.1) rfl (by show 2 * 0 + _ ≤ 8; decide) dJ0_checkIndex_df160_5 ⟨Nat.zero_le _, Nat.zero_le _⟩) hS fun H1 locs1 hP1 hal1 hS1 => ?_
  refine lv_pop hx hb dJ0_checkIndex_df160_8 rfl ?_
  exact W.vret hx hb hrt (fun t ht hW => ⟨⟨rfl, by rw [ht]; exact hP1, fun ha => by rw [ht]; exact hal1 ha⟩, hS1.F ht⟩) hS1.2.2 dJ0_checkIndex_df160_9 hlk
set_option maxRecDepth 100000 in
theorem xc_l1 {k : Nat} (hk : k < 9) {i : Int32} (hi : vp_in i (xStr k).length) (S : xS) : Met l yJ1_charAt_3b067 (xws yJ1_charAt_3b067 cJ1_charAt_3b067 2 (some .char)) xr2 (va_Pc [.ref (sv k), .int i] (xPre al z D cy sa sv S)) (xQ al z D cy sa (some (.int (Int32.ofNat ((xStr k).getD i.toNatClampNeg 0)))) S) 0 0 (fun q => z ≤ q) := by
  refine xjm (by decide +kernel) (Nat.le_of_ble_eq_true rfl) ?_
  intro p e R s m args below meth c lsM hx hb hml hown hts hG hP hal hRf hRl hrt hlk hl
  have hS : va_S (fun q => z ≤ q) s.heap s.heap [] := va_S.rf
  obtain ⟨hK, -, -, hSt, hCS, -, -, -, ⟨w, hZ, hw⟩, -⟩ := id hG
  have hl : lv_has lsM 2 [(0, .ref (sv k)), (1, .int i)] := hl
  have hlen : xSlen.getD k 0 = (xStr k).length := by unfold xSlen; rw [List.getD_eq_getElem?_getD, List.getElem?_map, List.getElem?_range hk]; rfl
  have hbyt : xSbyt.getD k [] = (xStr k).map (fun c => Int32.ofNat c) := by unfold xSbyt; rw [List.getD_eq_getElem?_getD, List.getElem?_map, List.getElem?_range hk]; rfl
  have h31 : (xStr k).length < 2 ^ 31 := by have := xstr_sm k hk; omega
  have h0 : ¬ i < 0 := fun q => hi (Or.inl q)
  obtain ⟨j, hj, rfl⟩ := nI_of h0
  have hjl : j < (xStr k).length := by
    rcases Nat.lt_or_ge j (xStr k).length with q | q
    · exact q
    · exact absurd (Or.inr (by rw [nI_clamp hj]; exact q)) hi
  refine lv_iload_n hx hb dJ1_charAt_3b067_0 rfl (lv_at hl 1 rfl) ?_
  refine lv_aload_n hx hb dJ1_charAt_3b067_1 rfl (lv_at hl 0 rfl) ?_
  refine va_tlen (v := nI (xStr k).length) hx hb (hSt.1 k hk).2.2.2 hS (by rw [hlen]; rfl) dJ1_charAt_3b067_2 ?_
  have cw := va_cwS (s := s) (R := R) (args := args) (own := RJ1) (index := 9) (rm := xr1) (mc := 0) (ms := 0) 2 hts (xgood (ws := va_wsS RJ1 9 yJ0_checkIndex_df160 (xws yJ0_checkIndex_df160 cJ0_checkIndex_df160 2 (none : Option FieldType))) (fun w hw' => by
        rcases List.mem_append.mp hw' with hw' | hw'
        · simp only [List.mem_cons, List.not_mem_nil, or_false] at hw'
          rcases hw' with rfl | rfl | rfl
          · exact xjw_l9
          · exact xjw_ck_t
          · exact xstr_init
        · exact xws_in xjw_ck_c w hw')) rfl rfl rfl ⟨by decide, by decide, by decide +kernel⟩ ⟨by show 1 + 1 ≤ _; have : 2 ≤ R.frames := hRf; omega, by show 8 + (2 + 11) + 30 ≤ _; have : 70 ≤ R.locals := hRl; omega⟩
  refine xr_cont (va_runS (As := [.int (nI j), .int (nI (xStr k).length)]) (rest := []) ⟨hx, hb, hml, hown, hts⟩ (xc_sck h0 (nI_lt hjl h31) S) cw ⟨xPre_blind, fun U hU hW => ⟨rfl, xG_at hG hS hU hW, by rw [hU]; exact hP, fun ha => by rw [hU]; exact hal ha⟩⟩ rfl rfl (by show lsM.size = _; exact hl.1) rfl (by show 2 * 0 + _ ≤ 8; decide) dJ1_charAt_3b067_3 ⟨Nat.zero_le _, Nat.zero_le _⟩) hS fun H1 locs1 hP1 hal1 hS1 => ?_
  refine lv_aload_n hx hb dJ1_charAt_3b067_6 rfl (lv_at hl 0 rfl) ?_
  refine lv_iload_n hx hb dJ1_charAt_3b067_7 rfl (lv_at hl 1 rfl) ?_
  have hv : ((xSbyt.getD k []).getD (nI j).toNatClampNeg 0) = nI ((xStr k).getD j 0) := by
    rw [hbyt, nI_clamp hj, List.getD_eq_getElem?_getD, List.getElem?_map, List.getElem?_eq_getElem hjl, List.getD_eq_getElem?_getD, List.getElem?_eq_getElem hjl]
    rfl
  have h128 := xstr_ch k hk _ (xmem_getD (d := 0) hjl)
  refine va_tb (v := .int (nI ((xStr k).getD j 0))) hx hb (hSt.1 k hk).2.2.2 hS1 (by rw [hlen]; exact hi) (by rw [hv]) dJ1_charAt_3b067_8 ?_
  refine lv_sipush (v := 255) hx hb dJ1_charAt_3b067_9 (by decide) ?_
  refine lv_iand hx hb dJ1_charAt_3b067_12 ?_
  have ev := xch_and (c := (xStr k).getD j 0) h128
  refine lv_i2c (v := nI ((xStr k).getD j 0)) hx hb dJ1_charAt_3b067_13 (by rw [ev.1]; exact ev.2.1) ?_
  rw [nI_clamp hj]
  exact W.zret hx hb hrt (congrArg Value.int ev.2.2) (fun t ht hW => ⟨⟨rfl, by rw [ht]; exact hP1, fun ha => by rw [ht]; exact hal1 ha⟩, hS1.F ht⟩) hS1.2.2 dJ1_charAt_3b067_14 hlk
set_option maxRecDepth 100000 in
theorem xjHc : xHc l al z D cy sa sv := by
  intro k S i hk hi
  refine xjm (by decide +kernel) (Nat.le_of_ble_eq_true rfl) ?_
  intro p e R s m args below meth c lsM hx hb hml hown hts hG hP hal hRf hRl hrt hlk hl
  have hS : va_S (fun q => z ≤ q) s.heap s.heap [] := va_S.rf
  obtain ⟨hK, -, -, hSt, hCS, -, -, -, ⟨w, hZ, hw⟩, -⟩ := id hG
  have hl : lv_has lsM 2 [(0, .ref (sa k)), (1, .int i)] := hl
  refine lv_aload_n hx hb dJ0_charAt_5068e_0 rfl (lv_at hl 0 rfl) ?_
  have cw := cwV (s := s) (R := R) (args := args) (own := RJ0) (index := 492) (rm := xr0) (mc := 0) (ms := 0) 0 hts (xgood (ws := wsV RJ0 492 RJ0 yJ0_isLatin1_aae02 (xws yJ0_isLatin1_aae02 cJ0_isLatin1_aae02 1 (some .boolean))) (fun w hw' => by
        rcases List.mem_append.mp hw' with hw' | hw'
        · simp only [List.mem_cons, List.not_mem_nil, or_false] at hw'
          rcases hw' with rfl | rfl | rfl | rfl
          · exact xjw_l492
          · exact xjw_lat_i
          · exact xjw_lat_s
          · exact xstr_init
        · exact xws_in xjw_lat_c w hw')) rfl rfl rfl ⟨rfl, by decide, by decide, by decide +kernel⟩ ⟨by show 0 + 1 ≤ _; have : 6 ≤ R.frames := hRf; omega, by show 8 + (1 + 11) + 0 ≤ _; have : 300 ≤ R.locals := hRl; omega⟩
  refine xr_cont (va_runV (As := []) (rest := []) ⟨hx, hb, hml, hown, hts⟩ (xc_latin hk S) cw ⟨xPre_blind, vk_recv hSt hk hS, fun U hU hW => ⟨rfl, xG_at hG hS hU hW, by rw [hU]; exact hP, fun ha => by rw [hU]; exact hal ha⟩⟩ rfl rfl (by show lsM.size = _; exact hl.1) rfl (Nat.le_of_ble_eq_true rfl) dJ0_charAt_5068e_1 ⟨Nat.zero_le _, Nat.zero_le _⟩) hS fun H1 locs1 hP1 hal1 hS1 => ?_
  refine lv_if_eq (tgt := 16) hx hb dJ0_charAt_5068e_4 (by decide) (fun q => absurd q (by decide)) (fun _ => ?_)
  refine lv_aload_n hx hb dJ0_charAt_5068e_7 rfl (lv_at hl 0 rfl) ?_
  refine vk_getf hx hb (hSt.1 k hk).2.2.1 hS1 hown (hts _ xjw_len_v) (fun _ h => h) dJ0_charAt_5068e_8 ?_
  refine lv_iload_n hx hb dJ0_charAt_5068e_11 rfl (lv_at hl 1 rfl) ?_
  clear cw
  have cw := va_cwS (s := s) (R := R) (args := args) (own := RJ0) (index := 495) (rm := xr2) (mc := 0) (ms := 0) 2 hts (xgood (ws := va_wsS RJ0 495 yJ1_charAt_3b067 (xws yJ1_charAt_3b067 cJ1_charAt_3b067 2 (some .char))) (fun w hw' => by
        rcases List.mem_append.mp hw' with hw' | hw'
        · simp only [List.mem_cons, List.not_mem_nil, or_false] at hw'
          rcases hw' with rfl | rfl | rfl
          · exact xjw_l495
          · exact xjw_l1_t
          · exact xjw_l1_n
        · exact xws_in xjw_l1_c w hw')) rfl rfl rfl ⟨by decide, by decide, by decide +kernel⟩ ⟨by show 2 + 1 ≤ _; have : 6 ≤ R.frames := hRf; omega, by show 8 + (2 + 11) + 70 ≤ _; have : 300 ≤ R.locals := hRl; omega⟩
  refine xr_cont (va_runS (As := [.ref (sv k), .int i]) (rest := []) ⟨hx, hb, hml, hown, hts⟩ (xc_l1 hk hi S) cw ⟨xPre_blind, fun U hU hW => ⟨rfl, xG_at hG hS1 hU hW, by rw [hU]; exact hP1, fun ha => by rw [hU]; exact hal1 ha⟩⟩ rfl rfl (by show lsM.size = _; exact hl.1) rfl (by show 2 * 0 + _ ≤ 8; decide) dJ0_charAt_5068e_12 ⟨Nat.zero_le _, Nat.zero_le _⟩) hS1 fun H2 locs2 hP2 hal2 hS2 => ?_
  exact W.zret hx hb hrt (xch_nar hk hi) (fun t ht hW => ⟨⟨rfl, by rw [ht]; exact hP2, fun ha => by rw [ht]; exact hal2 ha⟩, hS2.F ht⟩) hS2.2.2 dJ0_charAt_5068e_15 hlk
end XJSTR
