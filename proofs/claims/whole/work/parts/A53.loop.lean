/-! THE LAW'S LOOP -/
theorem xofBV (x : Int32) : nI x.toBitVec.toNat = x := Int32.toBitVec_inj.mp (by simp [nI])
theorem xand31 (x : Int32) : ∃ j, j < 32 ∧ x &&& 31 = nI j := by
  have h := fa_mask x.toBitVec.toNat 5
  rw [xofBV] at h
  exact ⟨x.toBitVec.toNat % 2 ^ 5, Nat.mod_lt _ (by decide), h⟩
theorem xgt6 {L i : Nat} (hL : L < 2 ^ 31) (hi : i < 2 ^ 31) : Int32.ofNat L - nI 6 < nI i ↔ L < i + 6 := by
  have e : (Int32.ofNat L - nI 6).toInt = (L : Int) - 6 := by
    rw [Int32.toInt_sub, show (Int32.ofNat L).toInt = (L : Int) from nI_toInt hL, nI_toInt (by decide)]
    exact Int.bmod_eq_of_le (by omega) (by omega)
  rw [Int32.lt_iff_toInt_lt, e, nI_toInt hi]
  omega
section XLOOP
variable {p : Program} {l : Launch} {e : Env} {s : State} {m : MethodId} {below : List Frame} {meth : Method} {c : Code} {z : Nat} {D : va_G} {cy : Nat → ClassId} {sa sv : Nat → Nat} {b L : Nat} {xs : Nat → Int32} {rS : Option Value × xS}
theorem law_end (Wl : xLaw p l s m #[Value.ref b] meth c z D cy sa sv b L xs rS) (hz : z = s.heap.size) {C Sl : Nat} (hC : C ≤ 601024) (hSl : Sl ≤ 7293034) {ls : List Value} {S : xS} (hS : S.1 = xSH) : xGoT p l e room_1 s m #[Value.ref b] below meth c (lw_Z below #[Value.ref b] s) false z D cy sa 7 C Sl rS 1043 ls [] S := by
  have X := Wl.1 C Sl hC hSl
  have hrS := Wl.2.2.2.2.2.2.2.1
  obtain ⟨hx, hb, hml, hown, hts, hG, hini, hRf, hRl, hCR, hSR, hrt, hlk⟩ := X
  intro H locs cells slots lsM h1 h2 h3 h4 h5 h6 h7
  have e1 : rS.2.1.length = S.1.length := by rw [hrS, hS]
  have e2 : xsz rS.2 = xsz S := xsz_eq (hrS.trans hS.symm)
  refine lv_iconst (v := 1) hx hb dL_law_1043 rfl ?_
  refine va_forget (fun q hq => by rw [← hz]; exact h4.2.2 q hq) (W.widen (k := 601024) (n := 7293034) (by omega) (by omega) ?_)
  exact lw_ret hx hb hrt hlk dL_law_1044
theorem law_head (Wl : xLaw p l s m #[Value.ref b] meth c z D cy sa sv b L xs rS) (hz : z = s.heap.size) (hL3 : L ≤ 3072) : ∀ (n i : Nat) (S : xS) (N C Sl : Nat) (v5 v6 : Value), L < i + 6 + 6 * n → i ≤ L + 6 → xR S N → N + 50 * n ≤ 2 ^ 26 → C + n ≤ 601024 → Sl + 6 * n ≤ 7293034 → xcat2 (some v5) = false → xcat2 (some v6) = false → xGoT p l e room_1 s m #[Value.ref b] below meth c (lw_Z below #[Value.ref b] s) false z D cy sa 7 C Sl rS 23 (xls i v5 v6) [] S := by
  intro n
  induction n with
  | zero =>
    intro i S N C Sl v5 v6 hn hi hR hN hC hSl h5 h6
    have X := Wl.1 C Sl (by omega) (by omega)
    obtain ⟨-, -, hv, hbl, hbz, hsa, hL, -, -⟩ := id Wl
    refine lr_iload (x := nI i) X dL_law_23 rfl (lr_aload_n (x := .retAddr 9) X dL_law_25 rfl rfl (lr_len X hv hbl hbz hsa dL_law_26 (lr_bipush (v := nI 6) X dL_law_27 rfl (lr_isub X dL_law_29 ?_))))
    exact lr_icmp_gt_T X dL_law_30 rfl ((xgt6 hL (by omega)).mpr (by omega)) (law_end Wl hz (by omega) (by omega) hR.XC.1)
  | succ n ih =>
    intro i S N C Sl v5 v6 hn hi hR hN hC hSl h5 h6
    have X := Wl.1 C Sl (by omega) (by omega)
    obtain ⟨-, -, hv, hbl, hbz, hsa, hL, -, -⟩ := id Wl
    refine lr_iload (x := nI i) X dL_law_23 rfl (lr_aload_n (x := .retAddr 9) X dL_law_25 rfl rfl (lr_len X hv hbl hbz hsa dL_law_26 (lr_bipush (v := nI 6) X dL_law_27 rfl (lr_isub X dL_law_29 ?_))))
    rcases Decidable.em (L < i + 6) with w | w
    · exact lr_icmp_gt_T X dL_law_30 rfl ((xgt6 hL (by omega)).mpr w) (law_end Wl hz (by omega) (by omega) hR.XC.1)
    refine lr_icmp_gt_F X dL_law_30 rfl (fun h => w ((xgt6 hL (by omega)).mp h)) ?_
    refine lr_aload_n (x := .retAddr 9) X dL_law_33 rfl rfl (lr_iload (x := nI i) X dL_law_34 rfl (lr_sld X hv hbl hbz hsa hL (by omega) dL_law_36 (lr_bipush (v := 31) X dL_law_37 rfl (lr_iand X dL_law_39 ?_))))
    have hk : xKt p l e s m #[Value.ref b] below meth c (lw_Z below #[Value.ref b] s) z D cy sa rS N C Sl i := by
      intro S' N' C' Sl' v5' v6' hR' hN' hC' hSl' h5' h6'
      have X' := Wl.1 C' Sl' (by omega) (by omega)
      refine lr_iinc (x := nI i) (v := nI (i + 6)) (ls2 := xls (i + 6) v5' v6') X' dL_law_1037 rfl (nI_add i 6) ⟨Nat.le_of_ble_eq_true rfl, Or.inr rfl⟩ rfl (lr_goto X' dL_law_1040 rfl ?_)
      exact ih (i + 6) S' N' C' Sl' v5' v6' (by omega) (by omega) hR' (by omega) (by omega) (by omega) h5' h6'
    obtain ⟨j, hj, ej⟩ := xand31 (xs i)
    rw [ej]
    rcases (show j = 0 ∨ j = 1 ∨ j = 2 ∨ j = 3 ∨ j = 4 ∨ j = 5 ∨ j = 6 ∨ j = 7 ∨ j = 8 ∨ j = 9 ∨ j = 10 ∨ j = 11 ∨ j = 12 ∨ j = 13 ∨ j = 14 ∨ j = 15 ∨ j = 16 ∨ j = 17 ∨ j = 18 ∨ j = 19 ∨ j = 20 ∨ j = 21 ∨ j = 22 ∨ j = 23 ∨ j = 24 ∨ j = 25 ∨ j = 26 ∨ j = 27 ∨ j = 28 ∨ j = 29 ∨ j = 30 ∨ j = 31 by omega) with rfl | rfl | rfl | rfl | rfl | rfl | rfl | rfl | rfl | rfl | rfl | rfl | rfl | rfl | rfl | rfl | rfl | rfl | rfl | rfl | rfl | rfl | rfl | rfl | rfl | rfl | rfl | rfl | rfl | rfl | rfl | rfl
    · exact lr_table_in (off := 136) (t := 176) X dL_law_40 (by decide) rfl rfl (lk_feed Wl (by omega) (by omega) (by omega) hR (by omega) hk h5 h6)
    · exact lr_table_in (off := 209) (t := 249) X dL_law_40 (by decide) rfl rfl (lk_end Wl (by omega) (by omega) (by omega) hR (by omega) hk h5 h6)
    · exact lr_table_in (off := 234) (t := 274) X dL_law_40 (by decide) rfl rfl (lk_tongue Wl (by omega) (by omega) (by omega) hR (by omega) hk h5 h6)
    · exact lr_table_in (off := 247) (t := 287) X dL_law_40 (by decide) rfl rfl (lk_yard Wl (by omega) (by omega) (by omega) hR (by omega) hk h5 h6)
    · exact lr_table_in (off := 260) (t := 300) X dL_law_40 (by decide) rfl rfl (lk_rhyme Wl (by omega) (by omega) (by omega) hR (by omega) hk h5 h6)
    · exact lr_table_in (off := 285) (t := 325) X dL_law_40 (by decide) rfl rfl (lk_fault Wl (by omega) (by omega) (by omega) hR (by omega) hk h5 h6)
    · exact lr_table_in (off := 298) (t := 338) X dL_law_40 (by decide) rfl rfl (lk_people Wl (by omega) (by omega) (by omega) hR (by omega) hk h5 h6)
    · exact lr_table_in (off := 311) (t := 351) X dL_law_40 (by decide) rfl rfl (lk_answers Wl (by omega) (by omega) (by omega) hR (by omega) hk h5 h6)
    · exact lr_table_in (off := 324) (t := 364) X dL_law_40 (by decide) rfl rfl (lk_forget Wl (by omega) (by omega) (by omega) hR (by omega) hk h5 h6)
    · exact lr_table_in (off := 349) (t := 389) X dL_law_40 (by decide) rfl rfl (lk_born Wl (by omega) (by omega) (by omega) hR (by omega) hk h5 h6)
    · exact lr_table_in (off := 386) (t := 426) X dL_law_40 (by decide) rfl rfl (lk_beats Wl (by omega) (by omega) (by omega) hR (by omega) hk h5 h6)
    · exact lr_table_in (off := 399) (t := 439) X dL_law_40 (by decide) rfl rfl (lk_strong Wl (by omega) (by omega) (by omega) hR (by omega) hk h5 h6)
    · exact lr_table_in (off := 412) (t := 452) X dL_law_40 (by decide) rfl rfl (lk_counted Wl (by omega) (by omega) (by omega) hR (by omega) hk h5 h6)
    · exact lr_table_in (off := 465) (t := 505) X dL_law_40 (by decide) rfl rfl (lk_feet Wl (by omega) (by omega) (by omega) hR (by omega) hk h5 h6)
    · exact lr_table_in (off := 502) (t := 542) X dL_law_40 (by decide) rfl rfl (lk_octet Wl (by omega) (by omega) (by omega) hR (by omega) hk h5 h6)
    · exact lr_table_in (off := 558) (t := 598) X dL_law_40 (by decide) rfl rfl (lk_alike Wl (by omega) (by omega) (by omega) hR (by omega) hk h5 h6)
    · exact lr_table_in (off := 595) (t := 635) X dL_law_40 (by decide) rfl rfl (lk_play Wl (by omega) (by omega) (by omega) hR (by omega) hk h5 h6)
    · exact lr_table_in (off := 608) (t := 648) X dL_law_40 (by decide) rfl rfl (lk_hit Wl (by omega) (by omega) (by omega) hR (by omega) hk h5 h6)
    · exact lr_table_in (off := 633) (t := 673) X dL_law_40 (by decide) rfl rfl (lk_last Wl (by omega) (by omega) (by omega) hR (by omega) hk h5 h6)
    · exact lr_table_in (off := 691) (t := 731) X dL_law_40 (by decide) rfl rfl (lk_game Wl (by omega) (by omega) (by omega) hR (by omega) hk h5 h6)
    · exact lr_table_in (off := 716) (t := 756) X dL_law_40 (by decide) rfl rfl (lk_says Wl (by omega) (by omega) (by omega) hR (by omega) hk h5 h6)
    · exact lr_table_in (off := 741) (t := 781) X dL_law_40 (by decide) rfl rfl (lk_sure Wl (by omega) (by omega) (by omega) hR (by omega) hk h5 h6)
    · exact lr_table_in (off := 766) (t := 806) X dL_law_40 (by decide) rfl rfl (lk_share Wl (by omega) (by omega) (by omega) hR (by omega) hk h5 h6)
    · exact lr_table_in (off := 834) (t := 874) X dL_law_40 (by decide) rfl rfl (lk_mend Wl (by omega) (by omega) (by omega) hR (by omega) hk h5 h6)
    · exact lr_table_in (off := 847) (t := 887) X dL_law_40 (by decide) rfl rfl (lk_changes Wl (by omega) (by omega) (by omega) hR (by omega) hk h5 h6)
    · exact lr_table_in (off := 884) (t := 924) X dL_law_40 (by decide) rfl rfl (lk_parent Wl (by omega) (by omega) (by omega) hR (by omega) hk h5 h6)
    · exact lr_table_in (off := 909) (t := 949) X dL_law_40 (by decide) rfl rfl (lk_mixed Wl (by omega) (by omega) (by omega) hR (by omega) hk h5 h6)
    · exact lr_table_in (off := 946) (t := 986) X dL_law_40 (by decide) rfl rfl (lk_holds Wl (by omega) (by omega) (by omega) hR (by omega) hk h5 h6)
    · exact lr_table_in (off := 959) (t := 999) X dL_law_40 (by decide) rfl rfl (lk_explain Wl (by omega) (by omega) (by omega) hR (by omega) hk h5 h6)
    · exact lr_table_in (off := 972) (t := 1012) X dL_law_40 (by decide) rfl rfl (lk_told Wl (by omega) (by omega) (by omega) hR (by omega) hk h5 h6)
    · exact lr_table_out (t := 1037) X dL_law_40 (by decide) rfl (hk S N C Sl v5 v6 hR (by omega) (by omega) (by omega) h5 h6)
    · exact lr_table_out (t := 1037) X dL_law_40 (by decide) rfl (hk S N C Sl v5 v6 hR (by omega) (by omega) (by omega) h5 h6)
end XLOOP
