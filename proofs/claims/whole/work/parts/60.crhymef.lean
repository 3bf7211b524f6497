/-! rhyme of the class, the call -/
section WPR
variable {al : Bool} {d o : Nat} {cc : ByteArray} {ret : Option FieldType} {ini : Bool} {pc : Nat} {ls st : List Value} {S : xS} {Q : Option Value → xS → Prop}
theorem wn_aastore {a t n k b : Nat} (hd : decode cc pc = .ok (.aastore, 1)) (ha : S.1[a]? = some (t, n)) (ht : (t = 25 ∧ S.1[b]? = some (3, xnf 3)) ∨ (t = 26 ∧ S.1[b]? = some (1, xnf 1))) (hk : k < n) (hn : n < 2147483648) (kk : Wp al d o cc ret ini (pc + 1) ls st (xSR S a k (some b)) Q) : Wp al d o cc ret ini pc ls (.ref b :: .int (nI k) :: .ref a :: st) S Q := by
  refine wp_aastore hd ha (vp_in_nI hk hn) ht ?_
  rw [nI_clamp (by omega)]; exact kk
end WPR
theorem xra_len {t : Nat → Nat} {m : Nat} {big : Bool} : ∀ (j s : Nat) (D : List xLn) (tm st : Nat) (I : List xIt) (o : xIt) (L : List xLn), D.length ≤ 15 → xra t m big j (s, D, tm, st, I, o) = .ok L → L.length ≤ 16
  | 0, s, D, tm, st, I, o, L, hD, h => by
    unfold xra at h
    split at h
    · cases h
    · split at h
      · cases h
      · cases h
        rw [xlen1]; omega
  | j + 1, s, D, tm, st, I, o, L, hD, h => by
    unfold xra at h
    cases hst : xst (t (m - (j + 1))) (m - (j + 1)) s D tm st I o with
    | error e => rw [hst] at h; cases h
    | ok z =>
      rw [hst] at h
      obtain ⟨s2, D2, tm2, st2, I2, o2⟩ := z
      refine xra_len j s2 D2 tm2 st2 I2 o2 L ?_ h
      have ti : ∀ c p tm st I, xsti c p tm st D I = .ok (s2, D2, tm2, st2, I2, o2) → D2 = D := by
        intro c p tm st I hh
        unfold xsti at hh
        split at hh
        · cases hh
        · split at hh
          · cases hh
          · cases hh; rfl
      have tb : ∀ c, xstb c D tm st I o = .ok (s2, D2, tm2, st2, I2, o2) → D2.length ≤ 15 := by
        intro c hh
        unfold xstb at hh
        split at hh
        · cases hh; exact hD
        · split at hh
          · split at hh
            · cases hh
            · cases hh; rw [xlen1]; omega
          · cases hh
      unfold xst at hst
      split at hst
      · split at hst
        · cases hst; exact hD
        · rw [ti _ _ _ _ _ hst]; exact hD
      · split at hst
        · split at hst
          · cases hst; exact hD
          · cases hst
        · split at hst
          · split at hst
            · cases hst; exact hD
            · cases hst
          · split at hst
            · rw [ti _ _ _ _ _ hst]; exact hD
            · split at hst
              · split at hst
                · split at hst
                  · cases hst
                  · cases hst; exact hD
                · split at hst
                  · cases hst; exact hD
                  · exact tb _ hst
              · split at hst
                · exact tb _ hst
                · cases hst
theorem xra_ez {t : Nat → Nat} {m : Nat} {big : Bool} : ∀ (j : Nat) (z : xRz) (e q : Nat), xra t m big j z = .error (e, q) → q ≤ m
  | 0, (s, D, tm, st, I, o), e, q, h => by
    unfold xra at h
    split at h
    · cases h; exact Nat.le_refl _
    · split at h
      · cases h; exact Nat.zero_le _
      · cases h
  | j + 1, (s, D, tm, st, I, o), e, q, h => by
    unfold xra at h
    split at h
    · cases h; omega
    · exact xra_ez j _ e q h
theorem xneg : ∀ z, z < 241 → ¬ 0 ≤ (-1 - nI z : Int32) := by decide +kernel
theorem xrhy_len {t : Nat → Nat} {n : Nat} {L : List xLn} (h : xrhy t n = .ok L) : L.length ≤ 16 := xra_len _ _ _ _ _ _ _ L (Nat.zero_le _) h
theorem xrhy_ez {t : Nat → Nat} {n e q : Nat} (h : xrhy t n = .error (e, q)) : q < 241 := by
  have := xra_ez _ _ _ _ h
  omega
def xFRc (a i k : Nat) : Prop := (a ≤ i ∧ i ≤ a + 5) ∨ (i = 1 ∧ k = 1) ∨ (i = 0 ∧ k = 11)
def xRRc (s i k : Nat) : Prop := (i = 0 ∧ k = 7) ∨ (i = 17 ∧ k = s)
theorem xRRc_n {s : Nat} (hs : s < 6) (i k : Nat) (h : xRRc s i k) : xRT i k = none := by
  rcases h with ⟨rfl, rfl⟩ | ⟨rfl, rfl⟩
  · decide
  · rcases (show k = 0 ∨ k = 1 ∨ k = 2 ∨ k = 3 ∨ k = 4 ∨ k = 5 by omega) with rfl | rfl | rfl | rfl | rfl | rfl <;> decide
theorem xFRr_c (a i k : Nat) (h : xFRr a i k) : xFRc a i k := by unfold xFRr at h; unfold xFRc; omega
theorem c_rhyme_no {n : Nat} {sv : Int32} (d : Nat) {S : xS} (hX : XC S) (hn : S.2.1 1 1 = nI n) (hsl : xsl sv = false) : xcall false (d + 1) j_X11_rhyme [.ref 0, .int sv] S (some (.int (-300))) (xSI S 1 1 (nI 0)) := by
  have gt := c_take hX hn d
  have gi := c_isSlot sv d (xSI S 1 1 (nI 0))
  rw [hsl] at gi
  refine xcall_intro (ls := [.ref 0, .int sv, .float 0, .float 0, .float 0]) q_X11_rhyme (by decide) rfl (Nat.le_of_ble_eq_true rfl) rfl ?_
  refine wp_aload_n dX11_rhyme_0 rfl rfl (g10_10 dX11_rhyme_1 (xsh hX sh_0) (xrr hX r0_0) (wp_iv1 dX11_rhyme_4 k10_107 q_X6_take (by decide) (xsh hX sh_1) (by decide) (Nat.le_of_ble_eq_true rfl) gt (wp_istore_n dX11_rhyme_7 ⟨Nat.le_of_ble_eq_true rfl, Or.inr rfl⟩ rfl (wp_iload_n dX11_rhyme_8 rfl (wp_is1 dX11_rhyme_9 k10_136 q_X11_isSlot (by decide) (Nat.le_of_ble_eq_true rfl) gi ?_)))))
  refine wb_if_ne dX11_rhyme_12 rfl (fun c12 => absurd c12 (by decide)) (fun c12 => ?_)
  exact wp_sipush (v := -300) dX11_rhyme_15 rfl (wp_ireturn dX11_rhyme_18 rfl rfl ⟨rfl, rfl⟩)
theorem c_rhyme {a b ta tb tc n s : Nat} {t : Nat → Nat} {v : xTg} (d : Nat) (hs6 : s < 6) (ho : xRo a) (hob : xRo b) (htg : xTgC ta tb tc) {S : xS} (hX : XC S) (hn : S.2.1 1 1 = nI n) (hle : n ≤ 260) (hb : ∀ k, k < n → t k < 256 ∧ S.2.1 2 k = nI (t k)) (h7 : S.2.2.1 0 7 = some a) (h17 : S.2.2.1 17 s = some b) (hrt : S.2.2.1 0 2 = some ta) (hT : xTgV ta tb tc S v) : ∃ k S', xcall false (d + 6) j_X11_rhyme [.ref 0, .int (nI s)] S (some (.int k)) S' ∧ xFm (xFRc a) (xRRc s) S S' ∧ S'.2.1 1 1 = nI 0 ∧ (∀ e z, xrhy t n = .error (e, z) → k = -1 - nI z ∧ S'.2.1 0 11 = nI e ∧ S'.2.2.1 17 s = some b ∧ S'.2.2.1 0 7 = some a) ∧ (∀ L, xrhy t n = .ok L → k = nI L.length ∧ S'.2.1 0 11 = nI 0 ∧ S'.2.2.1 17 s = some a ∧ S'.2.2.1 0 7 = some b ∧ xRV a S' n t L ∧ xRB a S' v t L ∧ S'.2.1 a 9 = nI 1 ∧ S'.2.1 a 8 = nI 0) := by
  have hou := ho
  unfold xRo at hou
  have hobu := hob
  unfold xRo at hobu
  have htu := htg
  unfold xTgC at htu
  have gt := c_take hX hn (d + 5)
  have F1 : xFl (fun i k => i = 1 ∧ k = 1) S (xSI S 1 1 (nI 0)) := (xFl.rf S).SI ⟨rfl, rfl⟩
  have X1 := F1.XC hX
  have gi := c_isSlot (nI s) (d + 5) (xSI S 1 1 (nI 0))
  rw [xsl_n (by omega)] at gi
  obtain ⟨k, S2, g2, f2, out⟩ := c_rread d ho hle X1 (fun k hk => ⟨(hb k hk).1, F1.i (hb k hk).2 (by omega)⟩)
  rw [xcra_rhy] at out
  have X2 := f2.XC X1
  have M2 : xFm (xFRc a) (xRRc s) S S2 := (F1.m.mono (fun i k h => Or.inr (Or.inl h)) (fun _ _ h => h)).tt (f2.m.mono (xFRr_c a) (fun _ _ h => h))
  have e7 : S2.2.2.1 0 7 = some a := f2.r (F1.r h7)
  have e17 : S2.2.2.1 17 s = some b := f2.r (F1.r h17)
  have h11 : S2.2.1 1 1 = nI 0 := f2.i (xI_same _ _ _ _) (by unfold xFRr; omega)
  cases hR : xrhy t n with
  | error ez =>
    obtain ⟨e, z⟩ := ez
    rw [hR] at out
    obtain ⟨rfl, k10, k9⟩ := out.1 e z rfl
    have hz := xrhy_ez hR
    refine ⟨-1 - nI z, xSI S2 0 11 (nI e), ?_, M2.SI (Or.inr (Or.inr ⟨rfl, rfl⟩)), xi h11 (Or.inl (by decide)), fun e' z' h => (by cases h; exact ⟨rfl, xI_same _ _ _ _, e17, e7⟩), fun L h => (by cases h)⟩
    refine xcall_intro (ls := [.ref 0, .int (nI s), .float 0, .float 0, .float 0]) q_X11_rhyme (by decide) rfl (Nat.le_of_ble_eq_true rfl) rfl ?_
    refine wp_aload_n dX11_rhyme_0 rfl rfl (g10_10 dX11_rhyme_1 (xsh hX sh_0) (xrr hX r0_0) (wp_iv1 dX11_rhyme_4 k10_107 q_X6_take (by decide) (xsh hX sh_1) (by decide) (Nat.le_of_ble_eq_true rfl) gt (wp_istore_n dX11_rhyme_7 ⟨Nat.le_of_ble_eq_true rfl, Or.inr rfl⟩ rfl (wp_iload_n dX11_rhyme_8 rfl (wp_is1 dX11_rhyme_9 k10_136 q_X11_isSlot (by decide) (Nat.le_of_ble_eq_true rfl) gi ?_)))))
    refine wb_if_ne dX11_rhyme_12 rfl (fun c12 => ?_) (fun c12 => absurd c12 (by rw [decide_eq_true hs6]; decide))
    refine wp_aload_n dX11_rhyme_19 rfl rfl (g10_50 dX11_rhyme_20 (xsh X1 sh_0) (show (xSI S 1 1 (nI 0)).2.2.1 0 7 = some a from h7) (wp_aload_n dX11_rhyme_23 rfl rfl (g10_10 dX11_rhyme_24 (xsh X1 sh_0) (xrr X1 r0_0) (g10_104 dX11_rhyme_27 (xsh X1 sh_1) (xrr X1 r1_0) (wp_iload_n dX11_rhyme_30 rfl (wp_iv3 dX11_rhyme_31 k10_140 q_X3_read (by decide) (by first | exact (ho.sh X2).1 | exact (ho.sh X1).1) (by decide) (Nat.le_of_ble_eq_true rfl) g2 (wp_istore_n dX11_rhyme_34 ⟨Nat.le_of_ble_eq_true rfl, Or.inr rfl⟩ rfl (wp_aload_n dX11_rhyme_35 rfl rfl (wp_aload_n dX11_rhyme_36 rfl rfl (g10_50 dX11_rhyme_37 (xsh X2 sh_0) e7 (gv10_143 dX11_rhyme_40 (by first | exact (ho.sh X2).1 | exact (ho.sh X1).1) k10 (p10_124 dX11_rhyme_43 (xsh X2 sh_0) (wp_iload_n dX11_rhyme_46 rfl ?_)))))))))))))
    refine wp_if_ge dX11_rhyme_47 rfl (fun c47 => absurd c47 (xneg z hz)) (fun c47 => ?_)
    exact wp_iload_n dX11_rhyme_50 rfl (wp_ireturn dX11_rhyme_51 rfl rfl ⟨rfl, rfl⟩)
  | ok L =>
    rw [hR] at out
    obtain ⟨k1, k10, k9, k8, rr⟩ := out.2 _ _ rfl
    have hbl := xbeg_len xcit L
    rw [hbl] at k1
    have k1' : k = nI L.length := k1
    subst k1'
    obtain ⟨rok, _, hn240⟩ := xrhy_ok hR
    have hL16 := xrhy_len hR
    rw [show min n 240 = n by omega] at rr
    have V2 : xRV a S2 n t L := xRR_V rr rok hn240 hL16 (fun k hk => (hb k hk).1)
    have F3 : xFl (fun i k => i = 0 ∧ k = 11) S2 (xSI S2 0 11 (nI 0)) := (xFl.rf S2).SI ⟨rfl, rfl⟩
    have MR : xFm (fun i k => i = 0 ∧ k = 11) (xRRc s) S2 (xSR (xSR (xSI S2 0 11 (nI 0)) 17 s (some a)) 0 7 (some b)) := ((F3.m.SR (a := 17) (k := s) (v := some a) (Or.inr ⟨rfl, rfl⟩))).SR (a := 0) (k := 7) (v := some b) (Or.inl ⟨rfl, rfl⟩)
    have X3 : XC (xSR (xSR (xSI S2 0 11 (nI 0)) 17 s (some a)) 0 7 (some b)) := MR.XC X2 (xRRc_n hs6)
    have V3 := V2.fm MR (fun i k h => by omega)
    have hT3 : xTgV ta tb tc (xSR (xSR (xSI S2 0 11 (nI 0)) 17 s (some a)) 0 7 (some b)) v := ((hT.fr _ _ _ _ F1 (fun i k h => by omega)).fr _ _ _ _ f2 (fun i k h => by unfold xFRr; omega)).fm MR (fun i k h => by omega)
    have r17 : (xSR (xSR (xSI S2 0 11 (nI 0)) 17 s (some a)) 0 7 (some b)).2.2.1 17 s = some a := (xR_ne _ _ (Or.inl (by decide))).trans (xR_same _ _ _ _)
    have r7 : (xSR (xSR (xSI S2 0 11 (nI 0)) 17 s (some a)) 0 7 (some b)).2.2.1 0 7 = some b := xR_same _ _ _ _
    have r2 : (xSR (xSR (xSI S2 0 11 (nI 0)) 17 s (some a)) 0 7 (some b)).2.2.1 0 2 = some ta := MR.r (f2.r (F1.r hrt)) (by unfold xRRc; omega)
    have q17 : (xSI S2 0 11 (nI 0)).2.2.1 17 s = some b := e17
    have q7 : (xSI S2 0 11 (nI 0)).2.2.1 0 7 = some a := e7
    obtain ⟨S4, g4, f4, b4⟩ := c_rmeasure (d + 2) ho htg X3 V3 hT3
    have X4 := f4.XC X3
    have V4 := V3.fm (f4.m (R := fun _ _ => False)) (fun i k h => by omega)
    have M4 : xFm (xFRc a) (xRRc s) S S4 := (M2.tt (MR.mono (fun i k h => Or.inr (Or.inr h)) (fun _ _ h => h))).tt (f4.m.mono (fun i k h => Or.inl (by omega)) (fun _ _ h => h))
    have XA : XC (xSR (xSI S2 0 11 (nI 0)) 17 s (some a)) := XC.SR X2 (xRRc_n hs6 17 s (Or.inr ⟨rfl, rfl⟩))
    have sha : (xSI S2 0 11 (nI 0)).1[a]? = some (3, xnf 3) := (ho.sh X2).1
    refine ⟨nI L.length, S4, ?_, M4, f4.i (MR.i h11 (by omega)) (by omega), fun e z h => (by cases h), fun L' h => (by cases h; exact ⟨rfl, f4.i (show (xSR (xSR (xSI S2 0 11 (nI 0)) 17 s (some a)) 0 7 (some b)).2.1 0 11 = nI 0 from xI_same S2 0 11 (nI 0)) (by omega), f4.r r17, f4.r r7, V4, b4, f4.i (MR.i k9 (by omega)) (by omega), f4.i (MR.i k8 (by omega)) (by omega)⟩)⟩
    refine xcall_intro (ls := [.ref 0, .int (nI s), .float 0, .float 0, .float 0]) q_X11_rhyme (by decide) rfl (Nat.le_of_ble_eq_true rfl) rfl ?_
    refine wp_aload_n dX11_rhyme_0 rfl rfl (g10_10 dX11_rhyme_1 (xsh hX sh_0) (xrr hX r0_0) (wp_iv1 dX11_rhyme_4 k10_107 q_X6_take (by decide) (xsh hX sh_1) (by decide) (Nat.le_of_ble_eq_true rfl) gt (wp_istore_n dX11_rhyme_7 ⟨Nat.le_of_ble_eq_true rfl, Or.inr rfl⟩ rfl (wp_iload_n dX11_rhyme_8 rfl (wp_is1 dX11_rhyme_9 k10_136 q_X11_isSlot (by decide) (Nat.le_of_ble_eq_true rfl) gi ?_)))))
    refine wb_if_ne dX11_rhyme_12 rfl (fun c12 => ?_) (fun c12 => absurd c12 (by rw [decide_eq_true hs6]; decide))
    refine wp_aload_n dX11_rhyme_19 rfl rfl (g10_50 dX11_rhyme_20 (xsh X1 sh_0) (show (xSI S 1 1 (nI 0)).2.2.1 0 7 = some a from h7) (wp_aload_n dX11_rhyme_23 rfl rfl (g10_10 dX11_rhyme_24 (xsh X1 sh_0) (xrr X1 r0_0) (g10_104 dX11_rhyme_27 (xsh X1 sh_1) (xrr X1 r1_0) (wp_iload_n dX11_rhyme_30 rfl (wp_iv3 dX11_rhyme_31 k10_140 q_X3_read (by decide) (by first | exact (ho.sh X3).1 | exact (ho.sh X2).1 | exact (ho.sh X1).1) (by decide) (Nat.le_of_ble_eq_true rfl) g2 (wp_istore_n dX11_rhyme_34 ⟨Nat.le_of_ble_eq_true rfl, Or.inr rfl⟩ rfl (wp_aload_n dX11_rhyme_35 rfl rfl (wp_aload_n dX11_rhyme_36 rfl rfl (g10_50 dX11_rhyme_37 (xsh X2 sh_0) e7 (gv10_143 dX11_rhyme_40 (by first | exact (ho.sh X3).1 | exact (ho.sh X2).1 | exact (ho.sh X1).1) k10 (p10_124 dX11_rhyme_43 (xsh X2 sh_0) (wp_iload_n dX11_rhyme_46 rfl ?_)))))))))))))
    refine wp_if_ge dX11_rhyme_47 rfl (fun c47 => ?_) (fun c47 => absurd c47 (not_not_intro (nI_pos' (by omega))))
    exact wp_aload_n dX11_rhyme_52 rfl rfl (g10_45 dX11_rhyme_53 (xsh X2 sh_0) (xrr X2 r0_6) (wp_iload_n dX11_rhyme_56 rfl (wn_aaload dX11_rhyme_57 (xsh X2 sh_17) (Or.inl rfl) (by omega) (by decide) q17 (wp_astore dX11_rhyme_58 rfl ⟨Nat.le_of_ble_eq_true rfl, Or.inr rfl⟩ rfl (wp_aload_n dX11_rhyme_60 rfl rfl (g10_45 dX11_rhyme_61 (xsh X2 sh_0) (xrr X2 r0_6) (wp_iload_n dX11_rhyme_64 rfl (wp_aload_n dX11_rhyme_65 rfl rfl (g10_50 dX11_rhyme_66 (xsh X2 sh_0) q7 (wn_aastore dX11_rhyme_69 (xsh X2 sh_17) (Or.inl ⟨rfl, sha⟩) (by omega) (by decide) (wp_aload_n dX11_rhyme_70 rfl rfl (wp_aload dX11_rhyme_71 rfl rfl (p10_50 dX11_rhyme_73 (xsh XA sh_0) (wp_aload_n dX11_rhyme_76 rfl rfl (g10_45 dX11_rhyme_77 (xsh X3 sh_0) (xrr X3 r0_6) (wp_iload_n dX11_rhyme_80 rfl (wn_aaload dX11_rhyme_81 (xsh X3 sh_17) (Or.inl rfl) (by omega) (by decide) r17 (wp_aload_n dX11_rhyme_82 rfl rfl (g10_26 dX11_rhyme_83 (xsh X3 sh_0) r2 (wp_iv2 dX11_rhyme_86 k10_144 q_X3_measure (by decide) (by first | exact (ho.sh X3).1 | exact (ho.sh X2).1 | exact (ho.sh X1).1) (by decide) (Nat.le_of_ble_eq_true rfl) g4 (wp_iload_n dX11_rhyme_89 rfl (wp_ireturn dX11_rhyme_90 rfl rfl ⟨rfl, rfl⟩))))))))))))))))))))))
