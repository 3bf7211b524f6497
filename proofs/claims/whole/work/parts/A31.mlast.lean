/-! great rings: last of the reference -/
theorem la_ok {N n s d : Nat} {t : Nat → Nat} {L : List xLn} {x5 x6 x7 x8 x9 x10 x11 : Value} (hs : s < 6) (h121 : (L.flatMap xmit).length ≤ 121) (h16 : L.length ≤ 16) {S : xS} (hX : XC S) (hM : xRM s S n t L) (hk4 : ∀ i, i < (L.flatMap xmit).length → ((L.flatMap xmit).getD i (0, 0, 0)).1 ≤ 100) (hna : ∀ i, i < (L.flatMap xmit).length → (((L.flatMap xmit).getD i (0, 0, 0)).1 ≠ 3 ∧ ((L.flatMap xmit).getD i (0, 0, 0)).1 ≠ 4)) {Q : Option Value → xS → Prop} (K : ∀ x4 : Int32, Wp false (d + 4) 11 cX12_last (some .long) false 109 [.ref 187, .long (lN N), .float 0, .int (nI s), .int x4, x5, x6, x7, x8, x9, x10, x11] [] S Q) : ∀ (j i : Nat), i + j = (L.flatMap xmit).length → Wp false (d + 4) 11 cX12_last (some .long) false 46 [.ref 187, .long (lN N), .float 0, .int (nI s), .int (nI i), x5, x6, x7, x8, x9, x10, x11] [] S Q := by
  have km := hM.2.2.2.2
  have k2 := hM.2.2.1 L.length (Nat.le_refl _)
  have e : xof xmit L L.length = (L.flatMap xmit).length := by unfold xof; rw [List.take_length]
  rw [e] at k2
  intro j
  induction j with
  | zero =>
    intro i hi
    have hii : i = (L.flatMap xmit).length := by omega
    subst hii
    have nx := K (nI (L.flatMap xmit).length)
    refine wp_iload dX12_last_46 rfl (wp_aload_n dX12_last_48 rfl rfl (g11_216 dX12_last_49 (xsh hX sh_187) (xrr hX r187_35) (wp_bipush (v := nI 17) dX12_last_52 rfl (wp_iload_n dX12_last_54 rfl (wv_imul dX12_last_55 (pk_mul _ _) (wp_aload_n dX12_last_56 rfl rfl (g11_222 dX12_last_57 (xsh hX sh_187) (xrr hX r187_37) (wp_iload_n dX12_last_60 rfl (wn_iaload dX12_last_61 (xsh hX sh_203) rfl (by omega) (by decide) km (wv_iadd dX12_last_62 (nI_add _ _) (wn_iaload dX12_last_63 (xsh hX sh_201) rfl (by omega) (by decide) k2 ?_)))))))))))
    refine wn_icmp_ge dX12_last_64 rfl (by omega) (by omega) (fun c64 => ?_) (fun c64 => absurd c64 (by omega))
    exact nx
  | succ j ih =>
    intro i hi
    have kk := (hM.2.1 i (by omega)).1
    have hb := hk4 i (by omega)
    obtain ⟨n3, n4⟩ := hna i (by omega)
    have nx := ih (i + 1) (by omega)
    refine wp_iload dX12_last_46 rfl (wp_aload_n dX12_last_48 rfl rfl (g11_216 dX12_last_49 (xsh hX sh_187) (xrr hX r187_35) (wp_bipush (v := nI 17) dX12_last_52 rfl (wp_iload_n dX12_last_54 rfl (wv_imul dX12_last_55 (pk_mul _ _) (wp_aload_n dX12_last_56 rfl rfl (g11_222 dX12_last_57 (xsh hX sh_187) (xrr hX r187_37) (wp_iload_n dX12_last_60 rfl (wn_iaload dX12_last_61 (xsh hX sh_203) rfl (by omega) (by decide) km (wv_iadd dX12_last_62 (nI_add _ _) (wn_iaload dX12_last_63 (xsh hX sh_201) rfl (by omega) (by decide) k2 ?_)))))))))))
    refine wn_icmp_ge dX12_last_64 rfl (by omega) (by omega) (fun c64 => absurd c64 (by omega)) (fun c64 => ?_)
    refine wp_aload_n dX12_last_67 rfl rfl (g11_207 dX12_last_68 (xsh hX sh_187) (xrr hX r187_32) (wp_bipush (v := nI 122) dX12_last_71 rfl (wp_iload_n dX12_last_73 rfl (wv_imul dX12_last_74 (pk_mul _ _) (wp_iload dX12_last_75 rfl (wv_iadd dX12_last_77 (nI_add _ _) (wn_iaload dX12_last_78 (xsh hX sh_198) rfl (by omega) (by decide) kk (wp_iconst (v := nI 3) dX12_last_79 rfl ?_))))))))
    refine wn_icmp_eq dX12_last_80 rfl (by omega) (by omega) (fun c80 => absurd c80 (by omega)) (fun c80 => ?_)
    refine wp_aload_n dX12_last_83 rfl rfl (g11_207 dX12_last_84 (xsh hX sh_187) (xrr hX r187_32) (wp_bipush (v := nI 122) dX12_last_87 rfl (wp_iload_n dX12_last_89 rfl (wv_imul dX12_last_90 (pk_mul _ _) (wp_iload dX12_last_91 rfl (wv_iadd dX12_last_93 (nI_add _ _) (wn_iaload dX12_last_94 (xsh hX sh_198) rfl (by omega) (by decide) kk (wp_iconst (v := nI 4) dX12_last_95 rfl ?_))))))))
    refine wn_icmp_ne dX12_last_96 rfl (by omega) (by omega) (fun c96 => ?_) (fun c96 => absurd c96 (by omega))
    exact wp_iinc dX12_last_103 rfl (nI_1 _) ⟨Nat.le_of_ble_eq_true rfl, Or.inr rfl⟩ rfl (wp_goto dX12_last_106 rfl nx)
theorem la_no {N n s d : Nat} {t : Nat → Nat} {L : List xLn} {x5 x6 x7 x8 x9 x10 x11 : Value} (hs : s < 6) (h121 : (L.flatMap xmit).length ≤ 121) (h16 : L.length ≤ 16) {S : xS} (hX : XC S) (hM : xRM s S n t L) (hk4 : ∀ i, i < (L.flatMap xmit).length → ((L.flatMap xmit).getD i (0, 0, 0)).1 ≤ 100) : ∀ (j i : Nat), i + j = (L.flatMap xmit).length → (¬ ∀ q, i ≤ q → q < (L.flatMap xmit).length → (((L.flatMap xmit).getD q (0, 0, 0)).1 ≠ 3 ∧ ((L.flatMap xmit).getD q (0, 0, 0)).1 ≠ 4)) → Wp false (d + 4) 11 cX12_last (some .long) false 46 [.ref 187, .long (lN N), .float 0, .int (nI s), .int (nI i), x5, x6, x7, x8, x9, x10, x11] [] S (fun r S' => r = some (.long (-1)) ∧ S' = S) := by
  have km := hM.2.2.2.2
  have k2 := hM.2.2.1 L.length (Nat.le_refl _)
  have e : xof xmit L L.length = (L.flatMap xmit).length := by unfold xof; rw [List.take_length]
  rw [e] at k2
  intro j
  induction j with
  | zero =>
    intro i hi hn
    exact absurd (fun q h1 h2 => absurd h2 (by omega)) hn
  | succ j ih =>
    intro i hi hn
    have kk := (hM.2.1 i (by omega)).1
    have hb := hk4 i (by omega)
    rcases Decidable.em (((L.flatMap xmit).getD i (0, 0, 0)).1 = 3) with w | w
    · skip
      refine wp_iload dX12_last_46 rfl (wp_aload_n dX12_last_48 rfl rfl (g11_216 dX12_last_49 (xsh hX sh_187) (xrr hX r187_35) (wp_bipush (v := nI 17) dX12_last_52 rfl (wp_iload_n dX12_last_54 rfl (wv_imul dX12_last_55 (pk_mul _ _) (wp_aload_n dX12_last_56 rfl rfl (g11_222 dX12_last_57 (xsh hX sh_187) (xrr hX r187_37) (wp_iload_n dX12_last_60 rfl (wn_iaload dX12_last_61 (xsh hX sh_203) rfl (by omega) (by decide) km (wv_iadd dX12_last_62 (nI_add _ _) (wn_iaload dX12_last_63 (xsh hX sh_201) rfl (by omega) (by decide) k2 ?_)))))))))))
      refine wn_icmp_ge dX12_last_64 rfl (by omega) (by omega) (fun c64 => absurd c64 (by omega)) (fun c64 => ?_)
      refine wp_aload_n dX12_last_67 rfl rfl (g11_207 dX12_last_68 (xsh hX sh_187) (xrr hX r187_32) (wp_bipush (v := nI 122) dX12_last_71 rfl (wp_iload_n dX12_last_73 rfl (wv_imul dX12_last_74 (pk_mul _ _) (wp_iload dX12_last_75 rfl (wv_iadd dX12_last_77 (nI_add _ _) (wn_iaload dX12_last_78 (xsh hX sh_198) rfl (by omega) (by decide) kk (wp_iconst (v := nI 3) dX12_last_79 rfl ?_))))))))
      refine wn_icmp_eq dX12_last_80 rfl (by omega) (by omega) (fun c80 => ?_) (fun c80 => absurd c80 (by omega))
      exact wp_ldc2 dX12_last_99 k11_470 rfl (wp_lreturn dX12_last_102 rfl ⟨rfl, rfl⟩)
    · rcases Decidable.em (((L.flatMap xmit).getD i (0, 0, 0)).1 = 4) with w2 | w2
      · skip
        refine wp_iload dX12_last_46 rfl (wp_aload_n dX12_last_48 rfl rfl (g11_216 dX12_last_49 (xsh hX sh_187) (xrr hX r187_35) (wp_bipush (v := nI 17) dX12_last_52 rfl (wp_iload_n dX12_last_54 rfl (wv_imul dX12_last_55 (pk_mul _ _) (wp_aload_n dX12_last_56 rfl rfl (g11_222 dX12_last_57 (xsh hX sh_187) (xrr hX r187_37) (wp_iload_n dX12_last_60 rfl (wn_iaload dX12_last_61 (xsh hX sh_203) rfl (by omega) (by decide) km (wv_iadd dX12_last_62 (nI_add _ _) (wn_iaload dX12_last_63 (xsh hX sh_201) rfl (by omega) (by decide) k2 ?_)))))))))))
        refine wn_icmp_ge dX12_last_64 rfl (by omega) (by omega) (fun c64 => absurd c64 (by omega)) (fun c64 => ?_)
        refine wp_aload_n dX12_last_67 rfl rfl (g11_207 dX12_last_68 (xsh hX sh_187) (xrr hX r187_32) (wp_bipush (v := nI 122) dX12_last_71 rfl (wp_iload_n dX12_last_73 rfl (wv_imul dX12_last_74 (pk_mul _ _) (wp_iload dX12_last_75 rfl (wv_iadd dX12_last_77 (nI_add _ _) (wn_iaload dX12_last_78 (xsh hX sh_198) rfl (by omega) (by decide) kk (wp_iconst (v := nI 3) dX12_last_79 rfl ?_))))))))
        refine wn_icmp_eq dX12_last_80 rfl (by omega) (by omega) (fun c80 => absurd c80 (by omega)) (fun c80 => ?_)
        refine wp_aload_n dX12_last_83 rfl rfl (g11_207 dX12_last_84 (xsh hX sh_187) (xrr hX r187_32) (wp_bipush (v := nI 122) dX12_last_87 rfl (wp_iload_n dX12_last_89 rfl (wv_imul dX12_last_90 (pk_mul _ _) (wp_iload dX12_last_91 rfl (wv_iadd dX12_last_93 (nI_add _ _) (wn_iaload dX12_last_94 (xsh hX sh_198) rfl (by omega) (by decide) kk (wp_iconst (v := nI 4) dX12_last_95 rfl ?_))))))))
        refine wn_icmp_ne dX12_last_96 rfl (by omega) (by omega) (fun c96 => absurd c96 (by omega)) (fun c96 => ?_)
        exact wp_ldc2 dX12_last_99 k11_470 rfl (wp_lreturn dX12_last_102 rfl ⟨rfl, rfl⟩)
      · have nx := ih (i + 1) (by omega) (fun q => hn (fun k h1 h2 => by
          rcases Nat.eq_or_lt_of_le h1 with z | z
          · rw [← z]; exact ⟨w, w2⟩
          · exact q k z h2))
        refine wp_iload dX12_last_46 rfl (wp_aload_n dX12_last_48 rfl rfl (g11_216 dX12_last_49 (xsh hX sh_187) (xrr hX r187_35) (wp_bipush (v := nI 17) dX12_last_52 rfl (wp_iload_n dX12_last_54 rfl (wv_imul dX12_last_55 (pk_mul _ _) (wp_aload_n dX12_last_56 rfl rfl (g11_222 dX12_last_57 (xsh hX sh_187) (xrr hX r187_37) (wp_iload_n dX12_last_60 rfl (wn_iaload dX12_last_61 (xsh hX sh_203) rfl (by omega) (by decide) km (wv_iadd dX12_last_62 (nI_add _ _) (wn_iaload dX12_last_63 (xsh hX sh_201) rfl (by omega) (by decide) k2 ?_)))))))))))
        refine wn_icmp_ge dX12_last_64 rfl (by omega) (by omega) (fun c64 => absurd c64 (by omega)) (fun c64 => ?_)
        refine wp_aload_n dX12_last_67 rfl rfl (g11_207 dX12_last_68 (xsh hX sh_187) (xrr hX r187_32) (wp_bipush (v := nI 122) dX12_last_71 rfl (wp_iload_n dX12_last_73 rfl (wv_imul dX12_last_74 (pk_mul _ _) (wp_iload dX12_last_75 rfl (wv_iadd dX12_last_77 (nI_add _ _) (wn_iaload dX12_last_78 (xsh hX sh_198) rfl (by omega) (by decide) kk (wp_iconst (v := nI 3) dX12_last_79 rfl ?_))))))))
        refine wn_icmp_eq dX12_last_80 rfl (by omega) (by omega) (fun c80 => absurd c80 (by omega)) (fun c80 => ?_)
        refine wp_aload_n dX12_last_83 rfl rfl (g11_207 dX12_last_84 (xsh hX sh_187) (xrr hX r187_32) (wp_bipush (v := nI 122) dX12_last_87 rfl (wp_iload_n dX12_last_89 rfl (wv_imul dX12_last_90 (pk_mul _ _) (wp_iload dX12_last_91 rfl (wv_iadd dX12_last_93 (nI_add _ _) (wn_iaload dX12_last_94 (xsh hX sh_198) rfl (by omega) (by decide) kk (wp_iconst (v := nI 4) dX12_last_95 rfl ?_))))))))
        refine wn_icmp_ne dX12_last_96 rfl (by omega) (by omega) (fun c96 => ?_) (fun c96 => absurd c96 (by omega))
        exact wp_iinc dX12_last_103 rfl (nI_1 _) ⟨Nat.le_of_ble_eq_true rfl, Or.inr rfl⟩ rfl (wp_goto dX12_last_106 rfl nx)
theorem mla_loop {q n d : Nat} {y3 : Int32} (hq : 1 ≤ q) (hq2 : q < 2 ^ 20) (hn : n < 2 ^ 40) {S : xS} : ∀ (j s : Nat) (y10 y11 : Value), s + j = n → 0 < s → Wp false (d + 4) 11 cX12_last (some .long) false 149 [.ref 187, .long (lN n), .float 0, .int y3, .long (lN (q + 1)), .float 0, .long (lN (xjo q s)), .float 0, .long (lN s), .float 0, y10, y11] [] S (fun r S' => r = some (.long (lN (xjo q n))) ∧ S' = S) := by
  have str : ∀ j s : Nat, (∀ i, i < j → ∀ (s : Nat) (y10 y11 : Value), s + i = n → 0 < s → Wp false (d + 4) 11 cX12_last (some .long) false 149 [.ref 187, .long (lN n), .float 0, .int y3, .long (lN (q + 1)), .float 0, .long (lN (xjo q s)), .float 0, .long (lN s), .float 0, y10, y11] [] S (fun r S' => r = some (.long (lN (xjo q n))) ∧ S' = S)) → ∀ (y10 y11 : Value), s + j = n → 0 < s → Wp false (d + 4) 11 cX12_last (some .long) false 149 [.ref 187, .long (lN n), .float 0, .int y3, .long (lN (q + 1)), .float 0, .long (lN (xjo q s)), .float 0, .long (lN s), .float 0, y10, y11] [] S (fun r S' => r = some (.long (lN (xjo q n))) ∧ S' = S) := by
    intro j s ih y10 y11 hj hs
    rcases Nat.eq_zero_or_pos j with z | z
    · have e : s = n := by omega
      subst e
      refine wp_lload dX12_last_149 rfl (wp_lload_n dX12_last_151 rfl ?_)
      refine wl_ge dX12_last_152 dX12_last_153 rfl (by omega) (by omega) (fun c152 => ?_) (fun c152 => absurd c152 (by omega))
      exact wp_lload dX12_last_237 rfl (wp_lreturn dX12_last_239 rfl ⟨rfl, rfl⟩)
    · have hl := xjo_lt q s hs
      have hmin := xjo_step (n := n) hq hs
      have hdl := Nat.div_le_self (s - xjo q s - 1) q
      have hjm := xjo_jump q s (min ((s - xjo q s - 1) / q) (n - s)) hmin
      have ek : lN (q + 1) - lN 1 = lN q := lN_sub (by omega)
      have ediv : lN (s - xjo q s - 1) / lN q = lN ((s - xjo q s - 1) / q) := pk_lDiv (by omega) (by omega) (by omega)
      have hmj : min ((s - xjo q s - 1) / q) (n - s) ≤ n - s := Nat.min_le_right _ _
      have at189 : ∀ (y10 y11 : Value), Wp false (d + 4) 11 cX12_last (some .long) false 189 [.ref 187, .long (lN n), .float 0, .int y3, .long (lN (q + 1)), .float 0, .long (lN (xjo q s)), .float 0, .long (lN s), .float 0, y10, y11] [.long (lN (min ((s - xjo q s - 1) / q) (n - s)))] S (fun r S' => r = some (.long (lN (xjo q n))) ∧ S' = S) := by
        intro y10 y11
        rcases Nat.eq_zero_or_pos (min ((s - xjo q s - 1) / q) (n - s)) with w | w
        · have erem : lN (xjo q s + (q + 1)) - lN (xjo q s + (q + 1)) / lN (s + 1) * lN (s + 1) = lN (xjo q (s + 1)) := by
            rw [pk_lRem (by omega) (by omega) (by omega)]; rfl
          have nx := ih (j - 1) (by omega) (s + 1) (.long (lN 0)) (.float 0) (by omega) (by omega)
          rw [w]
          refine wp_lstore dX12_last_189 ⟨Nat.le_of_ble_eq_true rfl, Or.inr rfl⟩ rfl (wp_lload dX12_last_191 rfl (wp_lconst (v := lN 0) dX12_last_193 rfl ?_))
          refine wl_ne dX12_last_194 dX12_last_195 rfl (by omega) (by omega) (fun c194 => absurd c194 (by omega)) (fun c194 => ?_)
          exact wp_lload dX12_last_198 rfl (wp_lconst (v := lN 1) dX12_last_200 rfl (wv_ladd dX12_last_201 (lN_add _ _) (wp_lstore dX12_last_202 ⟨Nat.le_of_ble_eq_true rfl, Or.inr rfl⟩ rfl (wp_lload dX12_last_204 rfl (wp_lload dX12_last_206 rfl (wv_ladd dX12_last_208 (lN_add _ _) (wp_lload dX12_last_209 rfl (wv_lrem dX12_last_211 (lN_n0 (by omega) (by omega)) erem (wp_lstore dX12_last_212 ⟨Nat.le_of_ble_eq_true rfl, Or.inr rfl⟩ rfl (wp_goto dX12_last_214 rfl (wp_goto dX12_last_234 rfl nx)))))))))))
        · have emul : lN (min ((s - xjo q s - 1) / q) (n - s)) * lN (q + 1) = lN (min ((s - xjo q s - 1) / q) (n - s) * (q + 1)) := lN_mul _ _
          have eadd : lN (xjo q s) + lN (min ((s - xjo q s - 1) / q) (n - s) * (q + 1)) = lN (xjo q (s + min ((s - xjo q s - 1) / q) (n - s))) := by rw [lN_add, ← hjm]
          have nx : ∀ y10 y11, Wp false (d + 4) 11 cX12_last (some .long) false 149 [.ref 187, .long (lN n), .float 0, .int y3, .long (lN (q + 1)), .float 0, .long (lN (xjo q (s + min ((s - xjo q s - 1) / q) (n - s)))), .float 0, .long (lN (s + min ((s - xjo q s - 1) / q) (n - s))), .float 0, y10, y11] [] S (fun r S' => r = some (.long (lN (xjo q n))) ∧ S' = S) := by
            generalize min ((s - xjo q s - 1) / q) (n - s) = A at *
            exact fun y10 y11 => ih (j - A) (by omega) (s + A) y10 y11 (by omega) (by omega)
          have nx := nx (.long (lN (min ((s - xjo q s - 1) / q) (n - s)))) (.float 0)
          generalize hA : min ((s - xjo q s - 1) / q) (n - s) = A at *
          refine wp_lstore dX12_last_189 ⟨Nat.le_of_ble_eq_true rfl, Or.inr rfl⟩ rfl (wp_lload dX12_last_191 rfl (wp_lconst (v := lN 0) dX12_last_193 rfl ?_))
          refine wl_ne dX12_last_194 dX12_last_195 rfl (by omega) (by omega) (fun c194 => ?_) (fun c194 => absurd c194 (by omega))
          exact wp_lload dX12_last_217 rfl (wp_lload dX12_last_219 rfl (wv_ladd dX12_last_221 (lN_add _ _) (wp_lstore dX12_last_222 ⟨Nat.le_of_ble_eq_true rfl, Or.inr rfl⟩ rfl (wp_lload dX12_last_224 rfl (wp_lload dX12_last_226 rfl (wp_lload dX12_last_228 rfl (wv_lmul dX12_last_230 emul (wv_ladd dX12_last_231 eadd (wp_lstore dX12_last_232 ⟨Nat.le_of_ble_eq_true rfl, Or.inr rfl⟩ rfl (wp_goto dX12_last_234 rfl nx))))))))))
      rcases Nat.lt_or_ge (n - s) ((s - xjo q s - 1) / q) with w | w
      · rw [Nat.min_eq_right (by omega)] at at189
        refine wp_lload dX12_last_149 rfl (wp_lload_n dX12_last_151 rfl ?_)
        refine wl_ge dX12_last_152 dX12_last_153 rfl (by omega) (by omega) (fun c152 => absurd c152 (by omega)) (fun c152 => ?_)
        refine wp_lload dX12_last_156 rfl (wp_lload dX12_last_158 rfl (wv_lsub dX12_last_160 (lN_sub (by omega)) (wp_lconst (v := lN 1) dX12_last_161 rfl (wv_lsub dX12_last_162 (lN_sub (by omega)) (wp_lload dX12_last_163 rfl (wp_lconst (v := lN 1) dX12_last_165 rfl (wv_lsub dX12_last_166 ek (wv_ldiv dX12_last_167 (lN_n0 (by omega) (by omega)) ediv (wp_lstore dX12_last_168 ⟨Nat.le_of_ble_eq_true rfl, Or.inr rfl⟩ rfl (wp_lload dX12_last_170 rfl (wp_lload_n dX12_last_172 rfl (wp_lload dX12_last_173 rfl (wv_lsub dX12_last_175 (lN_sub (by omega)) ?_)))))))))))))
        refine wl_le dX12_last_176 dX12_last_177 rfl (by omega) (by omega) (fun c176 => absurd c176 (by omega)) (fun c176 => ?_)
        exact wp_lload_n dX12_last_180 rfl (wp_lload dX12_last_181 rfl (wv_lsub dX12_last_183 (lN_sub (by omega)) (wp_goto dX12_last_184 rfl (at189 _ _))))
      · rw [Nat.min_eq_left w] at at189
        refine wp_lload dX12_last_149 rfl (wp_lload_n dX12_last_151 rfl ?_)
        refine wl_ge dX12_last_152 dX12_last_153 rfl (by omega) (by omega) (fun c152 => absurd c152 (by omega)) (fun c152 => ?_)
        refine wp_lload dX12_last_156 rfl (wp_lload dX12_last_158 rfl (wv_lsub dX12_last_160 (lN_sub (by omega)) (wp_lconst (v := lN 1) dX12_last_161 rfl (wv_lsub dX12_last_162 (lN_sub (by omega)) (wp_lload dX12_last_163 rfl (wp_lconst (v := lN 1) dX12_last_165 rfl (wv_lsub dX12_last_166 ek (wv_ldiv dX12_last_167 (lN_n0 (by omega) (by omega)) ediv (wp_lstore dX12_last_168 ⟨Nat.le_of_ble_eq_true rfl, Or.inr rfl⟩ rfl (wp_lload dX12_last_170 rfl (wp_lload_n dX12_last_172 rfl (wp_lload dX12_last_173 rfl (wv_lsub dX12_last_175 (lN_sub (by omega)) ?_)))))))))))))
        refine wl_le dX12_last_176 dX12_last_177 rfl (by omega) (by omega) (fun c176 => ?_) (fun c176 => absurd c176 (by omega))
        exact wp_lload dX12_last_187 rfl (at189 _ _)
  intro j
  induction j using Nat.strongRecOn with
  | _ j ih => exact fun s => str j s ih
theorem xnoa_m {t : Nat → Nat} {n : Nat} {L : List xLn} : (∀ i, i < (L.flatMap xmit).length → (((L.flatMap xmit).getD i (0, 0, 0)).1 ≠ 3 ∧ ((L.flatMap xmit).getD i (0, 0, 0)).1 ≠ 4)) ↔ xnoa L = false := by
  unfold xnoa
  rw [List.any_eq_false]
  constructor
  · intro h o ho
    obtain ⟨i, hi, e⟩ := List.getElem_of_mem ho
    obtain ⟨h3, h4⟩ := h i hi
    have e2 : (L.flatMap xmit).getD i (0, 0, 0) = o := by rw [List.getD_eq_getElem?_getD, List.getElem?_eq_getElem hi, e]; rfl
    rw [e2] at h3 h4
    show ¬ (decide (o.1 = 3) || decide (o.1 = 4)) = true
    rw [decide_eq_false h3, decide_eq_false h4]
    decide
  · intro h i hi
    have := h _ (xmem_getD (d := (0, 0, 0)) hi)
    have this : ¬ (decide (((L.flatMap xmit).getD i (0, 0, 0)).1 = 3) || decide (((L.flatMap xmit).getD i (0, 0, 0)).1 = 4)) = true := this
    constructor
    · intro z; rw [decide_eq_true z] at this; exact this rfl
    · intro z; rw [decide_eq_true z, Bool.or_true] at this; exact this rfl
theorem m_last_no {c : xPx} {nn : Int64} (d : Nat) (ho : xzo c) {S : xS} (h : xMS S c) (hno : ¬ (∃ N n0 t L, nn = lN N ∧ 1 ≤ N ∧ N ≤ 1000000000000 ∧ c.2.2.2.2 (c.1.2.getD 0 0) = some (n0, t, L) ∧ xnoa L = false)) : xcall false (d + 4) j_X12_last [.ref 187, .long nn] S (some (.long (-1))) (xSI S 187 0 (nI 0)) := by
  have hX := h.1
  have F0 : xFl (fun i k => i = 187 ∧ k = 0) S (xSI S 187 0 (nI 0)) := (xFl.rf S).SI ⟨rfl, rfl⟩
  have h0 := h.fr F0 (fun i q w => by omega)
  have X0 := h0.1
  have h06 : c.1.2.getD 0 0 < 6 := ho.1.2.2.2.2 _ (xmem_getD (d := 0) (show 0 < c.1.2.length from ho.1.2.2.1))
  have r0 := h0.2.2.2.1.2.2.2.1 0 ho.1.2.2.1
  have hml := h0.2.1 _ h06
  rcases Decidable.em (nn < lN 1) with w | w
  · skip
    refine xcall_intro (ls := [.ref 187, .long nn, .float 0, .float 0, .float 0, .float 0, .float 0, .float 0, .float 0, .float 0, .float 0, .float 0]) q_X12_last (by decide) rfl (Nat.le_of_ble_eq_true rfl) rfl ?_
    refine wp_aload_n dX12_last_0 rfl rfl (wp_iconst (v := nI 0) dX12_last_1 rfl (p11_1 dX12_last_2 (xsh hX sh_187) (wp_lload_n dX12_last_5 rfl (wp_lconst (v := lN 1) dX12_last_6 rfl ?_))))
    refine wlr_lt dX12_last_7 dX12_last_8 rfl  (fun c7 => ?_) (fun c7 => absurd c7 (not_not_intro w))
    exact wp_ldc2 dX12_last_32 k11_470 rfl (wp_lreturn dX12_last_35 rfl ⟨rfl, rfl⟩)
  · rcases Decidable.em (lN 1000000000000 < nn) with w2 | w2
    · skip
      refine xcall_intro (ls := [.ref 187, .long nn, .float 0, .float 0, .float 0, .float 0, .float 0, .float 0, .float 0, .float 0, .float 0, .float 0]) q_X12_last (by decide) rfl (Nat.le_of_ble_eq_true rfl) rfl ?_
      refine wp_aload_n dX12_last_0 rfl rfl (wp_iconst (v := nI 0) dX12_last_1 rfl (p11_1 dX12_last_2 (xsh hX sh_187) (wp_lload_n dX12_last_5 rfl (wp_lconst (v := lN 1) dX12_last_6 rfl ?_))))
      refine wlr_lt dX12_last_7 dX12_last_8 rfl  (fun c7 => absurd c7 w) (fun c7 => ?_)
      refine wp_lload_n dX12_last_11 rfl (wp_ldc2 dX12_last_12 k11_468 (show xKL 11 468 = lN 1000000000000 from rfl) ?_)
      refine wlr_gt dX12_last_15 dX12_last_16 rfl  (fun c15 => ?_) (fun c15 => absurd c15 (not_not_intro w2))
      exact wp_ldc2 dX12_last_32 k11_470 rfl (wp_lreturn dX12_last_35 rfl ⟨rfl, rfl⟩)
    · cases hx : c.2.2.2.2 (c.1.2.getD 0 0) with
      | none =>
        have gh := m_has (c := 0) (d + 3) h06 X0 (hml.1 hx) (by decide)
        refine xcall_intro (ls := [.ref 187, .long nn, .float 0, .float 0, .float 0, .float 0, .float 0, .float 0, .float 0, .float 0, .float 0, .float 0]) q_X12_last (by decide) rfl (Nat.le_of_ble_eq_true rfl) rfl ?_
        refine wp_aload_n dX12_last_0 rfl rfl (wp_iconst (v := nI 0) dX12_last_1 rfl (p11_1 dX12_last_2 (xsh hX sh_187) (wp_lload_n dX12_last_5 rfl (wp_lconst (v := lN 1) dX12_last_6 rfl ?_))))
        refine wlr_lt dX12_last_7 dX12_last_8 rfl  (fun c7 => absurd c7 w) (fun c7 => ?_)
        refine wp_lload_n dX12_last_11 rfl (wp_ldc2 dX12_last_12 k11_468 (show xKL 11 468 = lN 1000000000000 from rfl) ?_)
        refine wlr_gt dX12_last_15 dX12_last_16 rfl  (fun c15 => absurd c15 w2) (fun c15 => ?_)
        refine wp_aload_n dX12_last_19 rfl rfl (wp_aload_n dX12_last_20 rfl rfl (g11_275 dX12_last_21 (xsh X0 sh_187) (xrr X0 r187_47) (wp_iconst (v := nI 0) dX12_last_24 rfl (wn_iaload dX12_last_25 (xsh X0 sh_210) rfl (by omega) (by decide) r0 (wp_iv2 dX12_last_26 k11_231 q_X12_has (by decide) (xsh X0 sh_187) (by decide) (Nat.le_of_ble_eq_true rfl) gh ?_)))))
        refine wb_if_ne dX12_last_29 rfl (fun c29 => absurd c29 (by decide)) (fun c29 => ?_)
        exact wp_ldc2 dX12_last_32 k11_470 rfl (wp_lreturn dX12_last_35 rfl ⟨rfl, rfl⟩)
      | some x =>
        obtain ⟨n0, t0, L⟩ := x
        obtain ⟨hRM, ok, hn0, h16, h121⟩ := hml.2 n0 t0 L hx
        have hL1 := xRok_1 ok
        have gh := m_has (c := L.length) (d + 3) h06 X0 hRM.2.2.2.2 (by omega)
        rw [decide_eq_true (show 0 < L.length by omega)] at gh
        have hyes : ¬ xnoa L = false := fun e0 => by
          have hz : ¬ nn < 0 := fun z => w (Int64.lt_trans z (by decide))
          obtain ⟨N, hN, rfl⟩ := pk_lOf hz
          exact hno ⟨N, n0, t0, L, rfl, Nat.le_of_not_lt (fun z => w ((pk_lLT hN (by decide)).mpr z)), Nat.le_of_not_lt (fun z => w2 ((pk_lLT (by decide) hN).mpr z)), hx, e0⟩
        have hz : ¬ nn < 0 := fun z => w (Int64.lt_trans z (by decide))
        obtain ⟨N, hN, rfl⟩ := pk_lOf hz
        have lp := la_no (N := N) (d := d) (x5 := .float 0) (x6 := .float 0) (x7 := .float 0) (x8 := .float 0) (x9 := .float 0) (x10 := .float 0) (x11 := .float 0) h06 h121 h16 X0 hRM (fun i hi => by have := (xmit_bd ok (xmem_getD (d := (0, 0, 0)) hi)).1.2.2.2.2.2; omega) (L.flatMap xmit).length 0 (Nat.zero_add _) (fun q => hyes ((xnoa_m (t := t0) (n := n0)).mp (fun i hi => q i (Nat.zero_le _) hi)))
        refine xcall_intro (ls := [.ref 187, .long (lN N), .float 0, .float 0, .float 0, .float 0, .float 0, .float 0, .float 0, .float 0, .float 0, .float 0]) q_X12_last (by decide) rfl (Nat.le_of_ble_eq_true rfl) rfl ?_
        refine wp_aload_n dX12_last_0 rfl rfl (wp_iconst (v := nI 0) dX12_last_1 rfl (p11_1 dX12_last_2 (xsh hX sh_187) (wp_lload_n dX12_last_5 rfl (wp_lconst (v := lN 1) dX12_last_6 rfl ?_))))
        refine wlr_lt dX12_last_7 dX12_last_8 rfl  (fun c7 => absurd c7 w) (fun c7 => ?_)
        refine wp_lload_n dX12_last_11 rfl (wp_ldc2 dX12_last_12 k11_468 (show xKL 11 468 = lN 1000000000000 from rfl) ?_)
        refine wlr_gt dX12_last_15 dX12_last_16 rfl  (fun c15 => absurd c15 w2) (fun c15 => ?_)
        refine wp_aload_n dX12_last_19 rfl rfl (wp_aload_n dX12_last_20 rfl rfl (g11_275 dX12_last_21 (xsh X0 sh_187) (xrr X0 r187_47) (wp_iconst (v := nI 0) dX12_last_24 rfl (wn_iaload dX12_last_25 (xsh X0 sh_210) rfl (by omega) (by decide) r0 (wp_iv2 dX12_last_26 k11_231 q_X12_has (by decide) (xsh X0 sh_187) (by decide) (Nat.le_of_ble_eq_true rfl) gh ?_)))))
        refine wb_if_ne dX12_last_29 rfl (fun c29 => ?_) (fun c29 => absurd c29 (by decide))
        exact wp_aload_n dX12_last_36 rfl rfl (g11_275 dX12_last_37 (xsh X0 sh_187) (xrr X0 r187_47) (wp_iconst (v := nI 0) dX12_last_40 rfl (wn_iaload dX12_last_41 (xsh X0 sh_210) rfl (by omega) (by decide) r0 (wp_istore_n dX12_last_42 ⟨Nat.le_of_ble_eq_true rfl, Or.inr rfl⟩ rfl (wp_iconst (v := nI 0) dX12_last_43 rfl (wp_istore dX12_last_44 ⟨Nat.le_of_ble_eq_true rfl, Or.inr rfl⟩ rfl lp))))))
theorem m_last {c : xPx} {N n0 : Nat} {t : Nat → Nat} {L : List xLn} (d : Nat) (ho : xzo c) {S : xS} (h : xMS S c) (h1 : 1 ≤ N) (h2 : N ≤ 1000000000000) (hx : c.2.2.2.2 (c.1.2.getD 0 0) = some (n0, t, L)) (hna : xnoa L = false) : xcall false (d + 4) j_X12_last [.ref 187, .long (lN N)] S (some (.long (lN (if xtot c.2.1 t (xzb c) L = 1 then N - 1 else xjo (xtot c.2.1 t (xzb c) L - 1) N)))) (xSI S 187 0 (nI 0)) := by
  have hX := h.1
  have F0 : xFl (fun i k => i = 187 ∧ k = 0) S (xSI S 187 0 (nI 0)) := (xFl.rf S).SI ⟨rfl, rfl⟩
  have h0 := h.fr F0 (fun i q w => by omega)
  have X0 := h0.1
  have h06 : c.1.2.getD 0 0 < 6 := ho.1.2.2.2.2 _ (xmem_getD (d := 0) (show 0 < c.1.2.length from ho.1.2.2.1))
  have r0 := h0.2.2.2.1.2.2.2.1 0 ho.1.2.2.1
  have hml := h0.2.1 _ h06
  obtain ⟨hRM, ok, hn0, h16, h121⟩ := hml.2 n0 t L hx
  have hL1 := xRok_1 ok
  have gh := m_has (c := L.length) (d + 3) h06 X0 hRM.2.2.2.2 (by omega)
  rw [decide_eq_true (show 0 < L.length by omega)] at gh
  obtain ⟨b1, b2⟩ := xtot_b ho h06 hx hna
  have gt := m_countedOf (v := c.2.1) (d + 0) (xzb c) h06 X0 hRM ok hn0 h121 h0.2.2.1 h16
  have y0 := h0.2.2.2.1.1 0 (by decide)
  have b0 : c.1.1 0 ≤ 1 := ho.1.1 0 (by decide)
  have et : (nI (xtot c.2.1 t (xzb c) L)).toInt64 = lN (xtot c.2.1 t (xzb c) L) := nI_l (by omega)
  have tail : ∀ x4 : Int32, Wp false (d + 4) 11 cX12_last (some .long) false 126 [.ref 187, .long (lN N), .float 0, .int (nI (c.1.2.getD 0 0)), .int x4, .float 0, .float 0, .float 0, .float 0, .float 0, .float 0, .float 0] [.int (xB (xzb c)), .int (nI (c.1.2.getD 0 0)), .ref 187] (xSI S 187 0 (nI 0)) (fun r S' => r = some (.long (lN (if xtot c.2.1 t (xzb c) L = 1 then N - 1 else xjo (xtot c.2.1 t (xzb c) L - 1) N))) ∧ S' = xSI S 187 0 (nI 0)) := by
    intro x4
    rcases Decidable.em (xtot c.2.1 t (xzb c) L = 1) with w | w
    · rw [if_pos w]
      refine wp_iv3 dX12_last_126 k11_238 q_X12_countedOf (by decide) (xsh X0 sh_187) (by decide) (Nat.le_of_ble_eq_true rfl) gt (wv_i2l dX12_last_129 et (wp_lstore dX12_last_130 ⟨Nat.le_of_ble_eq_true rfl, Or.inr rfl⟩ rfl (wp_lload dX12_last_132 rfl (wp_lconst (v := lN 1) dX12_last_134 rfl ?_))))
      refine wl_ne dX12_last_135 dX12_last_136 rfl (by omega) (by omega) (fun c135 => absurd c135 (by omega)) (fun c135 => ?_)
      exact wp_lload_n dX12_last_139 rfl (wp_lconst (v := lN 1) dX12_last_140 rfl (wv_lsub dX12_last_141 (lN_sub (by omega)) (wp_lreturn dX12_last_142 rfl ⟨rfl, rfl⟩)))
    · rw [if_neg w]
      obtain ⟨q, hq⟩ : ∃ q, xtot c.2.1 t (xzb c) L = q + 1 := ⟨xtot c.2.1 t (xzb c) L - 1, by omega⟩
      rw [hq] at et gt w b2 ⊢
      rw [show q + 1 - 1 = q by omega]
      have e1 : xjo q 1 = 0 := by rw [xjo, Nat.mod_one]
      have lp := mla_loop (q := q) (n := N) (d := d) (y3 := nI (c.1.2.getD 0 0)) (S := xSI S 187 0 (nI 0)) (by omega) (by omega) (by omega) (N - 1) 1 (.float 0) (.float 0) (by omega) (by decide)
      rw [e1] at lp
      refine wp_iv3 dX12_last_126 k11_238 q_X12_countedOf (by decide) (xsh X0 sh_187) (by decide) (Nat.le_of_ble_eq_true rfl) gt (wv_i2l dX12_last_129 et (wp_lstore dX12_last_130 ⟨Nat.le_of_ble_eq_true rfl, Or.inr rfl⟩ rfl (wp_lload dX12_last_132 rfl (wp_lconst (v := lN 1) dX12_last_134 rfl ?_))))
      refine wl_ne dX12_last_135 dX12_last_136 rfl (by omega) (by omega) (fun c135 => ?_) (fun c135 => absurd c135 (by omega))
      exact wp_lconst (v := lN 0) dX12_last_143 rfl (wp_lstore dX12_last_144 ⟨Nat.le_of_ble_eq_true rfl, Or.inr rfl⟩ rfl (wp_lconst (v := lN 1) dX12_last_146 rfl (wp_lstore dX12_last_147 ⟨Nat.le_of_ble_eq_true rfl, Or.inr rfl⟩ rfl lp)))
  have lp := la_ok (N := N) (d := d) (x5 := .float 0) (x6 := .float 0) (x7 := .float 0) (x8 := .float 0) (x9 := .float 0) (x10 := .float 0) (x11 := .float 0) h06 h121 h16 X0 hRM (fun i hi => by have := (xmit_bd ok (xmem_getD (d := (0, 0, 0)) hi)).1.2.2.2.2.2; omega) ((xnoa_m (t := t) (n := n0)).mpr hna) (Q := (fun r S' => r = some (.long (lN (if xtot c.2.1 t (xzb c) L = 1 then N - 1 else xjo (xtot c.2.1 t (xzb c) L - 1) N))) ∧ S' = xSI S 187 0 (nI 0))) (fun x4 => by
    have tl := tail x4
    rcases Decidable.em (c.1.1 0 = 1) with w | w
    · rw [show xzb c = true from decide_eq_true w] at tl ⊢
      refine wp_aload_n dX12_last_109 rfl rfl (wp_iload_n dX12_last_110 rfl (wp_aload_n dX12_last_111 rfl rfl (g11_272 dX12_last_112 (xsh X0 sh_187) (xrr X0 r187_45) (wp_iconst (v := nI 0) dX12_last_115 rfl (wn_iaload dX12_last_116 (xsh X0 sh_208) rfl (by omega) (by decide) y0 (wp_iconst (v := nI 1) dX12_last_117 rfl ?_))))))
      refine wn_icmp_ne dX12_last_118 rfl (by omega) (by omega) (fun c118 => absurd c118 (by omega)) (fun c118 => ?_)
      exact wp_iconst (v := nI 1) dX12_last_121 rfl (wp_goto dX12_last_122 rfl tl)
    · rw [show xzb c = false from decide_eq_false w] at tl ⊢
      refine wp_aload_n dX12_last_109 rfl rfl (wp_iload_n dX12_last_110 rfl (wp_aload_n dX12_last_111 rfl rfl (g11_272 dX12_last_112 (xsh X0 sh_187) (xrr X0 r187_45) (wp_iconst (v := nI 0) dX12_last_115 rfl (wn_iaload dX12_last_116 (xsh X0 sh_208) rfl (by omega) (by decide) y0 (wp_iconst (v := nI 1) dX12_last_117 rfl ?_))))))
      refine wn_icmp_ne dX12_last_118 rfl (by omega) (by omega) (fun c118 => ?_) (fun c118 => absurd c118 (by omega))
      exact wp_iconst (v := nI 0) dX12_last_125 rfl tl) (L.flatMap xmit).length 0 (Nat.zero_add _)
  refine xcall_intro (ls := [.ref 187, .long (lN N), .float 0, .float 0, .float 0, .float 0, .float 0, .float 0, .float 0, .float 0, .float 0, .float 0]) q_X12_last (by decide) rfl (Nat.le_of_ble_eq_true rfl) rfl ?_
  refine wp_aload_n dX12_last_0 rfl rfl (wp_iconst (v := nI 0) dX12_last_1 rfl (p11_1 dX12_last_2 (xsh hX sh_187) (wp_lload_n dX12_last_5 rfl (wp_lconst (v := lN 1) dX12_last_6 rfl ?_))))
  refine wl_lt dX12_last_7 dX12_last_8 rfl (by omega) (by omega) (fun c7 => absurd c7 (by omega)) (fun c7 => ?_)
  refine wp_lload_n dX12_last_11 rfl (wp_ldc2 dX12_last_12 k11_468 (show xKL 11 468 = lN 1000000000000 from rfl) ?_)
  refine wl_gt dX12_last_15 dX12_last_16 rfl (by omega) (by omega) (fun c15 => absurd c15 (by omega)) (fun c15 => ?_)
  refine wp_aload_n dX12_last_19 rfl rfl (wp_aload_n dX12_last_20 rfl rfl (g11_275 dX12_last_21 (xsh X0 sh_187) (xrr X0 r187_47) (wp_iconst (v := nI 0) dX12_last_24 rfl (wn_iaload dX12_last_25 (xsh X0 sh_210) rfl (by omega) (by decide) r0 (wp_iv2 dX12_last_26 k11_231 q_X12_has (by decide) (xsh X0 sh_187) (by decide) (Nat.le_of_ble_eq_true rfl) gh ?_)))))
  refine wb_if_ne dX12_last_29 rfl (fun c29 => ?_) (fun c29 => absurd c29 (by decide))
  exact wp_aload_n dX12_last_36 rfl rfl (g11_275 dX12_last_37 (xsh X0 sh_187) (xrr X0 r187_47) (wp_iconst (v := nI 0) dX12_last_40 rfl (wn_iaload dX12_last_41 (xsh X0 sh_210) rfl (by omega) (by decide) r0 (wp_istore_n dX12_last_42 ⟨Nat.le_of_ble_eq_true rfl, Or.inr rfl⟩ rfl (wp_iconst (v := nI 0) dX12_last_43 rfl (wp_istore dX12_last_44 ⟨Nat.le_of_ble_eq_true rfl, Or.inr rfl⟩ rfl lp))))))
