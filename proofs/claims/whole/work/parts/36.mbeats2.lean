/-! BEATS of a word, of the reference -/
/-- the letters that are BEATS and not mute, or all if there is none -/
def xbb (v : xTg) (w : Nat → Nat) (n : Nat) : Nat := if (xvb v.1 v.2.1 w n).1 % 2 ^ (n - xmutF v.2.2.1 w n (min n 3)) = 0 then (xvb v.1 v.2.1 w n).1 else (xvb v.1 v.2.1 w n).1 % 2 ^ (n - xmutF v.2.2.1 w n (min n 3))
def xbeats (v : xTg) (w : Nat → Nat) (n : Nat) : Nat := if xcb (xbb v w n) n = 0 then 1 else xcb (xbb v w n) n
theorem xbb_lt (v : xTg) (w : Nat → Nat) (n : Nat) : xbb v w n < 2 ^ n := by
  have h := xvb_lt v.1 v.2.1 w n
  unfold xbb
  split
  · exact h
  · exact Nat.lt_of_le_of_lt (Nat.mod_le _ _) h
theorem mcount_loop {s n b d : Nat} {S : xS} (hn : n ≤ 30) (hb : b < 2 ^ 31) {y4 : Int32} : ∀ (j k : Nat), k + j = n → Wp false (d + 1) 11 cX12_beatsOf (some .int) false 105 [.ref 187, .int (nI s), .int (nI n), .int (nI b), .int y4, .int (nI (xcb b k)), .int (nI k)] [] S (fun r S' => r = some (.int (nI (if xcb b n = 0 then 1 else xcb b n))) ∧ S' = S) := by
  intro j
  induction j with
  | zero =>
    intro k hk
    have : k = n := by omega
    subst this
    have hc := xcb_le b k
    refine wp_iload dX12_beatsOf_105 rfl (wp_iload_n dX12_beatsOf_107 rfl ?_)
    refine wn_icmp_ge dX12_beatsOf_108 rfl (by omega) (by omega) (fun c108 => ?_) (fun c108 => absurd c108 (by omega))
    refine wp_iload dX12_beatsOf_128 rfl ?_
    refine wn_if_ne dX12_beatsOf_130 rfl (by omega) (fun c130 => ?_) (fun c130 => ?_)
    · exact wp_iload dX12_beatsOf_137 rfl (wp_ireturn dX12_beatsOf_139 rfl rfl ⟨xret (by rw [if_neg (by omega)]), rfl⟩)
    · exact wp_iconst (v := nI 1) dX12_beatsOf_133 rfl (wp_goto dX12_beatsOf_134 rfl (wp_ireturn dX12_beatsOf_139 rfl rfl ⟨xret (by rw [if_pos c130]), rfl⟩))
  | succ j ih =>
    intro k hk
    have hc := xcb_le b k
    have e : nI (xcb b k) + xB (b.testBit k) = nI (xcb b (k + 1)) := by
      rw [xcb]
      cases b.testBit k with
      | true => exact nI_add _ 1
      | false => exact nI_add _ 0
    refine wp_iload dX12_beatsOf_105 rfl (wp_iload_n dX12_beatsOf_107 rfl ?_)
    refine wn_icmp_ge dX12_beatsOf_108 rfl (by omega) (by omega) (fun c108 => absurd c108 (by omega)) (fun c108 => ?_)
    exact wp_iload dX12_beatsOf_111 rfl (wp_iload_n dX12_beatsOf_113 rfl (wp_iload dX12_beatsOf_114 rfl (wp_ishr dX12_beatsOf_116 (wp_iconst (v := nI 1) dX12_beatsOf_117 rfl (wv_iand dX12_beatsOf_118 (xbit b k hb (by omega)) (wv_iadd dX12_beatsOf_119 e (wp_istore dX12_beatsOf_120 ⟨Nat.le_of_ble_eq_true rfl, Or.inr rfl⟩ rfl (wp_iinc dX12_beatsOf_122 rfl (nI_1 _) ⟨Nat.le_of_ble_eq_true rfl, Or.inr rfl⟩ rfl (wp_goto dX12_beatsOf_125 rfl (ih (k + 1) (by omega)))))))))))
theorem m_beatsOf {s n : Nat} {w : Nat → Nat} {v : xTg} {S : xS} (d : Nat) (hX : XC S) (hsn : s + n ≤ 1903) (hn30 : n ≤ 30) (hL : xLetM S s n w) (hV : xTgM S v) : xcall false (d + 1) j_X12_beatsOf [.ref 187, .int (nI s), .int (nI n)] S (some (.int (nI (xbeats v w n)))) S := by
  have gm := m_muteEnd d hX (by omega) hL hV
  have hz := xmutF_le v.2.2.1 w n (min n 3)
  have hb := xvb_lt v.1 v.2.1 w n
  have h30 : 2 ^ n ≤ 2 ^ 30 := Nat.pow_le_pow_right (by decide) hn30
  have hbb := xbb_lt v w n
  have hmod : (xvb v.1 v.2.1 w n).1 % 2 ^ (n - xmutF v.2.2.1 w n (min n 3)) ≤ (xvb v.1 v.2.1 w n).1 := Nat.mod_le _ _
  have hpos := Nat.two_pow_pos (n - xmutF v.2.2.1 w n (min n 3))
  have em := fa_mask (xvb v.1 v.2.1 w n).1 (n - xmutF v.2.2.1 w n (min n 3))
  have es : nI (2 ^ (n - xmutF v.2.2.1 w n (min n 3))) - nI 1 = nI (2 ^ (n - xmutF v.2.2.1 w n (min n 3)) - 1) := pk_sub (by omega)
  refine xcall_intro (ls := [.ref 187, .int (nI s), .int (nI n), .float 0, .float 0, .float 0, .float 0]) q_X12_beatsOf (by decide) rfl (Nat.le_of_ble_eq_true rfl) rfl ?_
  refine wp_iconst (v := nI 0) dX12_beatsOf_0 rfl (wp_istore_n dX12_beatsOf_1 ⟨Nat.le_of_ble_eq_true rfl, Or.inr rfl⟩ rfl (wp_iconst (v := nI 0) dX12_beatsOf_2 rfl (wp_istore dX12_beatsOf_3 ⟨Nat.le_of_ble_eq_true rfl, Or.inr rfl⟩ rfl ?_)))
  refine mb_loop hX hsn hn30 hL hV ?_ n 0 (by omega) (by omega) (fun _ h _ => by cases h)
  refine wp_iconst (v := nI 1) dX12_beatsOf_73 rfl (wp_iload_n dX12_beatsOf_74 rfl (wp_aload_n dX12_beatsOf_75 rfl rfl (wp_iload_n dX12_beatsOf_76 rfl (wp_iload_n dX12_beatsOf_77 rfl (wp_iv3 dX12_beatsOf_78 k11_159 q_X12_muteEnd (by decide) (xsh hX sh_187) (by decide) (Nat.le_of_ble_eq_true rfl) gm (wv_isub dX12_beatsOf_81 (pk_sub (by omega)) (wv_ishl dX12_beatsOf_82 (xsh1 (by omega)) (wp_iconst (v := nI 1) dX12_beatsOf_83 rfl (wv_isub dX12_beatsOf_84 es (wp_istore dX12_beatsOf_85 ⟨Nat.le_of_ble_eq_true rfl, Or.inr rfl⟩ rfl (wp_iload_n dX12_beatsOf_87 rfl (wp_iload dX12_beatsOf_88 rfl (wv_iand dX12_beatsOf_90 em ?_)))))))))))))
  refine wn_if_eq dX12_beatsOf_91 rfl (by omega) (fun c91 => ?_) (fun c91 => ?_)
  · refine wp_iconst (v := nI 0) dX12_beatsOf_99 rfl (wp_istore dX12_beatsOf_100 ⟨Nat.le_of_ble_eq_true rfl, Or.inr rfl⟩ rfl (wp_iconst (v := nI 0) dX12_beatsOf_102 rfl (wp_istore dX12_beatsOf_103 ⟨Nat.le_of_ble_eq_true rfl, Or.inr rfl⟩ rfl ?_)))
    have e : xbb v w n = (xvb v.1 v.2.1 w n).1 := by unfold xbb; rw [if_pos c91]
    unfold xbeats
    rw [e]
    exact mcount_loop hn30 (by omega) n 0 (by omega)
  · refine wp_iload_n dX12_beatsOf_94 rfl (wp_iload dX12_beatsOf_95 rfl (wv_iand dX12_beatsOf_97 em (wp_istore_n dX12_beatsOf_98 ⟨Nat.le_of_ble_eq_true rfl, Or.inr rfl⟩ rfl (wp_iconst (v := nI 0) dX12_beatsOf_99 rfl (wp_istore dX12_beatsOf_100 ⟨Nat.le_of_ble_eq_true rfl, Or.inr rfl⟩ rfl (wp_iconst (v := nI 0) dX12_beatsOf_102 rfl (wp_istore dX12_beatsOf_103 ⟨Nat.le_of_ble_eq_true rfl, Or.inr rfl⟩ rfl ?_)))))))
    have e : xbb v w n = (xvb v.1 v.2.1 w n).1 % 2 ^ (n - xmutF v.2.2.1 w n (min n 3)) := by unfold xbb; rw [if_neg (by omega)]
    unfold xbeats
    rw [e]
    exact mcount_loop hn30 (by omega) n 0 (by omega)
