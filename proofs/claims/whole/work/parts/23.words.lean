/-! WORDS that a token may be, on both sides; the rest of the reference's tokens -/
def xsp (t : Nat → Nat) (s : Nat) : Nat → List Nat → Bool
  | 0, [] => true
  | k + 1, c :: r => decide (t (s + k) = c) && xsp t s k r
  | _, _ => false
def xnr : List Nat → Nat
  | [] => 0
  | c :: r => xnr r * 2 ^ 8 + c
theorem xsp_num {t : Nat → Nat} {s : Nat} : ∀ (k : Nat) (r : List Nat), (∀ i, i < k → 0 < t (s + i) ∧ t (s + i) < 256) → (∀ c ∈ r, 0 < c ∧ c < 256) → (xwd t s k = xnr r ↔ xsp t s k r = true)
  | 0, [], _, _ => ⟨fun _ => rfl, fun _ => rfl⟩
  | 0, c :: r, _, h2 => by
    have := h2 c (List.mem_cons_self ..)
    unfold xwd xnr xsp
    exact ⟨fun e => by omega, fun e => by cases e⟩
  | k + 1, [], h1, _ => by
    have := h1 k (by omega)
    unfold xwd xnr xsp
    exact ⟨fun e => by omega, fun e => by cases e⟩
  | k + 1, c :: r, h1, h2 => by
    have ih := xsp_num k r (fun i hi => h1 i (by omega)) (fun x hx => h2 x (List.mem_cons_of_mem _ hx))
    have a1 := h1 k (by omega)
    have a2 := h2 c (List.mem_cons_self ..)
    unfold xwd xnr xsp
    rw [Bool.and_eq_true, decide_eq_true_eq, ← ih]
    omega
theorem xsp_iff {t : Nat → Nat} {s : Nat} : ∀ (r : List Nat) (z : Nat), xsp t s z r = true ↔ z = r.length ∧ ∀ k, k < z → t (s + k) = r.getD (r.length - 1 - k) 0
  | [], 0 => ⟨fun _ => ⟨rfl, fun k hk => absurd hk (Nat.not_lt_zero k)⟩, fun _ => rfl⟩
  | [], z + 1 => ⟨fun e => (by unfold xsp at e; cases e), fun e => (by have := e.1; simp at this)⟩
  | c :: r, 0 => ⟨fun e => (by unfold xsp at e; cases e), fun e => (by have := e.1; simp at this)⟩
  | c :: r, z + 1 => by
    have ih := xsp_iff (t := t) (s := s) r z
    unfold xsp
    rw [Bool.and_eq_true, decide_eq_true_eq, ih, List.length_cons]
    constructor
    · rintro ⟨h1, h2, h3⟩
      refine ⟨by omega, fun k hk => ?_⟩
      rcases Nat.lt_or_ge k z with q | q
      · rw [h3 k q, show r.length + 1 - 1 - k = (r.length - 1 - k) + 1 by omega, List.getD_cons_succ]
      · rw [show k = z by omega, h1, show r.length + 1 - 1 - z = 0 by omega, List.getD_cons_zero]
    · rintro ⟨h1, h2⟩
      have h0 := h2 z (by omega)
      rw [show r.length + 1 - 1 - z = 0 by omega, List.getD_cons_zero] at h0
      refine ⟨h0, by omega, fun k hk => ?_⟩
      rw [h2 k (by omega), show r.length + 1 - 1 - k = (r.length - 1 - k) + 1 by omega, List.getD_cons_succ]
theorem xspf_sp {L r : List Nat} {t : Nat → Nat} {s z a b : Nat} (h : b - a = r.length) (hd : ∀ k, k < r.length → L.getD (a + k) 0 = r.getD (r.length - 1 - k) 0) : xspf L t s z a b = xsp t s z r := by
  have hi := xsp_iff (t := t) (s := s) r z
  unfold xspf
  cases hx : xsp t s z r with
  | true =>
    obtain ⟨h1, h2⟩ := hi.mp hx
    exact decide_eq_true ⟨by omega, fun k hk => by rw [h2 k hk, hd k (by omega)]⟩
  | false =>
    refine decide_eq_false (fun q => ?_)
    have := hi.mpr ⟨by omega, fun k hk => by rw [← q.2 k hk, hd k (by omega)]⟩
    rw [hx] at this
    cases this
/-- the token is this word (its letters from the last to the first) -/
def xiw (r : List Nat) (n : Nat) (t : Nat → Nat) (p : Nat) : Bool := decide (xtk t n p = 1) && xsp t (xts t n p) (xte t n p - xts t n p) r
/-- a word's token -/
theorem xtk1 {t : Nat → Nat} {n p : Nat} (h : xtk t n p = 1) : xts t n p < xte t n p ∧ xte t n p - xts t n p ≤ 12 ∧ xta t n p = xte t n p ∧ ∀ k, xts t n p ≤ k → k < xte t n p → xsm (t k) = true := by
  unfold xtk at h
  split at h
  · rename_i h0
    split at h
    · rename_i h1
      refine ⟨h0, h1.2, by unfold xta; rw [if_pos h0], (xlets_all t (n - xts t n p) (xts t n p)).mp ?_⟩
      have e1 : xlets t (n - xts t n p) (xts t n p) = xtl t n p := rfl
      have e2 : xrunE t (n - xts t n p) (xts t n p) = xte t n p := rfl
      rw [e1, e2]
      omega
    · split at h <;> omega
  · split at h
    · omega
    · split at h <;> omega
theorem xtk2 {t : Nat → Nat} {n p : Nat} (h : xtk t n p = 2) : xts t n p < xte t n p ∧ xte t n p - xts t n p = 1 ∧ xta t n p = xte t n p ∧ 48 ≤ t (xts t n p) ∧ t (xts t n p) ≤ 57 := by
  unfold xtk at h
  split at h
  · rename_i h0
    split at h
    · omega
    · split at h
      · rename_i h1
        have e1 : xlets t (n - xts t n p) (xts t n p) = xtl t n p := rfl
        have e2 : xrunE t (n - xts t n p) (xts t n p) = xte t n p := rfl
        have a1 := (xlets_no t (n - xts t n p) (xts t n p)).mp (by rw [e1]; exact h1.1) (xts t n p) (Nat.le_refl _) (by rw [e2]; exact h0)
        have a2 := xrunE_in t (n - xts t n p) (xts t n p) (xts t n p) (Nat.le_refl _) (by rw [e2]; exact h0)
        unfold xwc at a2
        rw [a1, Bool.false_or] at a2
        have := of_decide_eq_true a2
        exact ⟨h0, h1.2, by unfold xta; rw [if_pos h0], this.1, this.2⟩
      · omega
  · split at h
    · omega
    · split at h <;> omega
theorem xsm_b {c : Nat} (h : xsm c = true) : 97 ≤ c ∧ c ≤ 122 := of_decide_eq_true h
theorem xpick_no {q n p : Nat} {t : Nat → Nat} (h : xtk t n p ≠ 1) : xpick q n t p = -1 := by unfold xpick; rw [if_neg h]
theorem xiw_no {r : List Nat} {n p : Nat} {t : Nat → Nat} (h : xtk t n p ≠ 1) : xiw r n t p = false := by unfold xiw; rw [decide_eq_false h]; rfl
theorem xiw_yes {r : List Nat} {n p : Nat} {t : Nat → Nat} (h : xtk t n p = 1) : xiw r n t p = xsp t (xts t n p) (xta t n p - xts t n p) r := by unfold xiw; rw [decide_eq_true h, (xtk1 h).2.2.1]; rfl
def xw_vowels : List Nat := [115, 108, 101, 119, 111, 118]
def xw_joined : List Nat := [100, 101, 110, 105, 111, 106]
def xw_mute : List Nat := [101, 116, 117, 109]
def xw_strong : List Nat := [103, 110, 111, 114, 116, 115]
def xw_first : List Nat := [116, 115, 114, 105, 102]
def xw_second : List Nat := [100, 110, 111, 99, 101, 115]
def xw_last : List Nat := [116, 115, 97, 108]
def xw_words : List Nat := [115, 100, 114, 111, 119]
def xw_beats : List Nat := [115, 116, 97, 101, 98]
def xw_heads : List Nat := [115, 100, 97, 101, 104]
def xw_fists : List Nat := [115, 116, 115, 105, 102]
def xw_out : List Nat := [116, 117, 111]
def xw_stays : List Nat := [115, 121, 97, 116, 115]
def xw_next : List Nat := [116, 120, 101, 110]
def xw_same : List Nat := [101, 109, 97, 115]
def xw_caller : List Nat := [114, 101, 108, 108, 97, 99]
def xw_never : List Nat := [114, 101, 118, 101, 110]
def xw_always : List Nat := [115, 121, 97, 119, 108, 97]
def xw_left : List Nat := [116, 102, 101, 108]
def xw_free : List Nat := [101, 101, 114, 102]
def xw_count : List Nat := [116, 110, 117, 111, 99]
def xw_by : List Nat := [121, 98]
def xw_hit : List Nat := [116, 105, 104]
def xw_then : List Nat := [110, 101, 104, 116]
def xw_turn : List Nat := [110, 114, 117, 116]
def xw_rhymes : List Nat := [115, 101, 109, 121, 104, 114]
def xw_aim : List Nat := [109, 105, 97]
theorem xpick_0 (n : Nat) (t : Nat → Nat) (p : Nat) : xpick 0 n t p = if xiw xw_vowels n t p = true then nI 0 else if xiw xw_joined n t p = true then nI 1 else if xiw xw_mute n t p = true then nI 2 else if xiw xw_strong n t p = true then nI 3 else -1 := by
  by_cases h : xtk t n p = 1
  · unfold xpick
    rw [if_pos h]
    have e : xpkf (xStr 0) (xspf (xStr 0) t (xts t n p) (xta t n p - xts t n p)) ((xStr 0).length + 1) 0 0 0 = if xspf (xStr 0) t (xts t n p) (xta t n p - xts t n p) 0 6 = true then nI 0 else if xspf (xStr 0) t (xts t n p) (xta t n p - xts t n p) 7 13 = true then nI 1 else if xspf (xStr 0) t (xts t n p) (xta t n p - xts t n p) 14 18 = true then nI 2 else if xspf (xStr 0) t (xts t n p) (xta t n p - xts t n p) 19 25 = true then nI 3 else -1 := rfl
    rw [e, xiw_yes h, xiw_yes h, xiw_yes h, xiw_yes h, xspf_sp (L := xStr 0) (r := xw_vowels) (a := 0) (b := 6) rfl (by decide), xspf_sp (L := xStr 0) (r := xw_joined) (a := 7) (b := 13) rfl (by decide), xspf_sp (L := xStr 0) (r := xw_mute) (a := 14) (b := 18) rfl (by decide), xspf_sp (L := xStr 0) (r := xw_strong) (a := 19) (b := 25) rfl (by decide)]
  · rw [xpick_no h]
    simp only [xiw_no h, Bool.false_eq_true, if_false]
theorem xpick_1 (n : Nat) (t : Nat → Nat) (p : Nat) : xpick 1 n t p = if xiw xw_first n t p = true then nI 0 else if xiw xw_second n t p = true then nI 1 else if xiw xw_last n t p = true then nI 2 else -1 := by
  by_cases h : xtk t n p = 1
  · unfold xpick
    rw [if_pos h]
    have e : xpkf (xStr 1) (xspf (xStr 1) t (xts t n p) (xta t n p - xts t n p)) ((xStr 1).length + 1) 0 0 0 = if xspf (xStr 1) t (xts t n p) (xta t n p - xts t n p) 0 5 = true then nI 0 else if xspf (xStr 1) t (xts t n p) (xta t n p - xts t n p) 6 12 = true then nI 1 else if xspf (xStr 1) t (xts t n p) (xta t n p - xts t n p) 13 17 = true then nI 2 else -1 := rfl
    rw [e, xiw_yes h, xiw_yes h, xiw_yes h, xspf_sp (L := xStr 1) (r := xw_first) (a := 0) (b := 5) rfl (by decide), xspf_sp (L := xStr 1) (r := xw_second) (a := 6) (b := 12) rfl (by decide), xspf_sp (L := xStr 1) (r := xw_last) (a := 13) (b := 17) rfl (by decide)]
  · rw [xpick_no h]
    simp only [xiw_no h, Bool.false_eq_true, if_false]
theorem xpick_2 (n : Nat) (t : Nat → Nat) (p : Nat) : xpick 2 n t p = if xiw xw_words n t p = true then nI 0 else if xiw xw_beats n t p = true then nI 1 else -1 := by
  by_cases h : xtk t n p = 1
  · unfold xpick
    rw [if_pos h]
    have e : xpkf (xStr 2) (xspf (xStr 2) t (xts t n p) (xta t n p - xts t n p)) ((xStr 2).length + 1) 0 0 0 = if xspf (xStr 2) t (xts t n p) (xta t n p - xts t n p) 0 5 = true then nI 0 else if xspf (xStr 2) t (xts t n p) (xta t n p - xts t n p) 6 11 = true then nI 1 else -1 := rfl
    rw [e, xiw_yes h, xiw_yes h, xspf_sp (L := xStr 2) (r := xw_words) (a := 0) (b := 5) rfl (by decide), xspf_sp (L := xStr 2) (r := xw_beats) (a := 6) (b := 11) rfl (by decide)]
  · rw [xpick_no h]
    simp only [xiw_no h, Bool.false_eq_true, if_false]
theorem xpick_3 (n : Nat) (t : Nat → Nat) (p : Nat) : xpick 3 n t p = if xiw xw_heads n t p = true then nI 0 else if xiw xw_fists n t p = true then nI 1 else -1 := by
  by_cases h : xtk t n p = 1
  · unfold xpick
    rw [if_pos h]
    have e : xpkf (xStr 3) (xspf (xStr 3) t (xts t n p) (xta t n p - xts t n p)) ((xStr 3).length + 1) 0 0 0 = if xspf (xStr 3) t (xts t n p) (xta t n p - xts t n p) 0 5 = true then nI 0 else if xspf (xStr 3) t (xts t n p) (xta t n p - xts t n p) 6 11 = true then nI 1 else -1 := rfl
    rw [e, xiw_yes h, xiw_yes h, xspf_sp (L := xStr 3) (r := xw_heads) (a := 0) (b := 5) rfl (by decide), xspf_sp (L := xStr 3) (r := xw_fists) (a := 6) (b := 11) rfl (by decide)]
  · rw [xpick_no h]
    simp only [xiw_no h, Bool.false_eq_true, if_false]
theorem xpick_4 (n : Nat) (t : Nat → Nat) (p : Nat) : xpick 4 n t p = if xiw xw_out n t p = true then nI 0 else if xiw xw_stays n t p = true then nI 1 else -1 := by
  by_cases h : xtk t n p = 1
  · unfold xpick
    rw [if_pos h]
    have e : xpkf (xStr 4) (xspf (xStr 4) t (xts t n p) (xta t n p - xts t n p)) ((xStr 4).length + 1) 0 0 0 = if xspf (xStr 4) t (xts t n p) (xta t n p - xts t n p) 0 3 = true then nI 0 else if xspf (xStr 4) t (xts t n p) (xta t n p - xts t n p) 4 9 = true then nI 1 else -1 := rfl
    rw [e, xiw_yes h, xiw_yes h, xspf_sp (L := xStr 4) (r := xw_out) (a := 0) (b := 3) rfl (by decide), xspf_sp (L := xStr 4) (r := xw_stays) (a := 4) (b := 9) rfl (by decide)]
  · rw [xpick_no h]
    simp only [xiw_no h, Bool.false_eq_true, if_false]
theorem xpick_5 (n : Nat) (t : Nat → Nat) (p : Nat) : xpick 5 n t p = if xiw xw_next n t p = true then nI 0 else if xiw xw_same n t p = true then nI 1 else if xiw xw_caller n t p = true then nI 2 else -1 := by
  by_cases h : xtk t n p = 1
  · unfold xpick
    rw [if_pos h]
    have e : xpkf (xStr 5) (xspf (xStr 5) t (xts t n p) (xta t n p - xts t n p)) ((xStr 5).length + 1) 0 0 0 = if xspf (xStr 5) t (xts t n p) (xta t n p - xts t n p) 0 4 = true then nI 0 else if xspf (xStr 5) t (xts t n p) (xta t n p - xts t n p) 5 9 = true then nI 1 else if xspf (xStr 5) t (xts t n p) (xta t n p - xts t n p) 10 16 = true then nI 2 else -1 := rfl
    rw [e, xiw_yes h, xiw_yes h, xiw_yes h, xspf_sp (L := xStr 5) (r := xw_next) (a := 0) (b := 4) rfl (by decide), xspf_sp (L := xStr 5) (r := xw_same) (a := 5) (b := 9) rfl (by decide), xspf_sp (L := xStr 5) (r := xw_caller) (a := 10) (b := 16) rfl (by decide)]
  · rw [xpick_no h]
    simp only [xiw_no h, Bool.false_eq_true, if_false]
theorem xpick_6 (n : Nat) (t : Nat → Nat) (p : Nat) : xpick 6 n t p = if xiw xw_never n t p = true then nI 0 else if xiw xw_always n t p = true then nI 1 else -1 := by
  by_cases h : xtk t n p = 1
  · unfold xpick
    rw [if_pos h]
    have e : xpkf (xStr 6) (xspf (xStr 6) t (xts t n p) (xta t n p - xts t n p)) ((xStr 6).length + 1) 0 0 0 = if xspf (xStr 6) t (xts t n p) (xta t n p - xts t n p) 0 5 = true then nI 0 else if xspf (xStr 6) t (xts t n p) (xta t n p - xts t n p) 6 12 = true then nI 1 else -1 := rfl
    rw [e, xiw_yes h, xiw_yes h, xspf_sp (L := xStr 6) (r := xw_never) (a := 0) (b := 5) rfl (by decide), xspf_sp (L := xStr 6) (r := xw_always) (a := 6) (b := 12) rfl (by decide)]
  · rw [xpick_no h]
    simp only [xiw_no h, Bool.false_eq_true, if_false]
theorem xpick_7 (n : Nat) (t : Nat → Nat) (p : Nat) : xpick 7 n t p = if xiw xw_left n t p = true then nI 0 else if xiw xw_free n t p = true then nI 1 else -1 := by
  by_cases h : xtk t n p = 1
  · unfold xpick
    rw [if_pos h]
    have e : xpkf (xStr 7) (xspf (xStr 7) t (xts t n p) (xta t n p - xts t n p)) ((xStr 7).length + 1) 0 0 0 = if xspf (xStr 7) t (xts t n p) (xta t n p - xts t n p) 0 4 = true then nI 0 else if xspf (xStr 7) t (xts t n p) (xta t n p - xts t n p) 5 9 = true then nI 1 else -1 := rfl
    rw [e, xiw_yes h, xiw_yes h, xspf_sp (L := xStr 7) (r := xw_left) (a := 0) (b := 4) rfl (by decide), xspf_sp (L := xStr 7) (r := xw_free) (a := 5) (b := 9) rfl (by decide)]
  · rw [xpick_no h]
    simp only [xiw_no h, Bool.false_eq_true, if_false]
theorem xpick_8 (n : Nat) (t : Nat → Nat) (p : Nat) : xpick 8 n t p = if xiw xw_count n t p = true then nI 0 else if xiw xw_by n t p = true then nI 1 else if xiw xw_hit n t p = true then nI 2 else if xiw xw_then n t p = true then nI 3 else if xiw xw_turn n t p = true then nI 4 else if xiw xw_left n t p = true then nI 5 else if xiw xw_rhymes n t p = true then nI 6 else if xiw xw_aim n t p = true then nI 7 else -1 := by
  by_cases h : xtk t n p = 1
  · unfold xpick
    rw [if_pos h]
    have e : xpkf (xStr 8) (xspf (xStr 8) t (xts t n p) (xta t n p - xts t n p)) ((xStr 8).length + 1) 0 0 0 = if xspf (xStr 8) t (xts t n p) (xta t n p - xts t n p) 0 5 = true then nI 0 else if xspf (xStr 8) t (xts t n p) (xta t n p - xts t n p) 6 8 = true then nI 1 else if xspf (xStr 8) t (xts t n p) (xta t n p - xts t n p) 9 12 = true then nI 2 else if xspf (xStr 8) t (xts t n p) (xta t n p - xts t n p) 13 17 = true then nI 3 else if xspf (xStr 8) t (xts t n p) (xta t n p - xts t n p) 18 22 = true then nI 4 else if xspf (xStr 8) t (xts t n p) (xta t n p - xts t n p) 23 27 = true then nI 5 else if xspf (xStr 8) t (xts t n p) (xta t n p - xts t n p) 28 34 = true then nI 6 else if xspf (xStr 8) t (xts t n p) (xta t n p - xts t n p) 35 38 = true then nI 7 else -1 := rfl
    rw [e, xiw_yes h, xiw_yes h, xiw_yes h, xiw_yes h, xiw_yes h, xiw_yes h, xiw_yes h, xiw_yes h, xspf_sp (L := xStr 8) (r := xw_count) (a := 0) (b := 5) rfl (by decide), xspf_sp (L := xStr 8) (r := xw_by) (a := 6) (b := 8) rfl (by decide), xspf_sp (L := xStr 8) (r := xw_hit) (a := 9) (b := 12) rfl (by decide), xspf_sp (L := xStr 8) (r := xw_then) (a := 13) (b := 17) rfl (by decide), xspf_sp (L := xStr 8) (r := xw_turn) (a := 18) (b := 22) rfl (by decide), xspf_sp (L := xStr 8) (r := xw_left) (a := 23) (b := 27) rfl (by decide), xspf_sp (L := xStr 8) (r := xw_rhymes) (a := 28) (b := 34) rfl (by decide), xspf_sp (L := xStr 8) (r := xw_aim) (a := 35) (b := 38) rfl (by decide)]
  · rw [xpick_no h]
    simp only [xiw_no h, Bool.false_eq_true, if_false]
theorem xwd_lt7 (t : Nat → Nat) (s : Nat) : ∀ k, (∀ i, i < k + 1 → t (s + i) < 128) → xwd t s (k + 1) < 128 * 256 ^ k
  | 0, h => by
    have := h 0 (by omega)
    unfold xwd xwd
    omega
  | k + 1, h => by
    have h1 := xwd_lt7 t s k (fun i hi => h i (by omega))
    have h2 := h (k + 1) (by omega)
    rw [xwd, Nat.pow_succ]
    omega
theorem m_wrong (w q : Nat) (d : Nat) {S : xS} (hX : XC S) : xcall false d j_X12_wrong [.ref 187, .int (nI w), .int (nI q)] S (some (.int (xB false))) (xSI (xSI S 187 9 (nI w)) 187 10 (nI q)) := by
  refine xcall_intro (ls := [.ref 187, .int (nI w), .int (nI q)]) q_X12_wrong (by decide) rfl (Nat.le_of_ble_eq_true rfl) rfl ?_
  exact wp_aload_n dX12_wrong_0 rfl rfl (wp_iload_n dX12_wrong_1 rfl (p11_51 dX12_wrong_2 (xsh hX sh_187) (wp_aload_n dX12_wrong_5 rfl rfl (wp_iload_n dX12_wrong_6 rfl (p11_54 dX12_wrong_7 (xsh hX sh_187) (wp_iconst (v := nI 0) dX12_wrong_10 rfl (wb_ret dX12_wrong_11 rfl rfl ⟨rfl, rfl⟩)))))))
theorem m_cant (d : Nat) {S : xS} {n p : Nat} {t : Nat → Nat} (hX : XC S) (hT : xTxM S n t) (hM : xTM S n t p) : xcall false (d + 1) j_X12_cant [.ref 187] S (some (.int (xB false))) (xSI (xSI S 187 9 (nI (if xtk t n p = 4 then 1 else 2))) 187 10 (nI (xts t n p))) := by
  obtain ⟨hp, h6, h4, h5, hr⟩ := hM
  have b4 := xtk_b t n p
  have hle := hT.2.1
  refine xcall_intro (ls := [.ref 187]) q_X12_cant (by decide) rfl (Nat.le_of_ble_eq_true rfl) rfl ?_
  refine wp_aload_n dX12_cant_0 rfl rfl (wp_aload_n dX12_cant_1 rfl rfl (gv11_34 dX12_cant_2 (xsh hX sh_187) h5 (wp_iconst (v := nI 4) dX12_cant_5 rfl ?_)))
  refine wn_icmp_ne dX12_cant_6 rfl (by omega) (by omega) (fun c6 => ?_) (fun c6 => ?_)
  · exact wp_iconst (v := nI 2) dX12_cant_13 rfl (wp_aload_n dX12_cant_14 rfl rfl (gv11_28 dX12_cant_15 (xsh hX sh_187) h6 (wp_iv3 dX12_cant_18 k11_57 q_X12_wrong (by decide) (xsh hX sh_187) (by decide) (Nat.le_of_ble_eq_true rfl) (m_wrong _ _ d hX) (wb_ret dX12_cant_21 rfl rfl ⟨rfl, by rw [if_neg c6]⟩))))
  · exact wp_iconst (v := nI 1) dX12_cant_9 rfl (wp_goto dX12_cant_10 rfl (wp_aload_n dX12_cant_14 rfl rfl (gv11_28 dX12_cant_15 (xsh hX sh_187) h6 (wp_iv3 dX12_cant_18 k11_57 q_X12_wrong (by decide) (xsh hX sh_187) (by decide) (Nat.le_of_ble_eq_true rfl) (m_wrong _ _ d hX) (wb_ret dX12_cant_21 rfl rfl ⟨rfl, by rw [if_pos c6]⟩)))))
theorem m_isWord (d : Nat) {S : xS} {n p : Nat} {t : Nat → Nat} (hX : XC S) (hT : xTxM S n t) (hM : xTM S n t p) {r : List Nat} {W : Nat} (hr1 : xnr r = W ∧ r.length ≤ 8 ∧ 0 < W ∧ W < 2 ^ 63) (hr2 : ∀ c ∈ r, 0 < c ∧ c < 256) : xcall false d j_X12_isWord [.ref 187, .long (lN W)] S (some (.int (xB (xiw r n t p)))) S := by
  obtain ⟨hp, h6, h4, h5, hr⟩ := hM
  have b4 := xtk_b t n p
  have hle := hT.2.1
  have key : xtk t n p = 1 → (lg_cmp (S.2.2.2 187 11) (lN W) = 0 ↔ xiw r n t p = true) := by
    intro hk
    obtain ⟨k1, k2, k3, k4⟩ := xtk1 hk
    rw [(hr k1).2.2, lg_cmp_eq, xiw_yes hk, k3]
    have hpos : ∀ i, i < xte t n p - xts t n p → 0 < t (xts t n p + i) ∧ t (xts t n p + i) < 256 := fun i hi => by
      have := xsm_b (k4 (xts t n p + i) (by omega) (by omega))
      omega
    by_cases h8 : xte t n p - xts t n p ≤ 8
    · rw [if_pos h8]
      have hlt := xwd_lt t (xts t n p) (xte t n p - xts t n p) (fun i hi => (hpos i hi).2)
      have hnum := xsp_num (xte t n p - xts t n p) r hpos hr2
      rw [← hnum, hr1.1]
      have w63 : xwd t (xts t n p) (xte t n p - xts t n p) < 2 ^ 63 := by
        obtain ⟨z, hz⟩ : ∃ z, xte t n p - xts t n p = z + 1 := ⟨xte t n p - xts t n p - 1, by omega⟩
        rw [hz]
        have h7 := xwd_lt7 t (xts t n p) z (fun i hi => by have := xsm_b (k4 (xts t n p + i) (by omega) (by omega)); omega)
        have hp7 : 256 ^ z ≤ 256 ^ 7 := Nat.pow_le_pow_right (by decide) (by omega)
        omega
      exact pk_lEQ w63 hr1.2.2.2
    · rw [if_neg h8]
      constructor
      · intro e
        exact absurd ((pk_lEQ (by decide) hr1.2.2.2).mp e) (by omega)
      · intro e
        have := ((xsp_iff r _).mp e).1
        omega
  refine xcall_intro (ls := [.ref 187, .long (lN W), .float 0]) q_X12_isWord (by decide) rfl (Nat.le_of_ble_eq_true rfl) rfl ?_
  refine wp_aload_n dX12_isWord_0 rfl rfl (gv11_34 dX12_isWord_1 (xsh hX sh_187) h5 (wp_iconst (v := nI 1) dX12_isWord_4 rfl ?_))
  refine wn_icmp_ne dX12_isWord_5 rfl (by omega) (by omega) (fun c5 => ?_) (fun c5 => ?_)
  · exact wp_iconst (v := nI 0) dX12_isWord_21 rfl (wb_ret dX12_isWord_22 rfl (xB_of_f (xiw_no c5)) ⟨rfl, rfl⟩)
  · refine wp_aload_n dX12_isWord_8 rfl rfl (g11_44 dX12_isWord_9 (xsh hX sh_187) (wp_lload_n dX12_isWord_12 rfl (wp_lcmp dX12_isWord_13 ?_)))
    refine wp_if_ne dX12_isWord_14 rfl (fun c14 => ?_) (fun c14 => ?_)
    · exact wp_iconst (v := nI 0) dX12_isWord_21 rfl (wb_ret dX12_isWord_22 rfl (xB_of_f (by cases hz : xiw r n t p; rfl; exact absurd ((key c5).mpr hz) c14)) ⟨rfl, rfl⟩)
    · exact wp_iconst (v := nI 1) dX12_isWord_17 rfl (wp_goto dX12_isWord_18 rfl (wb_ret dX12_isWord_22 rfl (xB_of_t ((key c5).mp (by first | exact c14 | exact Decidable.not_not.mp c14))) ⟨rfl, rfl⟩))
theorem m_semi (d : Nat) {S : xS} {n p : Nat} {t : Nat → Nat} (hX : XC S) (hT : xTxM S n t) (hM : xTM S n t p) (hk : xtk t n p = 3) : ∃ S', xcall false (d + 2) j_X12_semi [.ref 187] S (some (.int (xB true))) S' ∧ xFl (fun a k => a = 187 ∧ (k = 4 ∨ k = 5 ∨ k = 6 ∨ k = 7 ∨ k = 8)) S S' ∧ xTM S' n t (xta t n p) := by
  obtain ⟨hp, h6, h4, h5, hr⟩ := hM
  have b4 := xtk_b t n p
  have hle := hT.2.1
  obtain ⟨S1, g1, f1, t1⟩ := m_next d hX hT h4 (xta_b t hp).2.1
  refine ⟨S1, ?_, f1, t1⟩
  refine xcall_intro (ls := [.ref 187]) q_X12_semi (by decide) rfl (Nat.le_of_ble_eq_true rfl) rfl ?_
  refine wp_aload_n dX12_semi_0 rfl rfl (gv11_34 dX12_semi_1 (xsh hX sh_187) h5 (wp_iconst (v := nI 3) dX12_semi_4 rfl ?_))
  refine wn_icmp_eq dX12_semi_5 rfl (by omega) (by omega) (fun c5 => ?_) (fun c5 => absurd c5 (by omega))
  exact wp_aload_n dX12_semi_13 rfl rfl (wp_iv1 dX12_semi_14 k11_65 q_X12_next (by decide) (xsh hX sh_187) (by decide) (Nat.le_of_ble_eq_true rfl) g1 (wp_iconst (v := nI 1) dX12_semi_17 rfl (wb_ret dX12_semi_18 rfl rfl ⟨rfl, rfl⟩)))
theorem m_semi_no (d : Nat) {S : xS} {n p : Nat} {t : Nat → Nat} (hX : XC S) (hT : xTxM S n t) (hM : xTM S n t p) (hk : xtk t n p ≠ 3) : xcall false (d + 2) j_X12_semi [.ref 187] S (some (.int (xB false))) (xSI (xSI S 187 9 (nI (if xtk t n p = 4 then 1 else 2))) 187 10 (nI (xts t n p))) := by
  have hM0 := hM
  obtain ⟨hp, h6, h4, h5, hr⟩ := hM
  have b4 := xtk_b t n p
  have hle := hT.2.1
  refine xcall_intro (ls := [.ref 187]) q_X12_semi (by decide) rfl (Nat.le_of_ble_eq_true rfl) rfl ?_
  refine wp_aload_n dX12_semi_0 rfl rfl (gv11_34 dX12_semi_1 (xsh hX sh_187) h5 (wp_iconst (v := nI 3) dX12_semi_4 rfl ?_))
  refine wn_icmp_eq dX12_semi_5 rfl (by omega) (by omega) (fun c5 => absurd c5 (by omega)) (fun c5 => ?_)
  exact wp_aload_n dX12_semi_8 rfl rfl (wp_iv1 dX12_semi_9 k11_61 q_X12_cant (by decide) (xsh hX sh_187) (by decide) (Nat.le_of_ble_eq_true rfl) (m_cant d hX hT hM0) (wb_ret dX12_semi_12 rfl rfl ⟨rfl, rfl⟩))
theorem m_taken (d : Nat) {S : xS} {n : Nat} (hX : XC S) (hn : S.2.1 187 2 = nI n) : xcall false d j_X12_taken [.ref 187] S none (xSI (xSI (xSI S 187 3 (nI n)) 187 2 (nI 0)) 187 4 (nI 0)) := by
  refine xcall_intro (ls := [.ref 187]) q_X12_taken (by decide) rfl (Nat.le_of_ble_eq_true rfl) rfl ?_
  exact wp_aload_n dX12_taken_0 rfl rfl (wp_aload_n dX12_taken_1 rfl rfl (gv11_7 dX12_taken_2 (xsh hX sh_187) hn (p11_18 dX12_taken_5 (xsh hX sh_187) (wp_aload_n dX12_taken_8 rfl rfl (wp_iconst (v := nI 0) dX12_taken_9 rfl (p11_7 dX12_taken_10 (xsh hX sh_187) (wp_aload_n dX12_taken_13 rfl rfl (wp_iconst (v := nI 0) dX12_taken_14 rfl (p11_21 dX12_taken_15 (xsh hX sh_187) (wp_return dX12_taken_18 rfl ⟨rfl, rfl⟩))))))))))
theorem m_once_two (d : Nat) {S : xS} {n p : Nat} {t : Nat → Nat} (hX : XC S) (hT : xTxM S n t) (hM : xTM S n t p) {seen r : Nat} (hs : S.2.1 187 20 = nI seen) (hs2 : seen < 2 ^ 31) (hr9 : r < 9) (hb : seen.testBit r = true) : xcall false (d + 2) j_X12_once [.ref 187, .int (nI r)] S (some (.int (xB false))) (xSI (xSI S 187 9 (nI 4)) 187 10 (nI (xts t n p))) := by
  obtain ⟨hp, h6, h4, h5, hr⟩ := hM
  have b4 := xtk_b t n p
  have hle := hT.2.1
  refine xcall_intro (ls := [.ref 187, .int (nI r)]) q_X12_once (by decide) rfl (Nat.le_of_ble_eq_true rfl) rfl ?_
  refine wp_aload_n dX12_once_0 rfl rfl (gv11_72 dX12_once_1 (xsh hX sh_187) hs (wp_iload_n dX12_once_4 rfl (wp_ishr dX12_once_5 (wp_iconst (v := nI 1) dX12_once_6 rfl (wv_iand dX12_once_7 (xbit seen r hs2 (by omega)) (wp_iconst (v := nI 1) dX12_once_8 rfl ?_))))))
  refine wp_icmp_ne dX12_once_9 rfl (fun c9 => absurd c9 (by rw [hb]; decide)) (fun c9 => ?_)
  exact wp_aload_n dX12_once_12 rfl rfl (wp_iconst (v := nI 4) dX12_once_13 rfl (wp_aload_n dX12_once_14 rfl rfl (gv11_28 dX12_once_15 (xsh hX sh_187) h6 (wp_iv3 dX12_once_18 k11_57 q_X12_wrong (by decide) (xsh hX sh_187) (by decide) (Nat.le_of_ble_eq_true rfl) (m_wrong 4 _ (d + 1) hX) (wb_ret dX12_once_21 rfl rfl ⟨rfl, rfl⟩)))))
theorem m_once (d : Nat) {S : xS} {n p : Nat} {t : Nat → Nat} (hX : XC S) (hT : xTxM S n t) (hM : xTM S n t p) {seen r : Nat} (hs : S.2.1 187 20 = nI seen) (hs2 : seen < 2 ^ 31) (hr9 : r < 9) (hb : seen.testBit r = false) : ∃ S', xcall false (d + 2) j_X12_once [.ref 187, .int (nI r)] S (some (.int (xB true))) S' ∧ xFl (fun a k => a = 187 ∧ (k = 4 ∨ k = 5 ∨ k = 6 ∨ k = 7 ∨ k = 8 ∨ k = 20)) S S' ∧ xTM S' n t (xta t n p) ∧ S'.2.1 187 20 = nI (seen ||| 2 ^ r) := by
  obtain ⟨hp, h6, h4, h5, hr⟩ := hM
  have b4 := xtk_b t n p
  have hle := hT.2.1
  have F0 : xFl (fun a k => a = 187 ∧ (k = 4 ∨ k = 5 ∨ k = 6 ∨ k = 7 ∨ k = 8 ∨ k = 20)) S (xSI S 187 20 (nI (seen ||| 2 ^ r))) := (xFl.rf S).SI (a := 187) (k := 20) (by omega)
  have hr30 : 1 * 2 ^ r < 2 ^ 32 := by have : 2 ^ r ≤ 2 ^ 8 := Nat.pow_le_pow_right (by decide) (by omega); omega
  have esh : nI 1 <<< (nI r &&& 31) = nI (2 ^ r) := by rw [xshl (by omega) hr30, Nat.one_mul]
  obtain ⟨S1, g1, f1, t1⟩ := m_next d (S := xSI S 187 20 (nI (seen ||| 2 ^ r))) hX (hT.fr F0 (by omega) (fun k => by omega)) (xi h4 (Or.inr (by decide))) (xta_b t hp).2.1
  refine ⟨S1, ?_, F0.tt (f1.mono (fun a k h => by omega)), t1, f1.i (xI_same _ _ _ _) (by omega)⟩
  refine xcall_intro (ls := [.ref 187, .int (nI r)]) q_X12_once (by decide) rfl (Nat.le_of_ble_eq_true rfl) rfl ?_
  refine wp_aload_n dX12_once_0 rfl rfl (gv11_72 dX12_once_1 (xsh hX sh_187) hs (wp_iload_n dX12_once_4 rfl (wp_ishr dX12_once_5 (wp_iconst (v := nI 1) dX12_once_6 rfl (wv_iand dX12_once_7 (xbit seen r hs2 (by omega)) (wp_iconst (v := nI 1) dX12_once_8 rfl ?_))))))
  refine wp_icmp_ne dX12_once_9 rfl (fun c9 => ?_) (fun c9 => absurd c9 (by rw [hb]; decide))
  exact wp_aload_n dX12_once_22 rfl rfl (wp_aload_n dX12_once_23 rfl rfl (gv11_72 dX12_once_24 (xsh hX sh_187) hs (wp_iconst (v := nI 1) dX12_once_27 rfl (wp_iload_n dX12_once_28 rfl (wv_ishl dX12_once_29 esh (wv_ior dX12_once_30 (fa_or _ _) (p11_72 dX12_once_31 (xsh hX sh_187) (wp_aload_n dX12_once_34 rfl rfl (wp_iv1 dX12_once_35 k11_65 q_X12_next (by decide) (xsh hX sh_187) (by decide) (Nat.le_of_ble_eq_true rfl) g1 (wp_iconst (v := nI 1) dX12_once_38 rfl (wb_ret dX12_once_39 rfl rfl ⟨rfl, rfl⟩)))))))))))
