section WPN
variable {al : Bool} {d o : Nat} {cc : ByteArray} {ret : Option FieldType} {ini : Bool} {pc : Nat} {ls st : List Value} {S : xS} {Q : Option Value → xS → Prop}
/-! rows over numbers: places and values as nI k -/
theorem wn_iaload {a t n k : Nat} {v : Int32} (hd : decode cc pc = .ok (.iaload, 1)) (ha : S.1[a]? = some (t, n)) (ht : t = 20) (hk : k < n) (hn : n < 2147483648) (hv : S.2.1 a k = v) (kk : Wp al d o cc ret ini (pc + 1) ls (.int v :: st) S Q) : Wp al d o cc ret ini pc ls (.int (nI k) :: .ref a :: st) S Q := by
  refine wp_iaload hd ha (vp_in_nI hk hn) ht ?_
  rw [nI_clamp (by omega), hv]; exact kk
theorem wn_caload {a t n k : Nat} {v : Int32} (hd : decode cc pc = .ok (.caload, 1)) (ha : S.1[a]? = some (t, n)) (ht : t = 21) (hk : k < n) (hn : n < 2147483648) (hv : S.2.1 a k = v) (kk : Wp al d o cc ret ini (pc + 1) ls (.int v :: st) S Q) : Wp al d o cc ret ini pc ls (.int (nI k) :: .ref a :: st) S Q := by
  refine wp_caload hd ha (vp_in_nI hk hn) ht ?_
  rw [nI_clamp (by omega), hv]; exact kk
theorem wn_baload {a t n k : Nat} {v : Int32} (hd : decode cc pc = .ok (.baload, 1)) (ha : S.1[a]? = some (t, n)) (ht : t = 22 ∨ t = 23) (hk : k < n) (hn : n < 2147483648) (hv : S.2.1 a k = v) (kk : Wp al d o cc ret ini (pc + 1) ls (.int v :: st) S Q) : Wp al d o cc ret ini pc ls (.int (nI k) :: .ref a :: st) S Q := by
  refine wp_baload hd ha (vp_in_nI hk hn) ht ?_
  rw [nI_clamp (by omega), hv]; exact kk
theorem wn_aaload {a t n k b : Nat} (hd : decode cc pc = .ok (.aaload, 1)) (ha : S.1[a]? = some (t, n)) (ht : t = 25 ∨ t = 26 ∨ t = 27) (hk : k < n) (hn : n < 2147483648) (hv : S.2.2.1 a k = some b) (kk : Wp al d o cc ret ini (pc + 1) ls (.ref b :: st) S Q) : Wp al d o cc ret ini pc ls (.int (nI k) :: .ref a :: st) S Q :=
  wp_aaloadA hd ha (vp_in_nI hk hn) ht (by rw [nI_clamp (by omega)]; exact hv) kk
theorem wn_iastore {a t n k : Nat} {x : Int32} (hd : decode cc pc = .ok (.iastore, 1)) (ha : S.1[a]? = some (t, n)) (ht : t = 20) (hk : k < n) (hn : n < 2147483648) (kk : Wp al d o cc ret ini (pc + 1) ls st (xSI S a k x) Q) : Wp al d o cc ret ini pc ls (.int x :: .int (nI k) :: .ref a :: st) S Q := by
  refine wp_iastore hd ha (vp_in_nI hk hn) ht ?_
  rw [nI_clamp (by omega)]; exact kk
theorem wn_castore {a t n k : Nat} {x v : Int32} (hd : decode cc pc = .ok (.castore, 1)) (ha : S.1[a]? = some (t, n)) (ht : t = 21) (hk : k < n) (hn : n < 2147483648) (hv : vp_nar .char x = v) (kk : Wp al d o cc ret ini (pc + 1) ls st (xSI S a k v) Q) : Wp al d o cc ret ini pc ls (.int x :: .int (nI k) :: .ref a :: st) S Q := by
  refine wp_castore hd ha (vp_in_nI hk hn) ht ?_
  rw [nI_clamp (by omega), hv]; exact kk
theorem wn_bastore {a t n k : Nat} {x v : Int32} (hd : decode cc pc = .ok (.bastore, 1)) (ha : S.1[a]? = some (t, n)) (ht : t = 22) (hk : k < n) (hn : n < 2147483648) (hv : vp_nar .byte x = v) (kk : Wp al d o cc ret ini (pc + 1) ls st (xSI S a k v) Q) : Wp al d o cc ret ini pc ls (.int x :: .int (nI k) :: .ref a :: st) S Q := by
  refine wp_bastore hd ha (vp_in_nI hk hn) ht ?_
  rw [nI_clamp (by omega), hv]; exact kk
theorem wn_zastore {a t n k : Nat} {x v : Int32} (hd : decode cc pc = .ok (.bastore, 1)) (ha : S.1[a]? = some (t, n)) (ht : t = 23) (hk : k < n) (hn : n < 2147483648) (hv : vp_nar .boolean x = v) (kk : Wp al d o cc ret ini (pc + 1) ls st (xSI S a k v) Q) : Wp al d o cc ret ini pc ls (.int x :: .int (nI k) :: .ref a :: st) S Q := by
  refine wp_zastore hd ha (vp_in_nI hk hn) ht ?_
  rw [nI_clamp (by omega), hv]; exact kk
theorem wv_iadd {x y v : Int32} (hd : decode cc pc = .ok (.iadd, 1)) (hv : x + y = v) (k : Wp al d o cc ret ini (pc + 1) ls (.int v :: st) S Q) : Wp al d o cc ret ini pc ls (.int y :: .int x :: st) S Q := by subst hv; exact wp_iadd hd k
theorem wv_isub {x y v : Int32} (hd : decode cc pc = .ok (.isub, 1)) (hv : x - y = v) (k : Wp al d o cc ret ini (pc + 1) ls (.int v :: st) S Q) : Wp al d o cc ret ini pc ls (.int y :: .int x :: st) S Q := by subst hv; exact wp_isub hd k
theorem wv_imul {x y v : Int32} (hd : decode cc pc = .ok (.imul, 1)) (hv : x * y = v) (k : Wp al d o cc ret ini (pc + 1) ls (.int v :: st) S Q) : Wp al d o cc ret ini pc ls (.int y :: .int x :: st) S Q := by subst hv; exact wp_imul hd k
theorem wv_iand {x y v : Int32} (hd : decode cc pc = .ok (.iand, 1)) (hv : x &&& y = v) (k : Wp al d o cc ret ini (pc + 1) ls (.int v :: st) S Q) : Wp al d o cc ret ini pc ls (.int y :: .int x :: st) S Q := by subst hv; exact wp_iand hd k
theorem wv_ior {x y v : Int32} (hd : decode cc pc = .ok (.ior, 1)) (hv : x ||| y = v) (k : Wp al d o cc ret ini (pc + 1) ls (.int v :: st) S Q) : Wp al d o cc ret ini pc ls (.int y :: .int x :: st) S Q := by subst hv; exact wp_ior hd k
theorem wv_ishl {x y v : Int32} (hd : decode cc pc = .ok (.ishl, 1)) (hv : x <<< (y &&& 31) = v) (k : Wp al d o cc ret ini (pc + 1) ls (.int v :: st) S Q) : Wp al d o cc ret ini pc ls (.int y :: .int x :: st) S Q := by subst hv; exact wp_ishl hd k
theorem wv_ishr {x y v : Int32} (hd : decode cc pc = .ok (.ishr, 1)) (hv : x >>> (y &&& 31) = v) (k : Wp al d o cc ret ini (pc + 1) ls (.int v :: st) S Q) : Wp al d o cc ret ini pc ls (.int y :: .int x :: st) S Q := by subst hv; exact wp_ishr hd k
theorem wv_i2c {x v : Int32} (hd : decode cc pc = .ok (.i2c, 1)) (hv : (x.toUInt32 % 65536).toInt32 = v) (k : Wp al d o cc ret ini (pc + 1) ls (.int v :: st) S Q) : Wp al d o cc ret ini pc ls (.int x :: st) S Q := by subst hv; exact wp_i2c hd k
theorem wv_i2b {x v : Int32} (hd : decode cc pc = .ok (.i2b, 1)) (hv : x.toInt8.toInt32 = v) (k : Wp al d o cc ret ini (pc + 1) ls (.int v :: st) S Q) : Wp al d o cc ret ini pc ls (.int x :: st) S Q := by subst hv; exact wp_i2b hd k
theorem wv_idiv {x y v : Int32} (hd : decode cc pc = .ok (.idiv, 1)) (hy : ¬ y = 0) (hv : x / y = v) (k : Wp al d o cc ret ini (pc + 1) ls (.int v :: st) S Q) : Wp al d o cc ret ini pc ls (.int y :: .int x :: st) S Q := by subst hv; exact wp_idiv hd hy k
theorem wv_irem {x y v : Int32} (hd : decode cc pc = .ok (.irem, 1)) (hy : ¬ y = 0) (hv : x - x / y * y = v) (k : Wp al d o cc ret ini (pc + 1) ls (.int v :: st) S Q) : Wp al d o cc ret ini pc ls (.int y :: .int x :: st) S Q := by subst hv; exact wp_irem hd hy k
/-- a value known by another name -/
theorem wp_top {v w : Value} (h : v = w) (k : Wp al d o cc ret ini pc ls (w :: st) S Q) : Wp al d o cc ret ini pc ls (v :: st) S Q := by rw [h]; exact k
theorem wp_locals {ls' : List Value} (h : ls = ls') (k : Wp al d o cc ret ini pc ls' st S Q) : Wp al d o cc ret ini pc ls st S Q := by rw [h]; exact k
/-- pure helpers -/
theorem xc_lit (n : Nat) : (OfNat.ofNat n : Int32) = nI n := rfl
/-- byte number s of an int (its bits from s on) -/
def xb (x : Int32) (s : Nat) : Nat := (x >>> (nI s &&& 31)).toBitVec.toNat % 256
theorem xb_lt (x : Int32) (s : Nat) : xb x s < 256 := Nat.mod_lt _ (by decide)
theorem xb_and (x : Int32) (s : Nat) : (x >>> (nI s &&& 31)) &&& 255 = nI (xb x s) := pk_and _ 8 (by decide)
/-- a byte as the reference keeps it -/
def xby (c : Nat) : Int32 := (nI c).toInt8.toInt32
theorem xi2c {c : Nat} (h : c < 65536) : ((nI c).toUInt32 % 65536).toInt32 = nI c := by
  rw [pk_char, pk_tn (by omega), Nat.mod_eq_of_lt h]
theorem xnc {c : Nat} (h : c < 65536) : vp_nar .char (nI c) = nI c := by
  have := (pk_charN h).1
  unfold vp_nar
  rw [this]
theorem xb_i2b (x : Int32) (s : Nat) : (x >>> (nI s &&& 31)).toInt8.toInt32 = xby (xb x s) := by
  unfold xby
  rw [← xb_and, fa_byte_low]
theorem xnb (c : Nat) : vp_nar .byte (xby c) = xby c := pk_vb _
end WPN
