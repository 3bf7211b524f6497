/-! without allocation the shape stays, and no row of longs is written -/
def xsmm (S S' : xS) : Prop := S'.1 = S.1 ∧ ∀ a n, S.1[a]? = some (24, n) → S'.2.2.2 a = S.2.2.2 a
theorem xsmm_rf (S : xS) : xsmm S S := ⟨rfl, fun _ _ _ => rfl⟩
theorem xsmm_tr {S S1 S2 : xS} (h1 : xsmm S S1) (h2 : xsmm S1 S2) : xsmm S S2 := ⟨h2.1.trans h1.1, fun a n h => (h2.2 a n (by rw [h1.1]; exact h)).trans (h1.2 a n h)⟩
theorem xtg24 (f : Nat) : xtg 24 f = 0 := rfl
theorem xsmm_SL {S : xS} {a ci f n : Nat} {x : Int64} (h1 : S.1[a]? = some (ci, n)) (h2 : xtg ci f = 1) : xsmm S (xSL S a f x) := by
  refine ⟨rfl, fun b m h => ?_⟩
  have hb : b ≠ a := fun e => by
    subst e
    cases Option.some.inj (h.symm.trans h1)
    rw [xtg24] at h2
    cases h2
  exact xu2_ne _ _ _ hb
section XSAME
variable {o : Nat} {ret : Option FieldType} {ini : Bool} {pc : Nat} {ls st : List Value} {S : xS} {rS : Option Value × xS}
variable {go : Nat → List Value → List Value → xS → xO} {call : Nat → List Value → xS → xO}
set_option maxHeartbeats 4000000 in
theorem xstep_same {i : Instr} {len : Nat} (hgo : ∀ pc ls st S, go pc ls st S = some rS → xsmm S rS.2) (hcall : ∀ j as S v S1, call j as S = some (v, S1) → xsmm S S1) (h : xstep false o ret ini go call i len pc ls st S = some rS) : xsmm S rS.2 := by
  unfold xstep at h
  split at h
  all_goals first
    | (have h9 := hgo _ _ _ _ h; exact h9)
    | (cases h; done)
    | (have h0 := xI1_some h; clear h; obtain ⟨_, _, rfl, h⟩ := h0; first
        | (have h9 := hgo _ _ _ _ h; exact h9)
        | (have h0 := xst1_some h; clear h; obtain ⟨_, _, h⟩ := h0; (have h9 := hgo _ _ _ _ h; exact h9))
        | (have h0 := xL1_some h; clear h; obtain ⟨_, _, rfl, h⟩ := h0; (have h9 := hgo _ _ _ _ h; exact h9))
        | (have h0 := xif_some h; clear h; obtain ⟨hq, h⟩ := h0; (first | exact absurd hq Bool.false_ne_true | exact absurd hq.1 Bool.false_ne_true))
        | (have h0 := xjmp_some h; clear h; obtain ⟨_, _, h⟩ := h0; split at h <;> (have h9 := hgo _ _ _ _ h; exact h9))
        | (have h0 := xif_some h; clear h; obtain ⟨_, h⟩ := h0; have h0 := xjmp_some h; clear h; obtain ⟨_, _, h⟩ := h0; (have h9 := hgo _ _ _ _ h; exact h9))
        | (split at h
           · have h0 := xjmp_some h; clear h; obtain ⟨_, _, h⟩ := h0; (have h9 := hgo _ _ _ _ h; exact h9)
           · split at h
             · have h0 := xjmp_some h; clear h; obtain ⟨_, _, h⟩ := h0; (have h9 := hgo _ _ _ _ h; exact h9)
             · cases h)
        | (split at h
           · have h0 := xif_some h; clear h; obtain ⟨hq, h⟩ := h0; (first | exact absurd hq Bool.false_ne_true | exact absurd hq.1 Bool.false_ne_true)
           · cases h)
        | (have h0 := xI1_some h; clear h; obtain ⟨_, _, rfl, h⟩ := h0
           split at h
           · have h0 := xif_some h; clear h; obtain ⟨hq, h⟩ := h0; (first | exact absurd hq Bool.false_ne_true | exact absurd hq.1 Bool.false_ne_true)
           · cases h))
    | (have h0 := xI2_some h; clear h; obtain ⟨_, _, _, rfl, h⟩ := h0; first
        | (have h9 := hgo _ _ _ _ h; exact h9)
        | (have h0 := xifn_some h; clear h; obtain ⟨_, h⟩ := h0; (have h9 := hgo _ _ _ _ h; exact h9))
        | (have h0 := xjmp_some h; clear h; obtain ⟨_, _, h⟩ := h0; split at h <;> (have h9 := hgo _ _ _ _ h; exact h9)))
    | (have h0 := xL2_some h; clear h; obtain ⟨_, _, _, rfl, h⟩ := h0; first
        | (have h9 := hgo _ _ _ _ h; exact h9)
        | (have h0 := xifn_some h; clear h; obtain ⟨_, h⟩ := h0; (have h9 := hgo _ _ _ _ h; exact h9)))
    | (have h0 := xL1_some h; clear h; obtain ⟨_, _, rfl, h⟩ := h0; have h0 := xst2_some h; clear h; obtain ⟨_, _, h⟩ := h0; (have h9 := hgo _ _ _ _ h; exact h9))
    | (have h0 := xld_some h; clear h; obtain ⟨_, _, h⟩ := h0; first
        | (have h0 := xif_some h; clear h; obtain ⟨_, h⟩ := h0; (have h9 := hgo _ _ _ _ h; exact h9))
        | (have h0 := xI1_some h; clear h; obtain ⟨_, _, _, h⟩ := h0; first
            | (have h9 := hgo _ _ _ _ h; exact h9)
            | (have h0 := xst1_some h; clear h; obtain ⟨_, _, h⟩ := h0; (have h9 := hgo _ _ _ _ h; exact h9)))
        | (have h0 := xL1_some h; clear h; obtain ⟨_, _, _, h⟩ := h0; (have h9 := hgo _ _ _ _ h; exact h9)))
    | (have h0 := xR1_some h; clear h; obtain ⟨_, _, rfl, h⟩ := h0; first
        | (split at h
           · have h0 := xif_some h; clear h; obtain ⟨_, h⟩ := h0; (have h9 := hgo _ _ _ _ h; exact h9)
           · cases h))
    | (have h0 := xald_some h; clear h; obtain ⟨_, _, _, _, _, rfl, _, _, h⟩ := h0; have h0 := xif_some h; clear h; obtain ⟨_, h⟩ := h0; (have h9 := hgo _ _ _ _ h; exact h9))
    | (have h0 := xast_some h; clear h; obtain ⟨_, _, _, _, _, _, rfl, _, _, h⟩ := h0; first
        | (have h0 := xif_some h; clear h; obtain ⟨_, h⟩ := h0; have h0 := xI1_some h; clear h; obtain ⟨_, _, _, h⟩ := h0; (have h9 := hgo _ _ _ _ h; exact h9))
        | (have h0 := xR1_some h; clear h; obtain ⟨_, _, _, h⟩ := h0; have h0 := xif_some h; clear h; obtain ⟨_, h⟩ := h0; (have h9 := hgo _ _ _ _ h; exact h9))
        | (split at h
           · have h0 := xI1_some h; clear h; obtain ⟨_, _, _, h⟩ := h0; (have h9 := hgo _ _ _ _ h; exact h9)
           · have h0 := xif_some h; clear h; obtain ⟨_, h⟩ := h0; have h0 := xI1_some h; clear h; obtain ⟨_, _, _, h⟩ := h0; (have h9 := hgo _ _ _ _ h; exact h9)))
    | (have h0 := xV1_some h; clear h; obtain ⟨_, _, rfl, h⟩ := h0; first
        | (have h0 := xif_some h; clear h; obtain ⟨_, h⟩ := h0; first
            | (have h9 := hgo _ _ _ _ h; exact h9)
            | (have h0 := xst1_some h; clear h; obtain ⟨_, _, h⟩ := h0; (have h9 := hgo _ _ _ _ h; exact h9)))
        | (have h0 := xjmp_some h; clear h; obtain ⟨_, _, h⟩ := h0; split at h <;> first | (have h9 := hgo _ _ _ _ h; exact h9) | cases h)
        | (have h0 := xV1_some h; clear h; obtain ⟨_, _, rfl, h⟩ := h0; have h0 := xif_some h; clear h; obtain ⟨_, h⟩ := h0; (have h9 := hgo _ _ _ _ h; exact h9))
        | (have h0 := xR1_some h; clear h; obtain ⟨_, _, rfl, h⟩ := h0
           split at h
           · have h0 := xif_some h; clear h; obtain ⟨hq1, h⟩ := h0
             split at h <;> first | (have h0 := xif_some h; clear h; obtain ⟨hq2, h⟩ := h0; first | (have h9 := hgo _ _ _ _ h; exact h9) | exact xsmm_tr (xsmm_SL hq1.1 hq2) (hgo _ _ _ _ h)) | cases h
           · cases h))
    | (have h0 := xjmp_some h; clear h; obtain ⟨_, _, h⟩ := h0; (have h9 := hgo _ _ _ _ h; exact h9))
    | (unfold xretI at h; split at h <;> first | (have h0 := xif_some h; clear h; obtain ⟨_, h⟩ := h0; cases h; exact xsmm_rf _) | cases h)
    | (unfold xretL at h; split at h <;> first | (cases h; exact xsmm_rf _) | cases h)
    | (unfold xretA at h; split at h <;> first | (have h0 := xif_some h; clear h; obtain ⟨_, h⟩ := h0; cases h; exact xsmm_rf _) | cases h)
    | (unfold xretV at h; split at h <;> first | (cases h; exact xsmm_rf _) | cases h)
    | (split at h <;> first | (have h9 := hgo _ _ _ _ h; exact h9) | (cases h; done) | (have h0 := xif_some h; clear h; obtain ⟨hq, h⟩ := h0; (first | exact absurd hq Bool.false_ne_true | exact absurd hq.1 Bool.false_ne_true)))
    | (split at h
       all_goals first
         | (cases h; done)
         | (have h0 := xR1_some h; clear h; obtain ⟨_, _, rfl, h⟩ := h0; have h0 := xif_some h; clear h; obtain ⟨_, h⟩ := h0; (have h9 := hgo _ _ _ _ h; exact h9))
         | (have h0 := xI2_some h; clear h; obtain ⟨_, _, _, rfl, h⟩ := h0; have h0 := xif_some h; clear h; obtain ⟨_, h⟩ := h0; (have h9 := hgo _ _ _ _ h; exact h9))
         | (have h0 := xL2_some h; clear h; obtain ⟨_, _, _, rfl, h⟩ := h0; have h0 := xif_some h; clear h; obtain ⟨_, h⟩ := h0; (have h9 := hgo _ _ _ _ h; exact h9))
         | (split at h <;> first | (have h0 := xif_some h; clear h; obtain ⟨_, h⟩ := h0; (have h9 := hgo _ _ _ _ h; exact h9)) | (cases h; done))
         | (split at h <;> first | (have h9 := hgo _ _ _ _ h; exact h9) | (have h0 := xifn_some h; clear h; obtain ⟨_, h⟩ := h0; (have h9 := hgo _ _ _ _ h; exact h9)) | (cases h; done))
         | (have h0 := xif_some h; clear h; obtain ⟨_, h⟩ := h0
            have h0 := xpop_some h; clear h; obtain ⟨_, _, _, _, h⟩ := h0
            first
              | (have h0 := xif_some h; clear h; obtain ⟨_, h⟩ := h0
                 split at h
                 · rename_i hc; exact xsmm_tr (hcall _ _ _ _ _ hc) (hgo _ _ _ _ h)
                 · cases h)
              | (have h0 := xthis_some h; clear h; obtain ⟨_, _, _, _, _, _, h⟩ := h0
                 have h0 := xif_some h; clear h; obtain ⟨_, h⟩ := h0
                 split at h
                 · rename_i hc; exact xsmm_tr (hcall _ _ _ _ _ hc) (hgo _ _ _ _ h)
                 · cases h))
         | (have h0 := xpop_some h; clear h; obtain ⟨_, _, _, _, h⟩ := h0
            have h0 := xthis_some h; clear h; obtain ⟨_, _, _, _, _, _, h⟩ := h0
            have h0 := xif_some h; clear h; obtain ⟨_, h⟩ := h0
            split at h
            · rename_i hc; exact xsmm_tr (hcall _ _ _ _ _ hc) (hgo _ _ _ _ h)
            · cases h))
end XSAME
theorem xrun_same : ∀ (n d o : Nat) (cc : ByteArray) (ret : Option FieldType) (ini : Bool) (pc : Nat) (ls st : List Value) (S : xS) (rS : Option Value × xS), xrun false n d o cc ret ini pc ls st S = some rS → xsmm S rS.2 := by
  intro n
  induction n with
  | zero =>
    intro d o cc ret ini pc ls st S rS h
    cases h
  | succ n ih =>
    intro d o cc ret ini pc ls st S rS h
    unfold xrun at h
    split at h
    · rename_i i len hd
      obtain ⟨hl, h⟩ := xif_some h
      refine xstep_same (call := xcf false d n) (fun pc ls st S h => ih _ _ _ _ _ _ _ _ _ _ h) (fun j as S v S1 h => ?_) h
      unfold xcf at h
      cases d with
      | zero => cases h
      | succ d => exact ih _ _ _ _ _ _ _ _ _ _ (xif_some h).2
    · cases h
theorem xcall_same {d j : Nat} {as : List Value} {S S' : xS} {r : Option Value} (h : xcall false d j as S r S') : xsmm S S' := by
  obtain ⟨-, -, -, N, c4⟩ := h
  exact xrun_same _ _ _ _ _ _ _ _ _ _ _ (c4 N (Nat.le_refl N))
