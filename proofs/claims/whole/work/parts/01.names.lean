-- ===== PART A: goes FIRST, ahead of the names: the tables' words, and 'selects' of the private methods out of them =====
/-- a private method of a class that the tables say can be made, by its rows of tables_1 -/
def lw_okq (q : MethodName × Nat) : Prop := (q.1.cls ≠ "java/lang/invoke/MethodHandle" ∧ q.1.cls ≠ "java/lang/invoke/VarHandle") ∧ Cond.instantiable q.1.cls q.2 ∈ tables_1 ∧ Cond.privateMethod q.1 ∈ tables_1 ∧ Cond.instanceMethod q.1 ∈ tables_1
theorem lw_p0 : lw_okq (⟨"RhymeRing$Yard", "setUsual", "()V"⟩, 3) := ⟨⟨by decide +kernel, by decide +kernel⟩, List.mem_of_getElem? (i := 113) (by decide +kernel), List.mem_of_getElem? (i := 119) (by decide +kernel), List.mem_of_getElem? (i := 120) (by decide +kernel)⟩
theorem lw_p1 : lw_okq (⟨"RhymeRing$Tape", "put", "(I)V"⟩, 2) := ⟨⟨by decide +kernel, by decide +kernel⟩, List.mem_of_getElem? (i := 34) (by decide +kernel), List.mem_of_getElem? (i := 440) (by decide +kernel), List.mem_of_getElem? (i := 441) (by decide +kernel)⟩
theorem lw_p2 : lw_okq (⟨"RhymeRing$Tape", "take", "()I"⟩, 2) := ⟨⟨by decide +kernel, by decide +kernel⟩, List.mem_of_getElem? (i := 34) (by decide +kernel), List.mem_of_getElem? (i := 452) (by decide +kernel), List.mem_of_getElem? (i := 453) (by decide +kernel)⟩
theorem lw_p3 : lw_okq (⟨"RhymeRing$Tokens", "open", "([CI)V"⟩, 6) := ⟨⟨by decide +kernel, by decide +kernel⟩, List.mem_of_getElem? (i := 50) (by decide +kernel), List.mem_of_getElem? (i := 456) (by decide +kernel), List.mem_of_getElem? (i := 457) (by decide +kernel)⟩
theorem lw_p4 : lw_okq (⟨"RhymeRing$Tokens", "step", "()V"⟩, 6) := ⟨⟨by decide +kernel, by decide +kernel⟩, List.mem_of_getElem? (i := 50) (by decide +kernel), List.mem_of_getElem? (i := 463) (by decide +kernel), List.mem_of_getElem? (i := 464) (by decide +kernel)⟩
theorem lw_p5 : lw_okq (⟨"RhymeRing$Tokens", "passRule", "(Ljava/lang/String;I)I"⟩, 6) := ⟨⟨by decide +kernel, by decide +kernel⟩, List.mem_of_getElem? (i := 50) (by decide +kernel), List.mem_of_getElem? (i := 492) (by decide +kernel), List.mem_of_getElem? (i := 493) (by decide +kernel)⟩
theorem lw_p6 : lw_okq (⟨"RhymeRing$Tokens", "pick", "(Ljava/lang/String;)I"⟩, 6) := ⟨⟨by decide +kernel, by decide +kernel⟩, List.mem_of_getElem? (i := 50) (by decide +kernel), List.mem_of_getElem? (i := 496) (by decide +kernel), List.mem_of_getElem? (i := 497) (by decide +kernel)⟩
theorem lw_p7 : lw_okq (⟨"RhymeRing$Tokens", "spells", "(Ljava/lang/String;II)Z"⟩, 6) := ⟨⟨by decide +kernel, by decide +kernel⟩, List.mem_of_getElem? (i := 50) (by decide +kernel), List.mem_of_getElem? (i := 548) (by decide +kernel), List.mem_of_getElem? (i := 549) (by decide +kernel)⟩
theorem lw_p8 : lw_okq (⟨"RhymeRing$Tokens", "size", "()I"⟩, 6) := ⟨⟨by decide +kernel, by decide +kernel⟩, List.mem_of_getElem? (i := 50) (by decide +kernel), List.mem_of_getElem? (i := 552) (by decide +kernel), List.mem_of_getElem? (i := 553) (by decide +kernel)⟩
theorem lw_p9 : lw_okq (⟨"RhymeRing$Tokens", "refuseHere", "()Z"⟩, 6) := ⟨⟨by decide +kernel, by decide +kernel⟩, List.mem_of_getElem? (i := 50) (by decide +kernel), List.mem_of_getElem? (i := 556) (by decide +kernel), List.mem_of_getElem? (i := 557) (by decide +kernel)⟩
theorem lw_p10 : lw_okq (⟨"RhymeRing$Tokens", "refuse", "(I)Z"⟩, 6) := ⟨⟨by decide +kernel, by decide +kernel⟩, List.mem_of_getElem? (i := 50) (by decide +kernel), List.mem_of_getElem? (i := 560) (by decide +kernel), List.mem_of_getElem? (i := 561) (by decide +kernel)⟩
theorem lw_p11 : lw_okq (⟨"RhymeRing$Tongue", "readVowels", "(LRhymeRing$Tokens;)Z"⟩, 6) := ⟨⟨by decide +kernel, by decide +kernel⟩, List.mem_of_getElem? (i := 83) (by decide +kernel), List.mem_of_getElem? (i := 570) (by decide +kernel), List.mem_of_getElem? (i := 571) (by decide +kernel)⟩
theorem lw_p12 : lw_okq (⟨"RhymeRing$Tongue", "readStrong", "(LRhymeRing$Tokens;)Z"⟩, 6) := ⟨⟨by decide +kernel, by decide +kernel⟩, List.mem_of_getElem? (i := 83) (by decide +kernel), List.mem_of_getElem? (i := 584) (by decide +kernel), List.mem_of_getElem? (i := 585) (by decide +kernel)⟩
theorem lw_p13 : lw_okq (⟨"RhymeRing$Yard", "readLeft", "(LRhymeRing$Tokens;)Z"⟩, 3) := ⟨⟨by decide +kernel, by decide +kernel⟩, List.mem_of_getElem? (i := 113) (by decide +kernel), List.mem_of_getElem? (i := 593) (by decide +kernel), List.mem_of_getElem? (i := 594) (by decide +kernel)⟩
theorem lw_p14 : lw_okq (⟨"RhymeRing$Tokens", "digit", "()I"⟩, 6) := ⟨⟨by decide +kernel, by decide +kernel⟩, List.mem_of_getElem? (i := 50) (by decide +kernel), List.mem_of_getElem? (i := 598) (by decide +kernel), List.mem_of_getElem? (i := 599) (by decide +kernel)⟩
theorem lw_p15 : lw_okq (⟨"RhymeRing$Yard", "readRhymes", "(LRhymeRing$Tokens;)Z"⟩, 3) := ⟨⟨by decide +kernel, by decide +kernel⟩, List.mem_of_getElem? (i := 113) (by decide +kernel), List.mem_of_getElem? (i := 604) (by decide +kernel), List.mem_of_getElem? (i := 605) (by decide +kernel)⟩
def lw_privs_1 : List (MethodName × Nat) := [(⟨"RhymeRing$Yard", "setUsual", "()V"⟩, 3), (⟨"RhymeRing$Tape", "put", "(I)V"⟩, 2), (⟨"RhymeRing$Tape", "take", "()I"⟩, 2), (⟨"RhymeRing$Tokens", "open", "([CI)V"⟩, 6), (⟨"RhymeRing$Tokens", "step", "()V"⟩, 6), (⟨"RhymeRing$Tokens", "passRule", "(Ljava/lang/String;I)I"⟩, 6), (⟨"RhymeRing$Tokens", "pick", "(Ljava/lang/String;)I"⟩, 6), (⟨"RhymeRing$Tokens", "spells", "(Ljava/lang/String;II)Z"⟩, 6), (⟨"RhymeRing$Tokens", "size", "()I"⟩, 6), (⟨"RhymeRing$Tokens", "refuseHere", "()Z"⟩, 6), (⟨"RhymeRing$Tokens", "refuse", "(I)Z"⟩, 6), (⟨"RhymeRing$Tongue", "readVowels", "(LRhymeRing$Tokens;)Z"⟩, 6), (⟨"RhymeRing$Tongue", "readStrong", "(LRhymeRing$Tokens;)Z"⟩, 6), (⟨"RhymeRing$Yard", "readLeft", "(LRhymeRing$Tokens;)Z"⟩, 3), (⟨"RhymeRing$Tokens", "digit", "()I"⟩, 6), (⟨"RhymeRing$Yard", "readRhymes", "(LRhymeRing$Tokens;)Z"⟩, 3)]
theorem lw_r1 : ∀ q ∈ lw_privs_1, lw_okq q := List.forall_mem_cons.mpr ⟨lw_p0, List.forall_mem_cons.mpr ⟨lw_p1, List.forall_mem_cons.mpr ⟨lw_p2, List.forall_mem_cons.mpr ⟨lw_p3, List.forall_mem_cons.mpr ⟨lw_p4, List.forall_mem_cons.mpr ⟨lw_p5, List.forall_mem_cons.mpr ⟨lw_p6, List.forall_mem_cons.mpr ⟨lw_p7, List.forall_mem_cons.mpr ⟨lw_p8, List.forall_mem_cons.mpr ⟨lw_p9, List.forall_mem_cons.mpr ⟨lw_p10, List.forall_mem_cons.mpr ⟨lw_p11, List.forall_mem_cons.mpr ⟨lw_p12, List.forall_mem_cons.mpr ⟨lw_p13, List.forall_mem_cons.mpr ⟨lw_p14, List.forall_mem_cons.mpr ⟨lw_p15, fun _ h => absurd h List.not_mem_nil⟩⟩⟩⟩⟩⟩⟩⟩⟩⟩⟩⟩⟩⟩⟩⟩
theorem lw_p16 : lw_okq (⟨"RhymeRing$Tokens", "passStop", "()Z"⟩, 6) := ⟨⟨by decide +kernel, by decide +kernel⟩, List.mem_of_getElem? (i := 50) (by decide +kernel), List.mem_of_getElem? (i := 621) (by decide +kernel), List.mem_of_getElem? (i := 622) (by decide +kernel)⟩
theorem lw_p17 : lw_okq (⟨"RhymeRing", "measureAll", "()V"⟩, 19) := ⟨⟨by decide +kernel, by decide +kernel⟩, List.mem_of_getElem? (i := 26) (by decide +kernel), List.mem_of_getElem? (i := 625) (by decide +kernel), List.mem_of_getElem? (i := 626) (by decide +kernel)⟩
theorem lw_p18 : lw_okq (⟨"RhymeRing$Words", "measure", "(LRhymeRing$Tongue;)V"⟩, 4) := ⟨⟨by decide +kernel, by decide +kernel⟩, List.mem_of_getElem? (i := 197) (by decide +kernel), List.mem_of_getElem? (i := 629) (by decide +kernel), List.mem_of_getElem? (i := 630) (by decide +kernel)⟩
theorem lw_p19 : lw_okq (⟨"RhymeRing$Words", "lettersOf", "(I)I"⟩, 4) := ⟨⟨by decide +kernel, by decide +kernel⟩, List.mem_of_getElem? (i := 197) (by decide +kernel), List.mem_of_getElem? (i := 633) (by decide +kernel), List.mem_of_getElem? (i := 634) (by decide +kernel)⟩
theorem lw_p20 : lw_okq (⟨"RhymeRing$Tongue", "beatsIn", "([CII)I"⟩, 6) := ⟨⟨by decide +kernel, by decide +kernel⟩, List.mem_of_getElem? (i := 83) (by decide +kernel), List.mem_of_getElem? (i := 637) (by decide +kernel), List.mem_of_getElem? (i := 638) (by decide +kernel)⟩
theorem lw_p21 : lw_okq (⟨"RhymeRing$Tongue", "vowelBeats", "([CII)I"⟩, 6) := ⟨⟨by decide +kernel, by decide +kernel⟩, List.mem_of_getElem? (i := 83) (by decide +kernel), List.mem_of_getElem? (i := 641) (by decide +kernel), List.mem_of_getElem? (i := 642) (by decide +kernel)⟩
theorem lw_p22 : lw_okq (⟨"RhymeRing$Tongue", "mutedLetters", "([CII)I"⟩, 6) := ⟨⟨by decide +kernel, by decide +kernel⟩, List.mem_of_getElem? (i := 83) (by decide +kernel), List.mem_of_getElem? (i := 649) (by decide +kernel), List.mem_of_getElem? (i := 650) (by decide +kernel)⟩
theorem lw_p23 : lw_okq (⟨"RhymeRing", "rhymeIn", "(I)LRhymeRing$Rhyme;"⟩, 19) := ⟨⟨by decide +kernel, by decide +kernel⟩, List.mem_of_getElem? (i := 26) (by decide +kernel), List.mem_of_getElem? (i := 663) (by decide +kernel), List.mem_of_getElem? (i := 664) (by decide +kernel)⟩
theorem lw_p24 : lw_okq (⟨"RhymeRing$Rhyme", "measure", "(LRhymeRing$Tongue;)V"⟩, 15) := ⟨⟨by decide +kernel, by decide +kernel⟩, List.mem_of_getElem? (i := 139) (by decide +kernel), List.mem_of_getElem? (i := 668) (by decide +kernel), List.mem_of_getElem? (i := 669) (by decide +kernel)⟩
theorem lw_p25 : lw_okq (⟨"RhymeRing$Rhyme", "start", "(I)I"⟩, 15) := ⟨⟨by decide +kernel, by decide +kernel⟩, List.mem_of_getElem? (i := 139) (by decide +kernel), List.mem_of_getElem? (i := 672) (by decide +kernel), List.mem_of_getElem? (i := 673) (by decide +kernel)⟩
theorem lw_p26 : lw_okq (⟨"RhymeRing$Rhyme", "size", "(I)I"⟩, 15) := ⟨⟨by decide +kernel, by decide +kernel⟩, List.mem_of_getElem? (i := 139) (by decide +kernel), List.mem_of_getElem? (i := 676) (by decide +kernel), List.mem_of_getElem? (i := 677) (by decide +kernel)⟩
theorem lw_p27 : lw_okq (⟨"RhymeRing$Rhyme", "read", "([CI)I"⟩, 15) := ⟨⟨by decide +kernel, by decide +kernel⟩, List.mem_of_getElem? (i := 139) (by decide +kernel), List.mem_of_getElem? (i := 694) (by decide +kernel), List.mem_of_getElem? (i := 695) (by decide +kernel)⟩
theorem lw_p28 : lw_okq (⟨"RhymeRing$Rhyme", "take", "(CI)I"⟩, 15) := ⟨⟨by decide +kernel, by decide +kernel⟩, List.mem_of_getElem? (i := 139) (by decide +kernel), List.mem_of_getElem? (i := 699) (by decide +kernel), List.mem_of_getElem? (i := 700) (by decide +kernel)⟩
theorem lw_p29 : lw_okq (⟨"RhymeRing$Rhyme", "takeFirst", "(CI)I"⟩, 15) := ⟨⟨by decide +kernel, by decide +kernel⟩, List.mem_of_getElem? (i := 139) (by decide +kernel), List.mem_of_getElem? (i := 703) (by decide +kernel), List.mem_of_getElem? (i := 704) (by decide +kernel)⟩
theorem lw_p30 : lw_okq (⟨"RhymeRing$Rhyme", "beginItem", "(II)V"⟩, 15) := ⟨⟨by decide +kernel, by decide +kernel⟩, List.mem_of_getElem? (i := 139) (by decide +kernel), List.mem_of_getElem? (i := 707) (by decide +kernel), List.mem_of_getElem? (i := 708) (by decide +kernel)⟩
theorem lw_p31 : lw_okq (⟨"RhymeRing$Rhyme", "takeItem", "(CI)I"⟩, 15) := ⟨⟨by decide +kernel, by decide +kernel⟩, List.mem_of_getElem? (i := 139) (by decide +kernel), List.mem_of_getElem? (i := 711) (by decide +kernel), List.mem_of_getElem? (i := 712) (by decide +kernel)⟩
def lw_privs_2 : List (MethodName × Nat) := [(⟨"RhymeRing$Tokens", "passStop", "()Z"⟩, 6), (⟨"RhymeRing", "measureAll", "()V"⟩, 19), (⟨"RhymeRing$Words", "measure", "(LRhymeRing$Tongue;)V"⟩, 4), (⟨"RhymeRing$Words", "lettersOf", "(I)I"⟩, 4), (⟨"RhymeRing$Tongue", "beatsIn", "([CII)I"⟩, 6), (⟨"RhymeRing$Tongue", "vowelBeats", "([CII)I"⟩, 6), (⟨"RhymeRing$Tongue", "mutedLetters", "([CII)I"⟩, 6), (⟨"RhymeRing", "rhymeIn", "(I)LRhymeRing$Rhyme;"⟩, 19), (⟨"RhymeRing$Rhyme", "measure", "(LRhymeRing$Tongue;)V"⟩, 15), (⟨"RhymeRing$Rhyme", "start", "(I)I"⟩, 15), (⟨"RhymeRing$Rhyme", "size", "(I)I"⟩, 15), (⟨"RhymeRing$Rhyme", "read", "([CI)I"⟩, 15), (⟨"RhymeRing$Rhyme", "take", "(CI)I"⟩, 15), (⟨"RhymeRing$Rhyme", "takeFirst", "(CI)I"⟩, 15), (⟨"RhymeRing$Rhyme", "beginItem", "(II)V"⟩, 15), (⟨"RhymeRing$Rhyme", "takeItem", "(CI)I"⟩, 15)]
theorem lw_r2 : ∀ q ∈ lw_privs_2, lw_okq q := List.forall_mem_cons.mpr ⟨lw_p16, List.forall_mem_cons.mpr ⟨lw_p17, List.forall_mem_cons.mpr ⟨lw_p18, List.forall_mem_cons.mpr ⟨lw_p19, List.forall_mem_cons.mpr ⟨lw_p20, List.forall_mem_cons.mpr ⟨lw_p21, List.forall_mem_cons.mpr ⟨lw_p22, List.forall_mem_cons.mpr ⟨lw_p23, List.forall_mem_cons.mpr ⟨lw_p24, List.forall_mem_cons.mpr ⟨lw_p25, List.forall_mem_cons.mpr ⟨lw_p26, List.forall_mem_cons.mpr ⟨lw_p27, List.forall_mem_cons.mpr ⟨lw_p28, List.forall_mem_cons.mpr ⟨lw_p29, List.forall_mem_cons.mpr ⟨lw_p30, List.forall_mem_cons.mpr ⟨lw_p31, fun _ h => absurd h List.not_mem_nil⟩⟩⟩⟩⟩⟩⟩⟩⟩⟩⟩⟩⟩⟩⟩⟩
theorem lw_p32 : lw_okq (⟨"RhymeRing$Rhyme", "takeInWord", "(C)I"⟩, 15) := ⟨⟨by decide +kernel, by decide +kernel⟩, List.mem_of_getElem? (i := 139) (by decide +kernel), List.mem_of_getElem? (i := 719) (by decide +kernel), List.mem_of_getElem? (i := 720) (by decide +kernel)⟩
theorem lw_p33 : lw_okq (⟨"RhymeRing$Rhyme", "spellItem", "()V"⟩, 15) := ⟨⟨by decide +kernel, by decide +kernel⟩, List.mem_of_getElem? (i := 139) (by decide +kernel), List.mem_of_getElem? (i := 723) (by decide +kernel), List.mem_of_getElem? (i := 724) (by decide +kernel)⟩
theorem lw_p34 : lw_okq (⟨"RhymeRing$Rhyme", "takeBehind", "(C)I"⟩, 15) := ⟨⟨by decide +kernel, by decide +kernel⟩, List.mem_of_getElem? (i := 139) (by decide +kernel), List.mem_of_getElem? (i := 727) (by decide +kernel), List.mem_of_getElem? (i := 728) (by decide +kernel)⟩
theorem lw_p35 : lw_okq (⟨"RhymeRing$Rhyme", "endLine", "()V"⟩, 15) := ⟨⟨by decide +kernel, by decide +kernel⟩, List.mem_of_getElem? (i := 139) (by decide +kernel), List.mem_of_getElem? (i := 731) (by decide +kernel), List.mem_of_getElem? (i := 732) (by decide +kernel)⟩
theorem lw_p36 : lw_okq (⟨"RhymeRing$Rhyme", "refuse", "(II)I"⟩, 15) := ⟨⟨by decide +kernel, by decide +kernel⟩, List.mem_of_getElem? (i := 139) (by decide +kernel), List.mem_of_getElem? (i := 735) (by decide +kernel), List.mem_of_getElem? (i := 736) (by decide +kernel)⟩
theorem lw_p37 : lw_okq (⟨"RhymeRing$Words", "read", "([CII)Z"⟩, 4) := ⟨⟨by decide +kernel, by decide +kernel⟩, List.mem_of_getElem? (i := 197) (by decide +kernel), List.mem_of_getElem? (i := 747) (by decide +kernel), List.mem_of_getElem? (i := 748) (by decide +kernel)⟩
theorem lw_p38 : lw_okq (⟨"RhymeRing$Tape", "isWord", "(I)Z"⟩, 2) := ⟨⟨by decide +kernel, by decide +kernel⟩, List.mem_of_getElem? (i := 34) (by decide +kernel), List.mem_of_getElem? (i := 768) (by decide +kernel), List.mem_of_getElem? (i := 769) (by decide +kernel)⟩
theorem lw_p39 : lw_okq (⟨"RhymeRing$Tongue", "strongOf", "(I)I"⟩, 6) := ⟨⟨by decide +kernel, by decide +kernel⟩, List.mem_of_getElem? (i := 83) (by decide +kernel), List.mem_of_getElem? (i := 778) (by decide +kernel), List.mem_of_getElem? (i := 779) (by decide +kernel)⟩
theorem lw_p40 : lw_okq (⟨"RhymeRing$Rhyme", "total", "(Z)I"⟩, 15) := ⟨⟨by decide +kernel, by decide +kernel⟩, List.mem_of_getElem? (i := 139) (by decide +kernel), List.mem_of_getElem? (i := 786) (by decide +kernel), List.mem_of_getElem? (i := 787) (by decide +kernel)⟩
theorem lw_p41 : lw_okq (⟨"RhymeRing$Rhyme", "firstItem", "(I)I"⟩, 15) := ⟨⟨by decide +kernel, by decide +kernel⟩, List.mem_of_getElem? (i := 139) (by decide +kernel), List.mem_of_getElem? (i := 790) (by decide +kernel), List.mem_of_getElem? (i := 791) (by decide +kernel)⟩
theorem lw_p42 : lw_okq (⟨"RhymeRing$Rhyme", "countOf", "(IZ)I"⟩, 15) := ⟨⟨by decide +kernel, by decide +kernel⟩, List.mem_of_getElem? (i := 139) (by decide +kernel), List.mem_of_getElem? (i := 794) (by decide +kernel), List.mem_of_getElem? (i := 795) (by decide +kernel)⟩
theorem lw_p43 : lw_okq (⟨"RhymeRing$Rhyme", "timesOf", "(I)I"⟩, 15) := ⟨⟨by decide +kernel, by decide +kernel⟩, List.mem_of_getElem? (i := 139) (by decide +kernel), List.mem_of_getElem? (i := 798) (by decide +kernel), List.mem_of_getElem? (i := 799) (by decide +kernel)⟩
theorem lw_p44 : lw_okq (⟨"RhymeRing$Rhyme", "kindOf", "(I)I"⟩, 15) := ⟨⟨by decide +kernel, by decide +kernel⟩, List.mem_of_getElem? (i := 139) (by decide +kernel), List.mem_of_getElem? (i := 802) (by decide +kernel), List.mem_of_getElem? (i := 803) (by decide +kernel)⟩
theorem lw_p45 : lw_okq (⟨"RhymeRing$Rhyme", "byteAt", "(I)C"⟩, 15) := ⟨⟨by decide +kernel, by decide +kernel⟩, List.mem_of_getElem? (i := 139) (by decide +kernel), List.mem_of_getElem? (i := 806) (by decide +kernel), List.mem_of_getElem? (i := 807) (by decide +kernel)⟩
theorem lw_p46 : lw_okq (⟨"RhymeRing$Rhyme", "hasLine", "(I)Z"⟩, 15) := ⟨⟨by decide +kernel, by decide +kernel⟩, List.mem_of_getElem? (i := 139) (by decide +kernel), List.mem_of_getElem? (i := 814) (by decide +kernel), List.mem_of_getElem? (i := 815) (by decide +kernel)⟩
theorem lw_p47 : lw_okq (⟨"RhymeRing$Rhyme", "feetInto", "(ILRhymeRing$Tongue;[C)I"⟩, 15) := ⟨⟨by decide +kernel, by decide +kernel⟩, List.mem_of_getElem? (i := 139) (by decide +kernel), List.mem_of_getElem? (i := 818) (by decide +kernel), List.mem_of_getElem? (i := 819) (by decide +kernel)⟩
def lw_privs_3 : List (MethodName × Nat) := [(⟨"RhymeRing$Rhyme", "takeInWord", "(C)I"⟩, 15), (⟨"RhymeRing$Rhyme", "spellItem", "()V"⟩, 15), (⟨"RhymeRing$Rhyme", "takeBehind", "(C)I"⟩, 15), (⟨"RhymeRing$Rhyme", "endLine", "()V"⟩, 15), (⟨"RhymeRing$Rhyme", "refuse", "(II)I"⟩, 15), (⟨"RhymeRing$Words", "read", "([CII)Z"⟩, 4), (⟨"RhymeRing$Tape", "isWord", "(I)Z"⟩, 2), (⟨"RhymeRing$Tongue", "strongOf", "(I)I"⟩, 6), (⟨"RhymeRing$Rhyme", "total", "(Z)I"⟩, 15), (⟨"RhymeRing$Rhyme", "firstItem", "(I)I"⟩, 15), (⟨"RhymeRing$Rhyme", "countOf", "(IZ)I"⟩, 15), (⟨"RhymeRing$Rhyme", "timesOf", "(I)I"⟩, 15), (⟨"RhymeRing$Rhyme", "kindOf", "(I)I"⟩, 15), (⟨"RhymeRing$Rhyme", "byteAt", "(I)C"⟩, 15), (⟨"RhymeRing$Rhyme", "hasLine", "(I)Z"⟩, 15), (⟨"RhymeRing$Rhyme", "feetInto", "(ILRhymeRing$Tongue;[C)I"⟩, 15)]
theorem lw_r3 : ∀ q ∈ lw_privs_3, lw_okq q := List.forall_mem_cons.mpr ⟨lw_p32, List.forall_mem_cons.mpr ⟨lw_p33, List.forall_mem_cons.mpr ⟨lw_p34, List.forall_mem_cons.mpr ⟨lw_p35, List.forall_mem_cons.mpr ⟨lw_p36, List.forall_mem_cons.mpr ⟨lw_p37, List.forall_mem_cons.mpr ⟨lw_p38, List.forall_mem_cons.mpr ⟨lw_p39, List.forall_mem_cons.mpr ⟨lw_p40, List.forall_mem_cons.mpr ⟨lw_p41, List.forall_mem_cons.mpr ⟨lw_p42, List.forall_mem_cons.mpr ⟨lw_p43, List.forall_mem_cons.mpr ⟨lw_p44, List.forall_mem_cons.mpr ⟨lw_p45, List.forall_mem_cons.mpr ⟨lw_p46, List.forall_mem_cons.mpr ⟨lw_p47, fun _ h => absurd h List.not_mem_nil⟩⟩⟩⟩⟩⟩⟩⟩⟩⟩⟩⟩⟩⟩⟩⟩
theorem lw_p48 : lw_okq (⟨"RhymeRing$Changes", "likeLines", "(LRhymeRing$Rhyme;LRhymeRing$Rhyme;LRhymeRing$Tongue;)I"⟩, 7) := ⟨⟨by decide +kernel, by decide +kernel⟩, List.mem_of_getElem? (i := 349) (by decide +kernel), List.mem_of_getElem? (i := 827) (by decide +kernel), List.mem_of_getElem? (i := 828) (by decide +kernel)⟩
theorem lw_p49 : lw_okq (⟨"RhymeRing$Changes", "isLikeLine", "(LRhymeRing$Rhyme;LRhymeRing$Rhyme;ILRhymeRing$Tongue;)Z"⟩, 7) := ⟨⟨by decide +kernel, by decide +kernel⟩, List.mem_of_getElem? (i := 349) (by decide +kernel), List.mem_of_getElem? (i := 832) (by decide +kernel), List.mem_of_getElem? (i := 833) (by decide +kernel)⟩
theorem lw_p50 : lw_okq (⟨"RhymeRing$Tape", "isBelow", "(II)Z"⟩, 2) := ⟨⟨by decide +kernel, by decide +kernel⟩, List.mem_of_getElem? (i := 34) (by decide +kernel), List.mem_of_getElem? (i := 842) (by decide +kernel), List.mem_of_getElem? (i := 843) (by decide +kernel)⟩
theorem lw_p51 : lw_okq (⟨"RhymeRing", "areRhymesThere", "()Z"⟩, 19) := ⟨⟨by decide +kernel, by decide +kernel⟩, List.mem_of_getElem? (i := 26) (by decide +kernel), List.mem_of_getElem? (i := 846) (by decide +kernel), List.mem_of_getElem? (i := 847) (by decide +kernel)⟩
theorem lw_p52 : lw_okq (⟨"RhymeRing$Yard", "rhymeAt", "(I)I"⟩, 3) := ⟨⟨by decide +kernel, by decide +kernel⟩, List.mem_of_getElem? (i := 113) (by decide +kernel), List.mem_of_getElem? (i := 850) (by decide +kernel), List.mem_of_getElem? (i := 851) (by decide +kernel)⟩
theorem lw_p53 : lw_okq (⟨"RhymeRing$Ring", "gather", "(LRhymeRing$Yard;LRhymeRing$Words;LRhymeRing$Words;)V"⟩, 18) := ⟨⟨by decide +kernel, by decide +kernel⟩, List.mem_of_getElem? (i := 224) (by decide +kernel), List.mem_of_getElem? (i := 854) (by decide +kernel), List.mem_of_getElem? (i := 855) (by decide +kernel)⟩
theorem lw_p54 : lw_okq (⟨"RhymeRing$Words", "beatsOf", "(I)I"⟩, 4) := ⟨⟨by decide +kernel, by decide +kernel⟩, List.mem_of_getElem? (i := 197) (by decide +kernel), List.mem_of_getElem? (i := 859) (by decide +kernel), List.mem_of_getElem? (i := 860) (by decide +kernel)⟩
theorem lw_p55 : lw_okq (⟨"RhymeRing$Yard", "hasFists", "()Z"⟩, 3) := ⟨⟨by decide +kernel, by decide +kernel⟩, List.mem_of_getElem? (i := 113) (by decide +kernel), List.mem_of_getElem? (i := 865) (by decide +kernel), List.mem_of_getElem? (i := 866) (by decide +kernel)⟩
theorem lw_p56 : lw_okq (⟨"RhymeRing$Yard", "leftMost", "()I"⟩, 3) := ⟨⟨by decide +kernel, by decide +kernel⟩, List.mem_of_getElem? (i := 113) (by decide +kernel), List.mem_of_getElem? (i := 869) (by decide +kernel), List.mem_of_getElem? (i := 870) (by decide +kernel)⟩
theorem lw_p57 : lw_okq (⟨"RhymeRing$Yard", "nextFrom", "()I"⟩, 3) := ⟨⟨by decide +kernel, by decide +kernel⟩, List.mem_of_getElem? (i := 113) (by decide +kernel), List.mem_of_getElem? (i := 873) (by decide +kernel), List.mem_of_getElem? (i := 874) (by decide +kernel)⟩
theorem lw_p58 : lw_okq (⟨"RhymeRing$Yard", "countsBeats", "()Z"⟩, 3) := ⟨⟨by decide +kernel, by decide +kernel⟩, List.mem_of_getElem? (i := 113) (by decide +kernel), List.mem_of_getElem? (i := 877) (by decide +kernel), List.mem_of_getElem? (i := 878) (by decide +kernel)⟩
theorem lw_p59 : lw_okq (⟨"RhymeRing$Yard", "hitStays", "()Z"⟩, 3) := ⟨⟨by decide +kernel, by decide +kernel⟩, List.mem_of_getElem? (i := 113) (by decide +kernel), List.mem_of_getElem? (i := 881) (by decide +kernel), List.mem_of_getElem? (i := 882) (by decide +kernel)⟩
theorem lw_p60 : lw_okq (⟨"RhymeRing$Yard", "turnsAlways", "()Z"⟩, 3) := ⟨⟨by decide +kernel, by decide +kernel⟩, List.mem_of_getElem? (i := 113) (by decide +kernel), List.mem_of_getElem? (i := 885) (by decide +kernel), List.mem_of_getElem? (i := 886) (by decide +kernel)⟩
theorem lw_p61 : lw_okq (⟨"RhymeRing", "learnRhymes", "()V"⟩, 19) := ⟨⟨by decide +kernel, by decide +kernel⟩, List.mem_of_getElem? (i := 26) (by decide +kernel), List.mem_of_getElem? (i := 889) (by decide +kernel), List.mem_of_getElem? (i := 890) (by decide +kernel)⟩
theorem lw_p62 : lw_okq (⟨"RhymeRing$Ring", "learn", "(ILRhymeRing$Rhyme;)V"⟩, 18) := ⟨⟨by decide +kernel, by decide +kernel⟩, List.mem_of_getElem? (i := 224) (by decide +kernel), List.mem_of_getElem? (i := 893) (by decide +kernel), List.mem_of_getElem? (i := 894) (by decide +kernel)⟩
theorem lw_p63 : lw_okq (⟨"RhymeRing$Ring", "chantOf", "(I)LRhymeRing$Chant;"⟩, 18) := ⟨⟨by decide +kernel, by decide +kernel⟩, List.mem_of_getElem? (i := 224) (by decide +kernel), List.mem_of_getElem? (i := 897) (by decide +kernel), List.mem_of_getElem? (i := 898) (by decide +kernel)⟩
def lw_privs_4 : List (MethodName × Nat) := [(⟨"RhymeRing$Changes", "likeLines", "(LRhymeRing$Rhyme;LRhymeRing$Rhyme;LRhymeRing$Tongue;)I"⟩, 7), (⟨"RhymeRing$Changes", "isLikeLine", "(LRhymeRing$Rhyme;LRhymeRing$Rhyme;ILRhymeRing$Tongue;)Z"⟩, 7), (⟨"RhymeRing$Tape", "isBelow", "(II)Z"⟩, 2), (⟨"RhymeRing", "areRhymesThere", "()Z"⟩, 19), (⟨"RhymeRing$Yard", "rhymeAt", "(I)I"⟩, 3), (⟨"RhymeRing$Ring", "gather", "(LRhymeRing$Yard;LRhymeRing$Words;LRhymeRing$Words;)V"⟩, 18), (⟨"RhymeRing$Words", "beatsOf", "(I)I"⟩, 4), (⟨"RhymeRing$Yard", "hasFists", "()Z"⟩, 3), (⟨"RhymeRing$Yard", "leftMost", "()I"⟩, 3), (⟨"RhymeRing$Yard", "nextFrom", "()I"⟩, 3), (⟨"RhymeRing$Yard", "countsBeats", "()Z"⟩, 3), (⟨"RhymeRing$Yard", "hitStays", "()Z"⟩, 3), (⟨"RhymeRing$Yard", "turnsAlways", "()Z"⟩, 3), (⟨"RhymeRing", "learnRhymes", "()V"⟩, 19), (⟨"RhymeRing$Ring", "learn", "(ILRhymeRing$Rhyme;)V"⟩, 18), (⟨"RhymeRing$Ring", "chantOf", "(I)LRhymeRing$Chant;"⟩, 18)]
theorem lw_r4 : ∀ q ∈ lw_privs_4, lw_okq q := List.forall_mem_cons.mpr ⟨lw_p48, List.forall_mem_cons.mpr ⟨lw_p49, List.forall_mem_cons.mpr ⟨lw_p50, List.forall_mem_cons.mpr ⟨lw_p51, List.forall_mem_cons.mpr ⟨lw_p52, List.forall_mem_cons.mpr ⟨lw_p53, List.forall_mem_cons.mpr ⟨lw_p54, List.forall_mem_cons.mpr ⟨lw_p55, List.forall_mem_cons.mpr ⟨lw_p56, List.forall_mem_cons.mpr ⟨lw_p57, List.forall_mem_cons.mpr ⟨lw_p58, List.forall_mem_cons.mpr ⟨lw_p59, List.forall_mem_cons.mpr ⟨lw_p60, List.forall_mem_cons.mpr ⟨lw_p61, List.forall_mem_cons.mpr ⟨lw_p62, List.forall_mem_cons.mpr ⟨lw_p63, fun _ h => absurd h List.not_mem_nil⟩⟩⟩⟩⟩⟩⟩⟩⟩⟩⟩⟩⟩⟩⟩⟩
theorem lw_p64 : lw_okq (⟨"RhymeRing$Chant", "learn", "(LRhymeRing$Rhyme;Z)V"⟩, 6) := ⟨⟨by decide +kernel, by decide +kernel⟩, List.mem_of_getElem? (i := 233) (by decide +kernel), List.mem_of_getElem? (i := 902) (by decide +kernel), List.mem_of_getElem? (i := 903) (by decide +kernel)⟩
theorem lw_p65 : lw_okq (⟨"RhymeRing$Chant", "learnLine", "(LRhymeRing$Rhyme;IIZ)I"⟩, 6) := ⟨⟨by decide +kernel, by decide +kernel⟩, List.mem_of_getElem? (i := 233) (by decide +kernel), List.mem_of_getElem? (i := 908) (by decide +kernel), List.mem_of_getElem? (i := 909) (by decide +kernel)⟩
theorem lw_p66 : lw_okq (⟨"RhymeRing$Chant", "putGap", "(II)I"⟩, 6) := ⟨⟨by decide +kernel, by decide +kernel⟩, List.mem_of_getElem? (i := 233) (by decide +kernel), List.mem_of_getElem? (i := 914) (by decide +kernel), List.mem_of_getElem? (i := 915) (by decide +kernel)⟩
theorem lw_p67 : lw_okq (⟨"RhymeRing$Rhyme", "hasAsk", "()Z"⟩, 15) := ⟨⟨by decide +kernel, by decide +kernel⟩, List.mem_of_getElem? (i := 139) (by decide +kernel), List.mem_of_getElem? (i := 919) (by decide +kernel), List.mem_of_getElem? (i := 920) (by decide +kernel)⟩
theorem lw_p68 : lw_okq (⟨"RhymeRing", "walk", "(I)I"⟩, 19) := ⟨⟨by decide +kernel, by decide +kernel⟩, List.mem_of_getElem? (i := 26) (by decide +kernel), List.mem_of_getElem? (i := 923) (by decide +kernel), List.mem_of_getElem? (i := 924) (by decide +kernel)⟩
theorem lw_p69 : lw_okq (⟨"RhymeRing$Ring", "allHands", "()I"⟩, 18) := ⟨⟨by decide +kernel, by decide +kernel⟩, List.mem_of_getElem? (i := 224) (by decide +kernel), List.mem_of_getElem? (i := 927) (by decide +kernel), List.mem_of_getElem? (i := 928) (by decide +kernel)⟩
theorem lw_p70 : lw_okq (⟨"RhymeRing$Ring", "isOver", "(I)Z"⟩, 18) := ⟨⟨by decide +kernel, by decide +kernel⟩, List.mem_of_getElem? (i := 224) (by decide +kernel), List.mem_of_getElem? (i := 931) (by decide +kernel), List.mem_of_getElem? (i := 932) (by decide +kernel)⟩
theorem lw_p71 : lw_okq (⟨"RhymeRing$Ring", "owners", "(I)I"⟩, 18) := ⟨⟨by decide +kernel, by decide +kernel⟩, List.mem_of_getElem? (i := 224) (by decide +kernel), List.mem_of_getElem? (i := 935) (by decide +kernel), List.mem_of_getElem? (i := 936) (by decide +kernel)⟩
theorem lw_p72 : lw_okq (⟨"RhymeRing$Ring", "reckon", "(III)I"⟩, 18) := ⟨⟨by decide +kernel, by decide +kernel⟩, List.mem_of_getElem? (i := 224) (by decide +kernel), List.mem_of_getElem? (i := 940) (by decide +kernel), List.mem_of_getElem? (i := 941) (by decide +kernel)⟩
theorem lw_p73 : lw_okq (⟨"RhymeRing$Ring", "lineUp", "(III)V"⟩, 18) := ⟨⟨by decide +kernel, by decide +kernel⟩, List.mem_of_getElem? (i := 224) (by decide +kernel), List.mem_of_getElem? (i := 944) (by decide +kernel), List.mem_of_getElem? (i := 945) (by decide +kernel)⟩
theorem lw_p74 : lw_okq (⟨"RhymeRing$Ring", "beside", "(II)I"⟩, 18) := ⟨⟨by decide +kernel, by decide +kernel⟩, List.mem_of_getElem? (i := 224) (by decide +kernel), List.mem_of_getElem? (i := 951) (by decide +kernel), List.mem_of_getElem? (i := 952) (by decide +kernel)⟩
theorem lw_p75 : lw_okq (⟨"RhymeRing$Ring", "sayAll", "(LRhymeRing$Chant;)I"⟩, 18) := ⟨⟨by decide +kernel, by decide +kernel⟩, List.mem_of_getElem? (i := 224) (by decide +kernel), List.mem_of_getElem? (i := 955) (by decide +kernel), List.mem_of_getElem? (i := 956) (by decide +kernel)⟩
theorem lw_p76 : lw_okq (⟨"RhymeRing$Chant", "gapAt", "(I)I"⟩, 6) := ⟨⟨by decide +kernel, by decide +kernel⟩, List.mem_of_getElem? (i := 233) (by decide +kernel), List.mem_of_getElem? (i := 959) (by decide +kernel), List.mem_of_getElem? (i := 960) (by decide +kernel)⟩
theorem lw_p77 : lw_okq (⟨"RhymeRing$Ring", "sayLine", "(LRhymeRing$Chant;III)I"⟩, 18) := ⟨⟨by decide +kernel, by decide +kernel⟩, List.mem_of_getElem? (i := 224) (by decide +kernel), List.mem_of_getElem? (i := 963) (by decide +kernel), List.mem_of_getElem? (i := 964) (by decide +kernel)⟩
theorem lw_p78 : lw_okq (⟨"RhymeRing$Ring", "handAt", "(I)I"⟩, 18) := ⟨⟨by decide +kernel, by decide +kernel⟩, List.mem_of_getElem? (i := 224) (by decide +kernel), List.mem_of_getElem? (i := 967) (by decide +kernel), List.mem_of_getElem? (i := 968) (by decide +kernel)⟩
theorem lw_p79 : lw_okq (⟨"RhymeRing$Ring", "ownerOf", "(I)I"⟩, 18) := ⟨⟨by decide +kernel, by decide +kernel⟩, List.mem_of_getElem? (i := 224) (by decide +kernel), List.mem_of_getElem? (i := 971) (by decide +kernel), List.mem_of_getElem? (i := 972) (by decide +kernel)⟩
def lw_privs_5 : List (MethodName × Nat) := [(⟨"RhymeRing$Chant", "learn", "(LRhymeRing$Rhyme;Z)V"⟩, 6), (⟨"RhymeRing$Chant", "learnLine", "(LRhymeRing$Rhyme;IIZ)I"⟩, 6), (⟨"RhymeRing$Chant", "putGap", "(II)I"⟩, 6), (⟨"RhymeRing$Rhyme", "hasAsk", "()Z"⟩, 15), (⟨"RhymeRing", "walk", "(I)I"⟩, 19), (⟨"RhymeRing$Ring", "allHands", "()I"⟩, 18), (⟨"RhymeRing$Ring", "isOver", "(I)Z"⟩, 18), (⟨"RhymeRing$Ring", "owners", "(I)I"⟩, 18), (⟨"RhymeRing$Ring", "reckon", "(III)I"⟩, 18), (⟨"RhymeRing$Ring", "lineUp", "(III)V"⟩, 18), (⟨"RhymeRing$Ring", "beside", "(II)I"⟩, 18), (⟨"RhymeRing$Ring", "sayAll", "(LRhymeRing$Chant;)I"⟩, 18), (⟨"RhymeRing$Chant", "gapAt", "(I)I"⟩, 6), (⟨"RhymeRing$Ring", "sayLine", "(LRhymeRing$Chant;III)I"⟩, 18), (⟨"RhymeRing$Ring", "handAt", "(I)I"⟩, 18), (⟨"RhymeRing$Ring", "ownerOf", "(I)I"⟩, 18)]
theorem lw_r5 : ∀ q ∈ lw_privs_5, lw_okq q := List.forall_mem_cons.mpr ⟨lw_p64, List.forall_mem_cons.mpr ⟨lw_p65, List.forall_mem_cons.mpr ⟨lw_p66, List.forall_mem_cons.mpr ⟨lw_p67, List.forall_mem_cons.mpr ⟨lw_p68, List.forall_mem_cons.mpr ⟨lw_p69, List.forall_mem_cons.mpr ⟨lw_p70, List.forall_mem_cons.mpr ⟨lw_p71, List.forall_mem_cons.mpr ⟨lw_p72, List.forall_mem_cons.mpr ⟨lw_p73, List.forall_mem_cons.mpr ⟨lw_p74, List.forall_mem_cons.mpr ⟨lw_p75, List.forall_mem_cons.mpr ⟨lw_p76, List.forall_mem_cons.mpr ⟨lw_p77, List.forall_mem_cons.mpr ⟨lw_p78, List.forall_mem_cons.mpr ⟨lw_p79, fun _ h => absurd h List.not_mem_nil⟩⟩⟩⟩⟩⟩⟩⟩⟩⟩⟩⟩⟩⟩⟩⟩
theorem lw_p80 : lw_okq (⟨"RhymeRing$Ring", "beatsOfName", "(I)I"⟩, 18) := ⟨⟨by decide +kernel, by decide +kernel⟩, List.mem_of_getElem? (i := 224) (by decide +kernel), List.mem_of_getElem? (i := 975) (by decide +kernel), List.mem_of_getElem? (i := 976) (by decide +kernel)⟩
theorem lw_p81 : lw_okq (⟨"RhymeRing$Ring", "askerOf", "(I)I"⟩, 18) := ⟨⟨by decide +kernel, by decide +kernel⟩, List.mem_of_getElem? (i := 224) (by decide +kernel), List.mem_of_getElem? (i := 979) (by decide +kernel), List.mem_of_getElem? (i := 980) (by decide +kernel)⟩
theorem lw_p82 : lw_okq (⟨"RhymeRing$Tape", "byteOr", "(III)I"⟩, 2) := ⟨⟨by decide +kernel, by decide +kernel⟩, List.mem_of_getElem? (i := 34) (by decide +kernel), List.mem_of_getElem? (i := 983) (by decide +kernel), List.mem_of_getElem? (i := 984) (by decide +kernel)⟩
theorem lw_p83 : lw_okq (⟨"RhymeRing$Ring", "handHit", "(II)I"⟩, 18) := ⟨⟨by decide +kernel, by decide +kernel⟩, List.mem_of_getElem? (i := 224) (by decide +kernel), List.mem_of_getElem? (i := 987) (by decide +kernel), List.mem_of_getElem? (i := 988) (by decide +kernel)⟩
theorem lw_p84 : lw_okq (⟨"RhymeRing$Ring", "nextBegin", "(IIII)I"⟩, 18) := ⟨⟨by decide +kernel, by decide +kernel⟩, List.mem_of_getElem? (i := 224) (by decide +kernel), List.mem_of_getElem? (i := 992) (by decide +kernel), List.mem_of_getElem? (i := 993) (by decide +kernel)⟩
theorem lw_p85 : lw_okq (⟨"RhymeRing$Ring", "nextIn", "(III)I"⟩, 18) := ⟨⟨by decide +kernel, by decide +kernel⟩, List.mem_of_getElem? (i := 224) (by decide +kernel), List.mem_of_getElem? (i := 996) (by decide +kernel), List.mem_of_getElem? (i := 997) (by decide +kernel)⟩
theorem lw_p86 : lw_okq (⟨"RhymeRing$Rhyme", "hasNameOrAsk", "()Z"⟩, 15) := ⟨⟨by decide +kernel, by decide +kernel⟩, List.mem_of_getElem? (i := 139) (by decide +kernel), List.mem_of_getElem? (i := 1010) (by decide +kernel), List.mem_of_getElem? (i := 1011) (by decide +kernel)⟩
theorem lw_p87 : lw_okq (⟨"RhymeRing", "isGameReady", "()Z"⟩, 19) := ⟨⟨by decide +kernel, by decide +kernel⟩, List.mem_of_getElem? (i := 26) (by decide +kernel), List.mem_of_getElem? (i := 1028) (by decide +kernel), List.mem_of_getElem? (i := 1029) (by decide +kernel)⟩
theorem lw_p88 : lw_okq (⟨"RhymeRing$Ring", "isTooGreat", "()Z"⟩, 18) := ⟨⟨by decide +kernel, by decide +kernel⟩, List.mem_of_getElem? (i := 224) (by decide +kernel), List.mem_of_getElem? (i := 1032) (by decide +kernel), List.mem_of_getElem? (i := 1033) (by decide +kernel)⟩
theorem lw_p89 : lw_okq (⟨"RhymeRing", "areFolk", "(I)Z"⟩, 19) := ⟨⟨by decide +kernel, by decide +kernel⟩, List.mem_of_getElem? (i := 26) (by decide +kernel), List.mem_of_getElem? (i := 1036) (by decide +kernel), List.mem_of_getElem? (i := 1037) (by decide +kernel)⟩
theorem lw_p90 : lw_okq (⟨"RhymeRing$Yard", "wantsLeft", "()Z"⟩, 3) := ⟨⟨by decide +kernel, by decide +kernel⟩, List.mem_of_getElem? (i := 113) (by decide +kernel), List.mem_of_getElem? (i := 1040) (by decide +kernel), List.mem_of_getElem? (i := 1041) (by decide +kernel)⟩
theorem lw_p91 : lw_okq (⟨"RhymeRing$Game", "leftBy", "(IZ)I"⟩, 8) := ⟨⟨by decide +kernel, by decide +kernel⟩, List.mem_of_getElem? (i := 218) (by decide +kernel), List.mem_of_getElem? (i := 1044) (by decide +kernel), List.mem_of_getElem? (i := 1045) (by decide +kernel)⟩
theorem lw_p92 : lw_okq (⟨"RhymeRing$Game", "setOut", "(IIZ)V"⟩, 8) := ⟨⟨by decide +kernel, by decide +kernel⟩, List.mem_of_getElem? (i := 218) (by decide +kernel), List.mem_of_getElem? (i := 1048) (by decide +kernel), List.mem_of_getElem? (i := 1049) (by decide +kernel)⟩
theorem lw_p93 : lw_okq (⟨"RhymeRing$Game", "worthOf", "(III)I"⟩, 8) := ⟨⟨by decide +kernel, by decide +kernel⟩, List.mem_of_getElem? (i := 218) (by decide +kernel), List.mem_of_getElem? (i := 1053) (by decide +kernel), List.mem_of_getElem? (i := 1054) (by decide +kernel)⟩
theorem lw_p94 : lw_okq (⟨"RhymeRing$Game", "endWorth", "(I)I"⟩, 8) := ⟨⟨by decide +kernel, by decide +kernel⟩, List.mem_of_getElem? (i := 218) (by decide +kernel), List.mem_of_getElem? (i := 1059) (by decide +kernel), List.mem_of_getElem? (i := 1060) (by decide +kernel)⟩
theorem lw_p95 : lw_okq (⟨"RhymeRing$Game", "meets", "(II)Z"⟩, 8) := ⟨⟨by decide +kernel, by decide +kernel⟩, List.mem_of_getElem? (i := 218) (by decide +kernel), List.mem_of_getElem? (i := 1063) (by decide +kernel), List.mem_of_getElem? (i := 1064) (by decide +kernel)⟩
def lw_privs_6 : List (MethodName × Nat) := [(⟨"RhymeRing$Ring", "beatsOfName", "(I)I"⟩, 18), (⟨"RhymeRing$Ring", "askerOf", "(I)I"⟩, 18), (⟨"RhymeRing$Tape", "byteOr", "(III)I"⟩, 2), (⟨"RhymeRing$Ring", "handHit", "(II)I"⟩, 18), (⟨"RhymeRing$Ring", "nextBegin", "(IIII)I"⟩, 18), (⟨"RhymeRing$Ring", "nextIn", "(III)I"⟩, 18), (⟨"RhymeRing$Rhyme", "hasNameOrAsk", "()Z"⟩, 15), (⟨"RhymeRing", "isGameReady", "()Z"⟩, 19), (⟨"RhymeRing$Ring", "isTooGreat", "()Z"⟩, 18), (⟨"RhymeRing", "areFolk", "(I)Z"⟩, 19), (⟨"RhymeRing$Yard", "wantsLeft", "()Z"⟩, 3), (⟨"RhymeRing$Game", "leftBy", "(IZ)I"⟩, 8), (⟨"RhymeRing$Game", "setOut", "(IIZ)V"⟩, 8), (⟨"RhymeRing$Game", "worthOf", "(III)I"⟩, 8), (⟨"RhymeRing$Game", "endWorth", "(I)I"⟩, 8), (⟨"RhymeRing$Game", "meets", "(II)Z"⟩, 8)]
theorem lw_r6 : ∀ q ∈ lw_privs_6, lw_okq q := List.forall_mem_cons.mpr ⟨lw_p80, List.forall_mem_cons.mpr ⟨lw_p81, List.forall_mem_cons.mpr ⟨lw_p82, List.forall_mem_cons.mpr ⟨lw_p83, List.forall_mem_cons.mpr ⟨lw_p84, List.forall_mem_cons.mpr ⟨lw_p85, List.forall_mem_cons.mpr ⟨lw_p86, List.forall_mem_cons.mpr ⟨lw_p87, List.forall_mem_cons.mpr ⟨lw_p88, List.forall_mem_cons.mpr ⟨lw_p89, List.forall_mem_cons.mpr ⟨lw_p90, List.forall_mem_cons.mpr ⟨lw_p91, List.forall_mem_cons.mpr ⟨lw_p92, List.forall_mem_cons.mpr ⟨lw_p93, List.forall_mem_cons.mpr ⟨lw_p94, List.forall_mem_cons.mpr ⟨lw_p95, fun _ h => absurd h List.not_mem_nil⟩⟩⟩⟩⟩⟩⟩⟩⟩⟩⟩⟩⟩⟩⟩⟩
theorem lw_p96 : lw_okq (⟨"RhymeRing$Game", "worthAfter", "(IIII)I"⟩, 8) := ⟨⟨by decide +kernel, by decide +kernel⟩, List.mem_of_getElem? (i := 218) (by decide +kernel), List.mem_of_getElem? (i := 1074) (by decide +kernel), List.mem_of_getElem? (i := 1075) (by decide +kernel)⟩
theorem lw_p97 : lw_okq (⟨"RhymeRing$Game", "isSettled", "(II)Z"⟩, 8) := ⟨⟨by decide +kernel, by decide +kernel⟩, List.mem_of_getElem? (i := 218) (by decide +kernel), List.mem_of_getElem? (i := 1081) (by decide +kernel), List.mem_of_getElem? (i := 1082) (by decide +kernel)⟩
theorem lw_p98 : lw_okq (⟨"RhymeRing$Game", "sees", "(I)Z"⟩, 8) := ⟨⟨by decide +kernel, by decide +kernel⟩, List.mem_of_getElem? (i := 218) (by decide +kernel), List.mem_of_getElem? (i := 1086) (by decide +kernel), List.mem_of_getElem? (i := 1087) (by decide +kernel)⟩
theorem lw_p99 : lw_okq (⟨"RhymeRing$Game", "better", "(III)I"⟩, 8) := ⟨⟨by decide +kernel, by decide +kernel⟩, List.mem_of_getElem? (i := 218) (by decide +kernel), List.mem_of_getElem? (i := 1090) (by decide +kernel), List.mem_of_getElem? (i := 1091) (by decide +kernel)⟩
theorem lw_p100 : lw_okq (⟨"RhymeRing$Game", "firstAnswer", "(IZ)I"⟩, 8) := ⟨⟨by decide +kernel, by decide +kernel⟩, List.mem_of_getElem? (i := 218) (by decide +kernel), List.mem_of_getElem? (i := 1098) (by decide +kernel), List.mem_of_getElem? (i := 1099) (by decide +kernel)⟩
theorem lw_p101 : lw_okq (⟨"RhymeRing", "isPerson", "(I)Z"⟩, 19) := ⟨⟨by decide +kernel, by decide +kernel⟩, List.mem_of_getElem? (i := 26) (by decide +kernel), List.mem_of_getElem? (i := 1106) (by decide +kernel), List.mem_of_getElem? (i := 1107) (by decide +kernel)⟩
theorem lw_p102 : lw_okq (⟨"RhymeRing$Game", "isSure", "(IZ)Z"⟩, 8) := ⟨⟨by decide +kernel, by decide +kernel⟩, List.mem_of_getElem? (i := 218) (by decide +kernel), List.mem_of_getElem? (i := 1110) (by decide +kernel), List.mem_of_getElem? (i := 1111) (by decide +kernel)⟩
theorem lw_p103 : lw_okq (⟨"RhymeRing$Ring", "rest", "(II)V"⟩, 18) := ⟨⟨by decide +kernel, by decide +kernel⟩, List.mem_of_getElem? (i := 224) (by decide +kernel), List.mem_of_getElem? (i := 1118) (by decide +kernel), List.mem_of_getElem? (i := 1119) (by decide +kernel)⟩
theorem lw_p104 : lw_okq (⟨"RhymeRing$Game", "reckonShares", "()V"⟩, 8) := ⟨⟨by decide +kernel, by decide +kernel⟩, List.mem_of_getElem? (i := 218) (by decide +kernel), List.mem_of_getElem? (i := 1122) (by decide +kernel), List.mem_of_getElem? (i := 1123) (by decide +kernel)⟩
theorem lw_p105 : lw_okq (⟨"RhymeRing$Game", "wholeShare", "()I"⟩, 8) := ⟨⟨by decide +kernel, by decide +kernel⟩, List.mem_of_getElem? (i := 218) (by decide +kernel), List.mem_of_getElem? (i := 1127) (by decide +kernel), List.mem_of_getElem? (i := 1128) (by decide +kernel)⟩
theorem lw_p106 : lw_okq (⟨"RhymeRing$Game", "add", "(III)V"⟩, 8) := ⟨⟨by decide +kernel, by decide +kernel⟩, List.mem_of_getElem? (i := 218) (by decide +kernel), List.mem_of_getElem? (i := 1131) (by decide +kernel), List.mem_of_getElem? (i := 1132) (by decide +kernel)⟩
theorem lw_p107 : lw_okq (⟨"RhymeRing$Game", "pass", "(III)V"⟩, 8) := ⟨⟨by decide +kernel, by decide +kernel⟩, List.mem_of_getElem? (i := 218) (by decide +kernel), List.mem_of_getElem? (i := 1135) (by decide +kernel), List.mem_of_getElem? (i := 1136) (by decide +kernel)⟩
theorem lw_p108 : lw_okq (⟨"RhymeRing$Game", "giveTo", "(II)V"⟩, 8) := ⟨⟨by decide +kernel, by decide +kernel⟩, List.mem_of_getElem? (i := 218) (by decide +kernel), List.mem_of_getElem? (i := 1139) (by decide +kernel), List.mem_of_getElem? (i := 1140) (by decide +kernel)⟩
theorem lw_p109 : lw_okq (⟨"RhymeRing$Game", "hitsBefore", "(I)I"⟩, 8) := ⟨⟨by decide +kernel, by decide +kernel⟩, List.mem_of_getElem? (i := 218) (by decide +kernel), List.mem_of_getElem? (i := 1143) (by decide +kernel), List.mem_of_getElem? (i := 1144) (by decide +kernel)⟩
theorem lw_p110 : lw_okq (⟨"RhymeRing$Game", "areSharesEven", "()Z"⟩, 8) := ⟨⟨by decide +kernel, by decide +kernel⟩, List.mem_of_getElem? (i := 218) (by decide +kernel), List.mem_of_getElem? (i := 1148) (by decide +kernel), List.mem_of_getElem? (i := 1149) (by decide +kernel)⟩
theorem lw_p111 : lw_okq (⟨"RhymeRing$Game", "shareOf", "(I)I"⟩, 8) := ⟨⟨by decide +kernel, by decide +kernel⟩, List.mem_of_getElem? (i := 218) (by decide +kernel), List.mem_of_getElem? (i := 1152) (by decide +kernel), List.mem_of_getElem? (i := 1153) (by decide +kernel)⟩
def lw_privs_7 : List (MethodName × Nat) := [(⟨"RhymeRing$Game", "worthAfter", "(IIII)I"⟩, 8), (⟨"RhymeRing$Game", "isSettled", "(II)Z"⟩, 8), (⟨"RhymeRing$Game", "sees", "(I)Z"⟩, 8), (⟨"RhymeRing$Game", "better", "(III)I"⟩, 8), (⟨"RhymeRing$Game", "firstAnswer", "(IZ)I"⟩, 8), (⟨"RhymeRing", "isPerson", "(I)Z"⟩, 19), (⟨"RhymeRing$Game", "isSure", "(IZ)Z"⟩, 8), (⟨"RhymeRing$Ring", "rest", "(II)V"⟩, 18), (⟨"RhymeRing$Game", "reckonShares", "()V"⟩, 8), (⟨"RhymeRing$Game", "wholeShare", "()I"⟩, 8), (⟨"RhymeRing$Game", "add", "(III)V"⟩, 8), (⟨"RhymeRing$Game", "pass", "(III)V"⟩, 8), (⟨"RhymeRing$Game", "giveTo", "(II)V"⟩, 8), (⟨"RhymeRing$Game", "hitsBefore", "(I)I"⟩, 8), (⟨"RhymeRing$Game", "areSharesEven", "()Z"⟩, 8), (⟨"RhymeRing$Game", "shareOf", "(I)I"⟩, 8)]
theorem lw_r7 : ∀ q ∈ lw_privs_7, lw_okq q := List.forall_mem_cons.mpr ⟨lw_p96, List.forall_mem_cons.mpr ⟨lw_p97, List.forall_mem_cons.mpr ⟨lw_p98, List.forall_mem_cons.mpr ⟨lw_p99, List.forall_mem_cons.mpr ⟨lw_p100, List.forall_mem_cons.mpr ⟨lw_p101, List.forall_mem_cons.mpr ⟨lw_p102, List.forall_mem_cons.mpr ⟨lw_p103, List.forall_mem_cons.mpr ⟨lw_p104, List.forall_mem_cons.mpr ⟨lw_p105, List.forall_mem_cons.mpr ⟨lw_p106, List.forall_mem_cons.mpr ⟨lw_p107, List.forall_mem_cons.mpr ⟨lw_p108, List.forall_mem_cons.mpr ⟨lw_p109, List.forall_mem_cons.mpr ⟨lw_p110, List.forall_mem_cons.mpr ⟨lw_p111, fun _ h => absurd h List.not_mem_nil⟩⟩⟩⟩⟩⟩⟩⟩⟩⟩⟩⟩⟩⟩⟩⟩
theorem lw_p112 : lw_okq (⟨"RhymeRing$Changes", "between", "(LRhymeRing$Rhyme;LRhymeRing$Rhyme;)I"⟩, 7) := ⟨⟨by decide +kernel, by decide +kernel⟩, List.mem_of_getElem? (i := 349) (by decide +kernel), List.mem_of_getElem? (i := 1160) (by decide +kernel), List.mem_of_getElem? (i := 1161) (by decide +kernel)⟩
theorem lw_p113 : lw_okq (⟨"RhymeRing$Changes", "weighLines", "(LRhymeRing$Rhyme;LRhymeRing$Rhyme;)V"⟩, 7) := ⟨⟨by decide +kernel, by decide +kernel⟩, List.mem_of_getElem? (i := 349) (by decide +kernel), List.mem_of_getElem? (i := 1164) (by decide +kernel), List.mem_of_getElem? (i := 1165) (by decide +kernel)⟩
theorem lw_p114 : lw_okq (⟨"RhymeRing$Changes", "itemChanges", "(LRhymeRing$Rhyme;ILRhymeRing$Rhyme;I)I"⟩, 7) := ⟨⟨by decide +kernel, by decide +kernel⟩, List.mem_of_getElem? (i := 349) (by decide +kernel), List.mem_of_getElem? (i := 1168) (by decide +kernel), List.mem_of_getElem? (i := 1169) (by decide +kernel)⟩
theorem lw_p115 : lw_okq (⟨"RhymeRing$Rhyme", "itemsIn", "(I)I"⟩, 15) := ⟨⟨by decide +kernel, by decide +kernel⟩, List.mem_of_getElem? (i := 139) (by decide +kernel), List.mem_of_getElem? (i := 1173) (by decide +kernel), List.mem_of_getElem? (i := 1174) (by decide +kernel)⟩
theorem lw_p116 : lw_okq (⟨"RhymeRing$Rhyme", "isSameItem", "(ILRhymeRing$Rhyme;I)Z"⟩, 15) := ⟨⟨by decide +kernel, by decide +kernel⟩, List.mem_of_getElem? (i := 139) (by decide +kernel), List.mem_of_getElem? (i := 1177) (by decide +kernel), List.mem_of_getElem? (i := 1178) (by decide +kernel)⟩
theorem lw_p117 : lw_okq (⟨"RhymeRing$Changes", "sumForward", "(LRhymeRing$Rhyme;LRhymeRing$Rhyme;)V"⟩, 7) := ⟨⟨by decide +kernel, by decide +kernel⟩, List.mem_of_getElem? (i := 349) (by decide +kernel), List.mem_of_getElem? (i := 1181) (by decide +kernel), List.mem_of_getElem? (i := 1182) (by decide +kernel)⟩
theorem lw_p118 : lw_okq (⟨"RhymeRing", "elderIn", "(ILRhymeRing$Rhyme;)LRhymeRing$Rhyme;"⟩, 19) := ⟨⟨by decide +kernel, by decide +kernel⟩, List.mem_of_getElem? (i := 26) (by decide +kernel), List.mem_of_getElem? (i := 1190) (by decide +kernel), List.mem_of_getElem? (i := 1191) (by decide +kernel)⟩
theorem lw_p119 : lw_okq (⟨"RhymeRing$Changes", "weighParts", "(ILRhymeRing$Rhyme;LRhymeRing$Rhyme;)V"⟩, 7) := ⟨⟨by decide +kernel, by decide +kernel⟩, List.mem_of_getElem? (i := 349) (by decide +kernel), List.mem_of_getElem? (i := 1198) (by decide +kernel), List.mem_of_getElem? (i := 1199) (by decide +kernel)⟩
theorem lw_p120 : lw_okq (⟨"RhymeRing$Changes", "takeLeast", "(LRhymeRing$Rhyme;LRhymeRing$Rhyme;[I)V"⟩, 7) := ⟨⟨by decide +kernel, by decide +kernel⟩, List.mem_of_getElem? (i := 349) (by decide +kernel), List.mem_of_getElem? (i := 1203) (by decide +kernel), List.mem_of_getElem? (i := 1204) (by decide +kernel)⟩
theorem lw_p121 : lw_okq (⟨"RhymeRing$Changes", "sumBackward", "(LRhymeRing$Rhyme;LRhymeRing$Rhyme;)V"⟩, 7) := ⟨⟨by decide +kernel, by decide +kernel⟩, List.mem_of_getElem? (i := 349) (by decide +kernel), List.mem_of_getElem? (i := 1207) (by decide +kernel), List.mem_of_getElem? (i := 1208) (by decide +kernel)⟩
theorem lw_p122 : lw_okq (⟨"RhymeRing", "mixture", "(LRhymeRing$Rhyme;I)I"⟩, 19) := ⟨⟨by decide +kernel, by decide +kernel⟩, List.mem_of_getElem? (i := 26) (by decide +kernel), List.mem_of_getElem? (i := 1211) (by decide +kernel), List.mem_of_getElem? (i := 1212) (by decide +kernel)⟩
theorem lw_p123 : lw_okq (⟨"RhymeRing$Changes", "bestCut", "(III)I"⟩, 7) := ⟨⟨by decide +kernel, by decide +kernel⟩, List.mem_of_getElem? (i := 349) (by decide +kernel), List.mem_of_getElem? (i := 1215) (by decide +kernel), List.mem_of_getElem? (i := 1216) (by decide +kernel)⟩
theorem lw_p124 : lw_okq (⟨"RhymeRing$Changes", "mixtureCost", "(III)I"⟩, 7) := ⟨⟨by decide +kernel, by decide +kernel⟩, List.mem_of_getElem? (i := 349) (by decide +kernel), List.mem_of_getElem? (i := 1219) (by decide +kernel), List.mem_of_getElem? (i := 1220) (by decide +kernel)⟩
theorem lw_p125 : lw_okq (⟨"RhymeRing", "isRecord", "(I)Z"⟩, 19) := ⟨⟨by decide +kernel, by decide +kernel⟩, List.mem_of_getElem? (i := 26) (by decide +kernel), List.mem_of_getElem? (i := 1228) (by decide +kernel), List.mem_of_getElem? (i := 1229) (by decide +kernel)⟩
theorem lw_p126 : lw_okq (⟨"RhymeRing$Game", "follow", "([CI)I"⟩, 8) := ⟨⟨by decide +kernel, by decide +kernel⟩, List.mem_of_getElem? (i := 218) (by decide +kernel), List.mem_of_getElem? (i := 1232) (by decide +kernel), List.mem_of_getElem? (i := 1233) (by decide +kernel)⟩
theorem lw_p127 : lw_okq (⟨"RhymeRing$Game", "followFrom", "(II[CI)I"⟩, 8) := ⟨⟨by decide +kernel, by decide +kernel⟩, List.mem_of_getElem? (i := 218) (by decide +kernel), List.mem_of_getElem? (i := 1236) (by decide +kernel), List.mem_of_getElem? (i := 1237) (by decide +kernel)⟩
def lw_privs_8 : List (MethodName × Nat) := [(⟨"RhymeRing$Changes", "between", "(LRhymeRing$Rhyme;LRhymeRing$Rhyme;)I"⟩, 7), (⟨"RhymeRing$Changes", "weighLines", "(LRhymeRing$Rhyme;LRhymeRing$Rhyme;)V"⟩, 7), (⟨"RhymeRing$Changes", "itemChanges", "(LRhymeRing$Rhyme;ILRhymeRing$Rhyme;I)I"⟩, 7), (⟨"RhymeRing$Rhyme", "itemsIn", "(I)I"⟩, 15), (⟨"RhymeRing$Rhyme", "isSameItem", "(ILRhymeRing$Rhyme;I)Z"⟩, 15), (⟨"RhymeRing$Changes", "sumForward", "(LRhymeRing$Rhyme;LRhymeRing$Rhyme;)V"⟩, 7), (⟨"RhymeRing", "elderIn", "(ILRhymeRing$Rhyme;)LRhymeRing$Rhyme;"⟩, 19), (⟨"RhymeRing$Changes", "weighParts", "(ILRhymeRing$Rhyme;LRhymeRing$Rhyme;)V"⟩, 7), (⟨"RhymeRing$Changes", "takeLeast", "(LRhymeRing$Rhyme;LRhymeRing$Rhyme;[I)V"⟩, 7), (⟨"RhymeRing$Changes", "sumBackward", "(LRhymeRing$Rhyme;LRhymeRing$Rhyme;)V"⟩, 7), (⟨"RhymeRing", "mixture", "(LRhymeRing$Rhyme;I)I"⟩, 19), (⟨"RhymeRing$Changes", "bestCut", "(III)I"⟩, 7), (⟨"RhymeRing$Changes", "mixtureCost", "(III)I"⟩, 7), (⟨"RhymeRing", "isRecord", "(I)Z"⟩, 19), (⟨"RhymeRing$Game", "follow", "([CI)I"⟩, 8), (⟨"RhymeRing$Game", "followFrom", "(II[CI)I"⟩, 8)]
theorem lw_r8 : ∀ q ∈ lw_privs_8, lw_okq q := List.forall_mem_cons.mpr ⟨lw_p112, List.forall_mem_cons.mpr ⟨lw_p113, List.forall_mem_cons.mpr ⟨lw_p114, List.forall_mem_cons.mpr ⟨lw_p115, List.forall_mem_cons.mpr ⟨lw_p116, List.forall_mem_cons.mpr ⟨lw_p117, List.forall_mem_cons.mpr ⟨lw_p118, List.forall_mem_cons.mpr ⟨lw_p119, List.forall_mem_cons.mpr ⟨lw_p120, List.forall_mem_cons.mpr ⟨lw_p121, List.forall_mem_cons.mpr ⟨lw_p122, List.forall_mem_cons.mpr ⟨lw_p123, List.forall_mem_cons.mpr ⟨lw_p124, List.forall_mem_cons.mpr ⟨lw_p125, List.forall_mem_cons.mpr ⟨lw_p126, List.forall_mem_cons.mpr ⟨lw_p127, fun _ h => absurd h List.not_mem_nil⟩⟩⟩⟩⟩⟩⟩⟩⟩⟩⟩⟩⟩⟩⟩⟩
theorem lw_p128 : lw_okq (⟨"RhymeRing$Ring", "useOnly", "(I)V"⟩, 18) := ⟨⟨by decide +kernel, by decide +kernel⟩, List.mem_of_getElem? (i := 224) (by decide +kernel), List.mem_of_getElem? (i := 1245) (by decide +kernel), List.mem_of_getElem? (i := 1246) (by decide +kernel)⟩
theorem lw_p129 : lw_okq (⟨"RhymeRing", "rhymeCount", "()I"⟩, 19) := ⟨⟨by decide +kernel, by decide +kernel⟩, List.mem_of_getElem? (i := 26) (by decide +kernel), List.mem_of_getElem? (i := 1253) (by decide +kernel), List.mem_of_getElem? (i := 1254) (by decide +kernel)⟩
theorem lw_p130 : lw_okq (⟨"java/lang/Throwable", "fillInStackTrace", "(I)Ljava/lang/Throwable;"⟩, 6) := ⟨⟨by decide +kernel, by decide +kernel⟩, List.mem_of_getElem? (i := 1301) (by decide +kernel), List.mem_of_getElem? (i := 1299) (by decide +kernel), List.mem_of_getElem? (i := 1300) (by decide +kernel)⟩
theorem lw_p131 : lw_okq (⟨"RhymeRingModel", "four", "(I)V"⟩, 83) := ⟨⟨by decide +kernel, by decide +kernel⟩, List.mem_of_getElem? (i := 1348) (by decide +kernel), List.mem_of_getElem? (i := 1346) (by decide +kernel), List.mem_of_getElem? (i := 1347) (by decide +kernel)⟩
theorem lw_p132 : lw_okq (⟨"RhymeRingModel", "taken", "()V"⟩, 83) := ⟨⟨by decide +kernel, by decide +kernel⟩, List.mem_of_getElem? (i := 1348) (by decide +kernel), List.mem_of_getElem? (i := 1363) (by decide +kernel), List.mem_of_getElem? (i := 1364) (by decide +kernel)⟩
theorem lw_p133 : lw_okq (⟨"RhymeRingModel", "next", "()V"⟩, 83) := ⟨⟨by decide +kernel, by decide +kernel⟩, List.mem_of_getElem? (i := 1348) (by decide +kernel), List.mem_of_getElem? (i := 1368) (by decide +kernel), List.mem_of_getElem? (i := 1369) (by decide +kernel)⟩
theorem lw_p134 : lw_okq (⟨"RhymeRingModel", "peek", "()I"⟩, 83) := ⟨⟨by decide +kernel, by decide +kernel⟩, List.mem_of_getElem? (i := 1348) (by decide +kernel), List.mem_of_getElem? (i := 1372) (by decide +kernel), List.mem_of_getElem? (i := 1373) (by decide +kernel)⟩
theorem lw_p135 : lw_okq (⟨"RhymeRingModel", "tongueRule", "()Z"⟩, 83) := ⟨⟨by decide +kernel, by decide +kernel⟩, List.mem_of_getElem? (i := 1348) (by decide +kernel), List.mem_of_getElem? (i := 1382) (by decide +kernel), List.mem_of_getElem? (i := 1383) (by decide +kernel)⟩
theorem lw_p136 : lw_okq (⟨"RhymeRingModel", "isWord", "(J)Z"⟩, 83) := ⟨⟨by decide +kernel, by decide +kernel⟩, List.mem_of_getElem? (i := 1348) (by decide +kernel), List.mem_of_getElem? (i := 1387) (by decide +kernel), List.mem_of_getElem? (i := 1388) (by decide +kernel)⟩
theorem lw_p137 : lw_okq (⟨"RhymeRingModel", "once", "(I)Z"⟩, 83) := ⟨⟨by decide +kernel, by decide +kernel⟩, List.mem_of_getElem? (i := 1348) (by decide +kernel), List.mem_of_getElem? (i := 1391) (by decide +kernel), List.mem_of_getElem? (i := 1392) (by decide +kernel)⟩
theorem lw_p138 : lw_okq (⟨"RhymeRingModel", "wrong", "(II)Z"⟩, 83) := ⟨⟨by decide +kernel, by decide +kernel⟩, List.mem_of_getElem? (i := 1348) (by decide +kernel), List.mem_of_getElem? (i := 1395) (by decide +kernel), List.mem_of_getElem? (i := 1396) (by decide +kernel)⟩
theorem lw_p139 : lw_okq (⟨"RhymeRingModel", "cant", "()Z"⟩, 83) := ⟨⟨by decide +kernel, by decide +kernel⟩, List.mem_of_getElem? (i := 1348) (by decide +kernel), List.mem_of_getElem? (i := 1399) (by decide +kernel), List.mem_of_getElem? (i := 1400) (by decide +kernel)⟩
theorem lw_p140 : lw_okq (⟨"RhymeRingModel", "semi", "()Z"⟩, 83) := ⟨⟨by decide +kernel, by decide +kernel⟩, List.mem_of_getElem? (i := 1348) (by decide +kernel), List.mem_of_getElem? (i := 1403) (by decide +kernel), List.mem_of_getElem? (i := 1404) (by decide +kernel)⟩
theorem lw_p141 : lw_okq (⟨"RhymeRingModel", "words", "(Z)Z"⟩, 83) := ⟨⟨by decide +kernel, by decide +kernel⟩, List.mem_of_getElem? (i := 1348) (by decide +kernel), List.mem_of_getElem? (i := 1408) (by decide +kernel), List.mem_of_getElem? (i := 1409) (by decide +kernel)⟩
theorem lw_p142 : lw_okq (⟨"RhymeRingModel", "takeWord", "()Z"⟩, 83) := ⟨⟨by decide +kernel, by decide +kernel⟩, List.mem_of_getElem? (i := 1348) (by decide +kernel), List.mem_of_getElem? (i := 1421) (by decide +kernel), List.mem_of_getElem? (i := 1422) (by decide +kernel)⟩
theorem lw_p143 : lw_okq (⟨"RhymeRingModel", "beatsOf", "(II)I"⟩, 83) := ⟨⟨by decide +kernel, by decide +kernel⟩, List.mem_of_getElem? (i := 1348) (by decide +kernel), List.mem_of_getElem? (i := 1425) (by decide +kernel), List.mem_of_getElem? (i := 1426) (by decide +kernel)⟩
def lw_privs_9 : List (MethodName × Nat) := [(⟨"RhymeRing$Ring", "useOnly", "(I)V"⟩, 18), (⟨"RhymeRing", "rhymeCount", "()I"⟩, 19), (⟨"java/lang/Throwable", "fillInStackTrace", "(I)Ljava/lang/Throwable;"⟩, 6), (⟨"RhymeRingModel", "four", "(I)V"⟩, 83), (⟨"RhymeRingModel", "taken", "()V"⟩, 83), (⟨"RhymeRingModel", "next", "()V"⟩, 83), (⟨"RhymeRingModel", "peek", "()I"⟩, 83), (⟨"RhymeRingModel", "tongueRule", "()Z"⟩, 83), (⟨"RhymeRingModel", "isWord", "(J)Z"⟩, 83), (⟨"RhymeRingModel", "once", "(I)Z"⟩, 83), (⟨"RhymeRingModel", "wrong", "(II)Z"⟩, 83), (⟨"RhymeRingModel", "cant", "()Z"⟩, 83), (⟨"RhymeRingModel", "semi", "()Z"⟩, 83), (⟨"RhymeRingModel", "words", "(Z)Z"⟩, 83), (⟨"RhymeRingModel", "takeWord", "()Z"⟩, 83), (⟨"RhymeRingModel", "beatsOf", "(II)I"⟩, 83)]
theorem lw_r9 : ∀ q ∈ lw_privs_9, lw_okq q := List.forall_mem_cons.mpr ⟨lw_p128, List.forall_mem_cons.mpr ⟨lw_p129, List.forall_mem_cons.mpr ⟨lw_p130, List.forall_mem_cons.mpr ⟨lw_p131, List.forall_mem_cons.mpr ⟨lw_p132, List.forall_mem_cons.mpr ⟨lw_p133, List.forall_mem_cons.mpr ⟨lw_p134, List.forall_mem_cons.mpr ⟨lw_p135, List.forall_mem_cons.mpr ⟨lw_p136, List.forall_mem_cons.mpr ⟨lw_p137, List.forall_mem_cons.mpr ⟨lw_p138, List.forall_mem_cons.mpr ⟨lw_p139, List.forall_mem_cons.mpr ⟨lw_p140, List.forall_mem_cons.mpr ⟨lw_p141, List.forall_mem_cons.mpr ⟨lw_p142, List.forall_mem_cons.mpr ⟨lw_p143, fun _ h => absurd h List.not_mem_nil⟩⟩⟩⟩⟩⟩⟩⟩⟩⟩⟩⟩⟩⟩⟩⟩
theorem lw_p144 : lw_okq (⟨"RhymeRingModel", "isVowel", "(I)Z"⟩, 83) := ⟨⟨by decide +kernel, by decide +kernel⟩, List.mem_of_getElem? (i := 1348) (by decide +kernel), List.mem_of_getElem? (i := 1429) (by decide +kernel), List.mem_of_getElem? (i := 1430) (by decide +kernel)⟩
theorem lw_p145 : lw_okq (⟨"RhymeRingModel", "isPair", "(I)Z"⟩, 83) := ⟨⟨by decide +kernel, by decide +kernel⟩, List.mem_of_getElem? (i := 1348) (by decide +kernel), List.mem_of_getElem? (i := 1433) (by decide +kernel), List.mem_of_getElem? (i := 1434) (by decide +kernel)⟩
theorem lw_p146 : lw_okq (⟨"RhymeRingModel", "muteEnd", "(II)I"⟩, 83) := ⟨⟨by decide +kernel, by decide +kernel⟩, List.mem_of_getElem? (i := 1348) (by decide +kernel), List.mem_of_getElem? (i := 1437) (by decide +kernel), List.mem_of_getElem? (i := 1438) (by decide +kernel)⟩
theorem lw_p147 : lw_okq (⟨"RhymeRingModel", "strongOf", "(I)I"⟩, 83) := ⟨⟨by decide +kernel, by decide +kernel⟩, List.mem_of_getElem? (i := 1348) (by decide +kernel), List.mem_of_getElem? (i := 1445) (by decide +kernel), List.mem_of_getElem? (i := 1446) (by decide +kernel)⟩
theorem lw_p148 : lw_okq (⟨"RhymeRingModel", "wordsOf", "(I)I"⟩, 83) := ⟨⟨by decide +kernel, by decide +kernel⟩, List.mem_of_getElem? (i := 1348) (by decide +kernel), List.mem_of_getElem? (i := 1453) (by decide +kernel), List.mem_of_getElem? (i := 1454) (by decide +kernel)⟩
theorem lw_p149 : lw_okq (⟨"RhymeRingModel", "takeWords", "(I[I)V"⟩, 83) := ⟨⟨by decide +kernel, by decide +kernel⟩, List.mem_of_getElem? (i := 1348) (by decide +kernel), List.mem_of_getElem? (i := 1457) (by decide +kernel), List.mem_of_getElem? (i := 1458) (by decide +kernel)⟩
theorem lw_p150 : lw_okq (⟨"RhymeRingModel", "line", "()Z"⟩, 83) := ⟨⟨by decide +kernel, by decide +kernel⟩, List.mem_of_getElem? (i := 1348) (by decide +kernel), List.mem_of_getElem? (i := 1469) (by decide +kernel), List.mem_of_getElem? (i := 1470) (by decide +kernel)⟩
theorem lw_p151 : lw_okq (⟨"RhymeRingModel", "isBeyond", "()Z"⟩, 83) := ⟨⟨by decide +kernel, by decide +kernel⟩, List.mem_of_getElem? (i := 1348) (by decide +kernel), List.mem_of_getElem? (i := 1473) (by decide +kernel), List.mem_of_getElem? (i := 1474) (by decide +kernel)⟩
theorem lw_p152 : lw_okq (⟨"RhymeRingModel", "bad", "()Z"⟩, 83) := ⟨⟨by decide +kernel, by decide +kernel⟩, List.mem_of_getElem? (i := 1348) (by decide +kernel), List.mem_of_getElem? (i := 1477) (by decide +kernel), List.mem_of_getElem? (i := 1478) (by decide +kernel)⟩
theorem lw_p153 : lw_okq (⟨"RhymeRingModel", "item", "(Z)Z"⟩, 83) := ⟨⟨by decide +kernel, by decide +kernel⟩, List.mem_of_getElem? (i := 1348) (by decide +kernel), List.mem_of_getElem? (i := 1481) (by decide +kernel), List.mem_of_getElem? (i := 1482) (by decide +kernel)⟩
theorem lw_p154 : lw_okq (⟨"RhymeRingModel", "has", "(I)Z"⟩, 83) := ⟨⟨by decide +kernel, by decide +kernel⟩, List.mem_of_getElem? (i := 1348) (by decide +kernel), List.mem_of_getElem? (i := 1489) (by decide +kernel), List.mem_of_getElem? (i := 1490) (by decide +kernel)⟩
theorem lw_p155 : lw_okq (⟨"RhymeRingModel", "countedOf", "(IZ)I"⟩, 83) := ⟨⟨by decide +kernel, by decide +kernel⟩, List.mem_of_getElem? (i := 1348) (by decide +kernel), List.mem_of_getElem? (i := 1501) (by decide +kernel), List.mem_of_getElem? (i := 1502) (by decide +kernel)⟩
theorem lw_p156 : lw_okq (⟨"RhymeRingModel", "counts", "(IZ)I"⟩, 83) := ⟨⟨by decide +kernel, by decide +kernel⟩, List.mem_of_getElem? (i := 1348) (by decide +kernel), List.mem_of_getElem? (i := 1505) (by decide +kernel), List.mem_of_getElem? (i := 1506) (by decide +kernel)⟩
theorem lw_p157 : lw_okq (⟨"RhymeRingModel", "feetOf", "(II[B)I"⟩, 83) := ⟨⟨by decide +kernel, by decide +kernel⟩, List.mem_of_getElem? (i := 1348) (by decide +kernel), List.mem_of_getElem? (i := 1513) (by decide +kernel), List.mem_of_getElem? (i := 1514) (by decide +kernel)⟩
theorem lw_p158 : lw_okq (⟨"RhymeRingModel", "throwsIf", "(Z)Z"⟩, 83) := ⟨⟨by decide +kernel, by decide +kernel⟩, List.mem_of_getElem? (i := 1348) (by decide +kernel), List.mem_of_getElem? (i := 1521) (by decide +kernel), List.mem_of_getElem? (i := 1522) (by decide +kernel)⟩
theorem lw_p159 : lw_okq (⟨"RhymeRingModel", "yardRule", "()Z"⟩, 83) := ⟨⟨by decide +kernel, by decide +kernel⟩, List.mem_of_getElem? (i := 1348) (by decide +kernel), List.mem_of_getElem? (i := 1533) (by decide +kernel), List.mem_of_getElem? (i := 1534) (by decide +kernel)⟩
def lw_privs_10 : List (MethodName × Nat) := [(⟨"RhymeRingModel", "isVowel", "(I)Z"⟩, 83), (⟨"RhymeRingModel", "isPair", "(I)Z"⟩, 83), (⟨"RhymeRingModel", "muteEnd", "(II)I"⟩, 83), (⟨"RhymeRingModel", "strongOf", "(I)I"⟩, 83), (⟨"RhymeRingModel", "wordsOf", "(I)I"⟩, 83), (⟨"RhymeRingModel", "takeWords", "(I[I)V"⟩, 83), (⟨"RhymeRingModel", "line", "()Z"⟩, 83), (⟨"RhymeRingModel", "isBeyond", "()Z"⟩, 83), (⟨"RhymeRingModel", "bad", "()Z"⟩, 83), (⟨"RhymeRingModel", "item", "(Z)Z"⟩, 83), (⟨"RhymeRingModel", "has", "(I)Z"⟩, 83), (⟨"RhymeRingModel", "countedOf", "(IZ)I"⟩, 83), (⟨"RhymeRingModel", "counts", "(IZ)I"⟩, 83), (⟨"RhymeRingModel", "feetOf", "(II[B)I"⟩, 83), (⟨"RhymeRingModel", "throwsIf", "(Z)Z"⟩, 83), (⟨"RhymeRingModel", "yardRule", "()Z"⟩, 83)]
theorem lw_r10 : ∀ q ∈ lw_privs_10, lw_okq q := List.forall_mem_cons.mpr ⟨lw_p144, List.forall_mem_cons.mpr ⟨lw_p145, List.forall_mem_cons.mpr ⟨lw_p146, List.forall_mem_cons.mpr ⟨lw_p147, List.forall_mem_cons.mpr ⟨lw_p148, List.forall_mem_cons.mpr ⟨lw_p149, List.forall_mem_cons.mpr ⟨lw_p150, List.forall_mem_cons.mpr ⟨lw_p151, List.forall_mem_cons.mpr ⟨lw_p152, List.forall_mem_cons.mpr ⟨lw_p153, List.forall_mem_cons.mpr ⟨lw_p154, List.forall_mem_cons.mpr ⟨lw_p155, List.forall_mem_cons.mpr ⟨lw_p156, List.forall_mem_cons.mpr ⟨lw_p157, List.forall_mem_cons.mpr ⟨lw_p158, List.forall_mem_cons.mpr ⟨lw_p159, fun _ h => absurd h List.not_mem_nil⟩⟩⟩⟩⟩⟩⟩⟩⟩⟩⟩⟩⟩⟩⟩⟩
theorem lw_p160 : lw_okq (⟨"RhymeRingModel", "choice", "(IJJJ)Z"⟩, 83) := ⟨⟨by decide +kernel, by decide +kernel⟩, List.mem_of_getElem? (i := 1348) (by decide +kernel), List.mem_of_getElem? (i := 1540) (by decide +kernel), List.mem_of_getElem? (i := 1541) (by decide +kernel)⟩
theorem lw_p161 : lw_okq (⟨"RhymeRingModel", "prepareYard", "()Z"⟩, 83) := ⟨⟨by decide +kernel, by decide +kernel⟩, List.mem_of_getElem? (i := 1348) (by decide +kernel), List.mem_of_getElem? (i := 1821) (by decide +kernel), List.mem_of_getElem? (i := 1822) (by decide +kernel)⟩
theorem lw_p162 : lw_okq (⟨"RhymeRingModel", "use", "(IIIII)V"⟩, 83) := ⟨⟨by decide +kernel, by decide +kernel⟩, List.mem_of_getElem? (i := 1348) (by decide +kernel), List.mem_of_getElem? (i := 1825) (by decide +kernel), List.mem_of_getElem? (i := 1826) (by decide +kernel)⟩
theorem lw_p163 : lw_okq (⟨"RhymeRingModel", "prepare", "()Z"⟩, 83) := ⟨⟨by decide +kernel, by decide +kernel⟩, List.mem_of_getElem? (i := 1348) (by decide +kernel), List.mem_of_getElem? (i := 1829) (by decide +kernel), List.mem_of_getElem? (i := 1830) (by decide +kernel)⟩
theorem lw_p164 : lw_okq (⟨"RhymeRingModel", "weigh", "(II)V"⟩, 83) := ⟨⟨by decide +kernel, by decide +kernel⟩, List.mem_of_getElem? (i := 1348) (by decide +kernel), List.mem_of_getElem? (i := 1833) (by decide +kernel), List.mem_of_getElem? (i := 1834) (by decide +kernel)⟩
theorem lw_p165 : lw_okq (⟨"RhymeRingModel", "isOverAtFirst", "()Z"⟩, 83) := ⟨⟨by decide +kernel, by decide +kernel⟩, List.mem_of_getElem? (i := 1348) (by decide +kernel), List.mem_of_getElem? (i := 1837) (by decide +kernel), List.mem_of_getElem? (i := 1838) (by decide +kernel)⟩
theorem lw_p166 : lw_okq (⟨"RhymeRingModel", "walk", "(IIII)V"⟩, 83) := ⟨⟨by decide +kernel, by decide +kernel⟩, List.mem_of_getElem? (i := 1348) (by decide +kernel), List.mem_of_getElem? (i := 1841) (by decide +kernel), List.mem_of_getElem? (i := 1842) (by decide +kernel)⟩
theorem lw_p167 : lw_okq (⟨"RhymeRingModel", "say", "(II)V"⟩, 83) := ⟨⟨by decide +kernel, by decide +kernel⟩, List.mem_of_getElem? (i := 1348) (by decide +kernel), List.mem_of_getElem? (i := 1845) (by decide +kernel), List.mem_of_getElem? (i := 1846) (by decide +kernel)⟩
theorem lw_p168 : lw_okq (⟨"RhymeRingModel", "personOf", "(I)I"⟩, 83) := ⟨⟨by decide +kernel, by decide +kernel⟩, List.mem_of_getElem? (i := 1348) (by decide +kernel), List.mem_of_getElem? (i := 1849) (by decide +kernel), List.mem_of_getElem? (i := 1850) (by decide +kernel)⟩
theorem lw_p169 : lw_okq (⟨"RhymeRingModel", "finish", "(IIIII)V"⟩, 83) := ⟨⟨by decide +kernel, by decide +kernel⟩, List.mem_of_getElem? (i := 1348) (by decide +kernel), List.mem_of_getElem? (i := 1853) (by decide +kernel), List.mem_of_getElem? (i := 1854) (by decide +kernel)⟩
theorem lw_p170 : lw_okq (⟨"RhymeRingModel", "peopleIn", "(I)I"⟩, 83) := ⟨⟨by decide +kernel, by decide +kernel⟩, List.mem_of_getElem? (i := 1348) (by decide +kernel), List.mem_of_getElem? (i := 1857) (by decide +kernel), List.mem_of_getElem? (i := 1858) (by decide +kernel)⟩
theorem lw_p171 : lw_okq (⟨"RhymeRingModel", "behind", "(III)I"⟩, 83) := ⟨⟨by decide +kernel, by decide +kernel⟩, List.mem_of_getElem? (i := 1348) (by decide +kernel), List.mem_of_getElem? (i := 1864) (by decide +kernel), List.mem_of_getElem? (i := 1865) (by decide +kernel)⟩
theorem lw_p172 : lw_okq (⟨"RhymeRingModel", "mayPlay", "(I)Z"⟩, 83) := ⟨⟨by decide +kernel, by decide +kernel⟩, List.mem_of_getElem? (i := 1348) (by decide +kernel), List.mem_of_getElem? (i := 1882) (by decide +kernel), List.mem_of_getElem? (i := 1883) (by decide +kernel)⟩
theorem lw_p173 : lw_okq (⟨"RhymeRingModel", "solve", "(I)V"⟩, 83) := ⟨⟨by decide +kernel, by decide +kernel⟩, List.mem_of_getElem? (i := 1348) (by decide +kernel), List.mem_of_getElem? (i := 1886) (by decide +kernel), List.mem_of_getElem? (i := 1887) (by decide +kernel)⟩
theorem lw_p174 : lw_okq (⟨"RhymeRingModel", "mark", "()V"⟩, 83) := ⟨⟨by decide +kernel, by decide +kernel⟩, List.mem_of_getElem? (i := 1348) (by decide +kernel), List.mem_of_getElem? (i := 1890) (by decide +kernel), List.mem_of_getElem? (i := 1891) (by decide +kernel)⟩
theorem lw_p175 : lw_okq (⟨"RhymeRingModel", "begin", "()I"⟩, 83) := ⟨⟨by decide +kernel, by decide +kernel⟩, List.mem_of_getElem? (i := 1348) (by decide +kernel), List.mem_of_getElem? (i := 1894) (by decide +kernel), List.mem_of_getElem? (i := 1895) (by decide +kernel)⟩
def lw_privs_11 : List (MethodName × Nat) := [(⟨"RhymeRingModel", "choice", "(IJJJ)Z"⟩, 83), (⟨"RhymeRingModel", "prepareYard", "()Z"⟩, 83), (⟨"RhymeRingModel", "use", "(IIIII)V"⟩, 83), (⟨"RhymeRingModel", "prepare", "()Z"⟩, 83), (⟨"RhymeRingModel", "weigh", "(II)V"⟩, 83), (⟨"RhymeRingModel", "isOverAtFirst", "()Z"⟩, 83), (⟨"RhymeRingModel", "walk", "(IIII)V"⟩, 83), (⟨"RhymeRingModel", "say", "(II)V"⟩, 83), (⟨"RhymeRingModel", "personOf", "(I)I"⟩, 83), (⟨"RhymeRingModel", "finish", "(IIIII)V"⟩, 83), (⟨"RhymeRingModel", "peopleIn", "(I)I"⟩, 83), (⟨"RhymeRingModel", "behind", "(III)I"⟩, 83), (⟨"RhymeRingModel", "mayPlay", "(I)Z"⟩, 83), (⟨"RhymeRingModel", "solve", "(I)V"⟩, 83), (⟨"RhymeRingModel", "mark", "()V"⟩, 83), (⟨"RhymeRingModel", "begin", "()I"⟩, 83)]
theorem lw_r11 : ∀ q ∈ lw_privs_11, lw_okq q := List.forall_mem_cons.mpr ⟨lw_p160, List.forall_mem_cons.mpr ⟨lw_p161, List.forall_mem_cons.mpr ⟨lw_p162, List.forall_mem_cons.mpr ⟨lw_p163, List.forall_mem_cons.mpr ⟨lw_p164, List.forall_mem_cons.mpr ⟨lw_p165, List.forall_mem_cons.mpr ⟨lw_p166, List.forall_mem_cons.mpr ⟨lw_p167, List.forall_mem_cons.mpr ⟨lw_p168, List.forall_mem_cons.mpr ⟨lw_p169, List.forall_mem_cons.mpr ⟨lw_p170, List.forall_mem_cons.mpr ⟨lw_p171, List.forall_mem_cons.mpr ⟨lw_p172, List.forall_mem_cons.mpr ⟨lw_p173, List.forall_mem_cons.mpr ⟨lw_p174, List.forall_mem_cons.mpr ⟨lw_p175, fun _ h => absurd h List.not_mem_nil⟩⟩⟩⟩⟩⟩⟩⟩⟩⟩⟩⟩⟩⟩⟩⟩
theorem lw_p176 : lw_okq (⟨"RhymeRingModel", "markFrom", "(I)V"⟩, 83) := ⟨⟨by decide +kernel, by decide +kernel⟩, List.mem_of_getElem? (i := 1348) (by decide +kernel), List.mem_of_getElem? (i := 1901) (by decide +kernel), List.mem_of_getElem? (i := 1902) (by decide +kernel)⟩
theorem lw_p177 : lw_okq (⟨"RhymeRingModel", "walkState", "(I)Z"⟩, 83) := ⟨⟨by decide +kernel, by decide +kernel⟩, List.mem_of_getElem? (i := 1348) (by decide +kernel), List.mem_of_getElem? (i := 1905) (by decide +kernel), List.mem_of_getElem? (i := 1906) (by decide +kernel)⟩
theorem lw_p178 : lw_okq (⟨"RhymeRingModel", "finishState", "(II)V"⟩, 83) := ⟨⟨by decide +kernel, by decide +kernel⟩, List.mem_of_getElem? (i := 1348) (by decide +kernel), List.mem_of_getElem? (i := 1918) (by decide +kernel), List.mem_of_getElem? (i := 1919) (by decide +kernel)⟩
theorem lw_p179 : lw_okq (⟨"RhymeRingModel", "answerIn", "(II)I"⟩, 83) := ⟨⟨by decide +kernel, by decide +kernel⟩, List.mem_of_getElem? (i := 1348) (by decide +kernel), List.mem_of_getElem? (i := 1922) (by decide +kernel), List.mem_of_getElem? (i := 1923) (by decide +kernel)⟩
theorem lw_p180 : lw_okq (⟨"RhymeRingModel", "leftBy", "()I"⟩, 83) := ⟨⟨by decide +kernel, by decide +kernel⟩, List.mem_of_getElem? (i := 1348) (by decide +kernel), List.mem_of_getElem? (i := 1926) (by decide +kernel), List.mem_of_getElem? (i := 1927) (by decide +kernel)⟩
theorem lw_p181 : lw_okq (⟨"RhymeRingModel", "isMet", "(II)Z"⟩, 83) := ⟨⟨by decide +kernel, by decide +kernel⟩, List.mem_of_getElem? (i := 1348) (by decide +kernel), List.mem_of_getElem? (i := 1930) (by decide +kernel), List.mem_of_getElem? (i := 1931) (by decide +kernel)⟩
theorem lw_p182 : lw_okq (⟨"RhymeRingModel", "waysOf", "(I)I"⟩, 83) := ⟨⟨by decide +kernel, by decide +kernel⟩, List.mem_of_getElem? (i := 1348) (by decide +kernel), List.mem_of_getElem? (i := 1946) (by decide +kernel), List.mem_of_getElem? (i := 1947) (by decide +kernel)⟩
theorem lw_p183 : lw_okq (⟨"RhymeRingModel", "isEven", "()Z"⟩, 83) := ⟨⟨by decide +kernel, by decide +kernel⟩, List.mem_of_getElem? (i := 1348) (by decide +kernel), List.mem_of_getElem? (i := 1960) (by decide +kernel), List.mem_of_getElem? (i := 1961) (by decide +kernel)⟩
theorem lw_p184 : lw_okq (⟨"RhymeRingModel", "changesOf", "(II)I"⟩, 83) := ⟨⟨by decide +kernel, by decide +kernel⟩, List.mem_of_getElem? (i := 1348) (by decide +kernel), List.mem_of_getElem? (i := 1968) (by decide +kernel), List.mem_of_getElem? (i := 1969) (by decide +kernel)⟩
theorem lw_p185 : lw_okq (⟨"RhymeRingModel", "lead", "(IIZ)V"⟩, 83) := ⟨⟨by decide +kernel, by decide +kernel⟩, List.mem_of_getElem? (i := 1348) (by decide +kernel), List.mem_of_getElem? (i := 1972) (by decide +kernel), List.mem_of_getElem? (i := 1973) (by decide +kernel)⟩
theorem lw_p186 : lw_okq (⟨"RhymeRingModel", "lineTo", "(IIII)I"⟩, 83) := ⟨⟨by decide +kernel, by decide +kernel⟩, List.mem_of_getElem? (i := 1348) (by decide +kernel), List.mem_of_getElem? (i := 1976) (by decide +kernel), List.mem_of_getElem? (i := 1977) (by decide +kernel)⟩
theorem lw_p187 : lw_okq (⟨"RhymeRingModel", "itemsOf", "(II)I"⟩, 83) := ⟨⟨by decide +kernel, by decide +kernel⟩, List.mem_of_getElem? (i := 1348) (by decide +kernel), List.mem_of_getElem? (i := 1980) (by decide +kernel), List.mem_of_getElem? (i := 1981) (by decide +kernel)⟩
theorem lw_p188 : lw_okq (⟨"RhymeRingModel", "isSame", "(IIIIII)Z"⟩, 83) := ⟨⟨by decide +kernel, by decide +kernel⟩, List.mem_of_getElem? (i := 1348) (by decide +kernel), List.mem_of_getElem? (i := 1984) (by decide +kernel), List.mem_of_getElem? (i := 1985) (by decide +kernel)⟩
theorem lw_p189 : lw_okq (⟨"RhymeRingModel", "leastOf", "(II)I"⟩, 83) := ⟨⟨by decide +kernel, by decide +kernel⟩, List.mem_of_getElem? (i := 1348) (by decide +kernel), List.mem_of_getElem? (i := 2000) (by decide +kernel), List.mem_of_getElem? (i := 2001) (by decide +kernel)⟩
theorem lw_p190 : lw_okq (⟨"RhymeRingModel", "isRecord", "()Z"⟩, 83) := ⟨⟨by decide +kernel, by decide +kernel⟩, List.mem_of_getElem? (i := 1348) (by decide +kernel), List.mem_of_getElem? (i := 2008) (by decide +kernel), List.mem_of_getElem? (i := 2009) (by decide +kernel)⟩
theorem lw_p191 : lw_okq (⟨"RhymeRingModel", "holdsTo", "()I"⟩, 83) := ⟨⟨by decide +kernel, by decide +kernel⟩, List.mem_of_getElem? (i := 1348) (by decide +kernel), List.mem_of_getElem? (i := 2012) (by decide +kernel), List.mem_of_getElem? (i := 2013) (by decide +kernel)⟩
def lw_privs_12 : List (MethodName × Nat) := [(⟨"RhymeRingModel", "markFrom", "(I)V"⟩, 83), (⟨"RhymeRingModel", "walkState", "(I)Z"⟩, 83), (⟨"RhymeRingModel", "finishState", "(II)V"⟩, 83), (⟨"RhymeRingModel", "answerIn", "(II)I"⟩, 83), (⟨"RhymeRingModel", "leftBy", "()I"⟩, 83), (⟨"RhymeRingModel", "isMet", "(II)Z"⟩, 83), (⟨"RhymeRingModel", "waysOf", "(I)I"⟩, 83), (⟨"RhymeRingModel", "isEven", "()Z"⟩, 83), (⟨"RhymeRingModel", "changesOf", "(II)I"⟩, 83), (⟨"RhymeRingModel", "lead", "(IIZ)V"⟩, 83), (⟨"RhymeRingModel", "lineTo", "(IIII)I"⟩, 83), (⟨"RhymeRingModel", "itemsOf", "(II)I"⟩, 83), (⟨"RhymeRingModel", "isSame", "(IIIIII)Z"⟩, 83), (⟨"RhymeRingModel", "leastOf", "(II)I"⟩, 83), (⟨"RhymeRingModel", "isRecord", "()Z"⟩, 83), (⟨"RhymeRingModel", "holdsTo", "()I"⟩, 83)]
theorem lw_r12 : ∀ q ∈ lw_privs_12, lw_okq q := List.forall_mem_cons.mpr ⟨lw_p176, List.forall_mem_cons.mpr ⟨lw_p177, List.forall_mem_cons.mpr ⟨lw_p178, List.forall_mem_cons.mpr ⟨lw_p179, List.forall_mem_cons.mpr ⟨lw_p180, List.forall_mem_cons.mpr ⟨lw_p181, List.forall_mem_cons.mpr ⟨lw_p182, List.forall_mem_cons.mpr ⟨lw_p183, List.forall_mem_cons.mpr ⟨lw_p184, List.forall_mem_cons.mpr ⟨lw_p185, List.forall_mem_cons.mpr ⟨lw_p186, List.forall_mem_cons.mpr ⟨lw_p187, List.forall_mem_cons.mpr ⟨lw_p188, List.forall_mem_cons.mpr ⟨lw_p189, List.forall_mem_cons.mpr ⟨lw_p190, List.forall_mem_cons.mpr ⟨lw_p191, fun _ h => absurd h List.not_mem_nil⟩⟩⟩⟩⟩⟩⟩⟩⟩⟩⟩⟩⟩⟩⟩⟩
def lw_privs : List (MethodName × Nat) := lw_privs_1 ++ (lw_privs_2 ++ (lw_privs_3 ++ (lw_privs_4 ++ (lw_privs_5 ++ (lw_privs_6 ++ (lw_privs_7 ++ (lw_privs_8 ++ (lw_privs_9 ++ (lw_privs_10 ++ (lw_privs_11 ++ (lw_privs_12)))))))))))
def lw_tbl : List Cond := k2_sels lw_privs ++ tables_1
theorem lw_privs_ok : ∀ q ∈ lw_privs, lw_okq q := by
  show ∀ q ∈ lw_privs_1 ++ (lw_privs_2 ++ (lw_privs_3 ++ (lw_privs_4 ++ (lw_privs_5 ++ (lw_privs_6 ++ (lw_privs_7 ++ (lw_privs_8 ++ (lw_privs_9 ++ (lw_privs_10 ++ (lw_privs_11 ++ (lw_privs_12))))))))))), lw_okq q
  exact List.forall_mem_append.mpr ⟨lw_r1, List.forall_mem_append.mpr ⟨lw_r2, List.forall_mem_append.mpr ⟨lw_r3, List.forall_mem_append.mpr ⟨lw_r4, List.forall_mem_append.mpr ⟨lw_r5, List.forall_mem_append.mpr ⟨lw_r6, List.forall_mem_append.mpr ⟨lw_r7, List.forall_mem_append.mpr ⟨lw_r8, List.forall_mem_append.mpr ⟨lw_r9, List.forall_mem_append.mpr ⟨lw_r10, List.forall_mem_append.mpr ⟨lw_r11, lw_r12⟩⟩⟩⟩⟩⟩⟩⟩⟩⟩⟩
-- ===== end of PART A; then your names; then what follows =====
def RX0 : String := "RhymeRing$Changes"
def TX0 : u_T := fun k => match k with
  | 0 => ("RhymeRing$Changes", "feetOfOne", "[C", true)
  | 1 => ("RhymeRing$Changes", "feetOfOther", "[C", true)
  | 2 => ("RhymeRing$Changes", "lineCost", "[[I", true)
  | 3 => ("RhymeRing$Changes", "sums", "[[I", true)
  | 4 => ("RhymeRing$Changes", "row", "[I", true)
  | 5 => ("RhymeRing$Changes", "ahead", "[[I", true)
  | _ => ("RhymeRing$Changes", "behind", "[[I", true)
def tyX0 : Nat → FieldType := fun k => match k with
  | 0 => .array .char
  | 1 => .array .char
  | 2 => .array (.array .int)
  | 3 => .array (.array .int)
  | 4 => .array .int
  | 5 => .array (.array .int)
  | _ => .array (.array .int)
abbrev wsX00 : List Cond := u_ws RX0 TX0 7
theorem nmX0 : ∀ a, a < 7 → ∀ b, b < 7 → a ≠ b → (TX0 a).2.1 ≠ (TX0 b).2.1 := by decide +kernel
theorem tyX0_ok : ∀ k, k < 7 → parseFieldDescriptor (TX0 k).2.2.1 = some (tyX0 k) := by decide +kernel
abbrev cX0_init : ByteArray := prog_2_method_1_code
def yX0_init : MethodName := ⟨RX0, "<init>", "()V"⟩
abbrev cX0_likeLines : ByteArray := prog_2_method_2_code
def yX0_likeLines : MethodName := ⟨RX0, "likeLines", "(LRhymeRing$Rhyme;LRhymeRing$Rhyme;LRhymeRing$Tongue;)I"⟩
abbrev cX0_isLikeLine : ByteArray := prog_2_method_3_code
def yX0_isLikeLine : MethodName := ⟨RX0, "isLikeLine", "(LRhymeRing$Rhyme;LRhymeRing$Rhyme;ILRhymeRing$Tongue;)Z"⟩
abbrev cX0_between : ByteArray := prog_2_method_4_code
def yX0_between : MethodName := ⟨RX0, "between", "(LRhymeRing$Rhyme;LRhymeRing$Rhyme;)I"⟩
abbrev cX0_weighLines : ByteArray := prog_2_method_5_code
def yX0_weighLines : MethodName := ⟨RX0, "weighLines", "(LRhymeRing$Rhyme;LRhymeRing$Rhyme;)V"⟩
abbrev cX0_itemChanges : ByteArray := prog_2_method_6_code
def yX0_itemChanges : MethodName := ⟨RX0, "itemChanges", "(LRhymeRing$Rhyme;ILRhymeRing$Rhyme;I)I"⟩
abbrev cX0_sumForward : ByteArray := prog_2_method_7_code
def yX0_sumForward : MethodName := ⟨RX0, "sumForward", "(LRhymeRing$Rhyme;LRhymeRing$Rhyme;)V"⟩
abbrev cX0_sumBackward : ByteArray := prog_2_method_8_code
def yX0_sumBackward : MethodName := ⟨RX0, "sumBackward", "(LRhymeRing$Rhyme;LRhymeRing$Rhyme;)V"⟩
abbrev cX0_weighParts : ByteArray := prog_2_method_9_code
def yX0_weighParts : MethodName := ⟨RX0, "weighParts", "(ILRhymeRing$Rhyme;LRhymeRing$Rhyme;)V"⟩
abbrev cX0_takeLeast : ByteArray := prog_2_method_10_code
def yX0_takeLeast : MethodName := ⟨RX0, "takeLeast", "(LRhymeRing$Rhyme;LRhymeRing$Rhyme;[I)V"⟩
abbrev cX0_mixtureCost : ByteArray := prog_2_method_11_code
def yX0_mixtureCost : MethodName := ⟨RX0, "mixtureCost", "(III)I"⟩
abbrev cX0_bestCut : ByteArray := prog_2_method_12_code
def yX0_bestCut : MethodName := ⟨RX0, "bestCut", "(III)I"⟩
def RX1 : String := "RhymeRing$Chant"
def TX1 : u_T := fun k => match k with
  | 0 => ("RhymeRing$Chant", "gaps", "[I", true)
  | 1 => ("RhymeRing$Chant", "gapsFrom", "[I", true)
  | 2 => ("RhymeRing$Chant", "times", "[I", true)
  | 3 => ("RhymeRing$Chant", "lines", "I", false)
  | 4 => ("RhymeRing$Chant", "rests", "I", false)
  | _ => ("RhymeRing$Chant", "asks", "Z", false)
def tyX1 : Nat → FieldType := fun k => match k with
  | 0 => .array .int
  | 1 => .array .int
  | 2 => .array .int
  | 3 => .int
  | 4 => .int
  | _ => .boolean
abbrev wsX10 : List Cond := u_ws RX1 TX1 6
theorem nmX1 : ∀ a, a < 6 → ∀ b, b < 6 → a ≠ b → (TX1 a).2.1 ≠ (TX1 b).2.1 := by decide +kernel
theorem tyX1_ok : ∀ k, k < 6 → parseFieldDescriptor (TX1 k).2.2.1 = some (tyX1 k) := by decide +kernel
abbrev cX1_init : ByteArray := prog_3_method_1_code
def yX1_init : MethodName := ⟨RX1, "<init>", "()V"⟩
abbrev cX1_learn : ByteArray := prog_3_method_2_code
def yX1_learn : MethodName := ⟨RX1, "learn", "(LRhymeRing$Rhyme;Z)V"⟩
abbrev cX1_learnLine : ByteArray := prog_3_method_3_code
def yX1_learnLine : MethodName := ⟨RX1, "learnLine", "(LRhymeRing$Rhyme;IIZ)I"⟩
abbrev cX1_putGap : ByteArray := prog_3_method_4_code
def yX1_putGap : MethodName := ⟨RX1, "putGap", "(II)I"⟩
abbrev cX1_gapAt : ByteArray := prog_3_method_5_code
def yX1_gapAt : MethodName := ⟨RX1, "gapAt", "(I)I"⟩
def RX2 : String := "RhymeRing$Game"
def TX2 : u_T := fun k => match k with
  | 0 => ("RhymeRing$Game", "ring", "LRhymeRing$Ring;", true)
  | 1 => ("RhymeRing$Game", "worth", "[I", true)
  | 2 => ("RhymeRing$Game", "mark", "[I", true)
  | 3 => ("RhymeRing$Game", "now", "I", false)
  | 4 => ("RhymeRing$Game", "shares", "[I", true)
  | 5 => ("RhymeRing$Game", "wantsLeft", "Z", false)
  | 6 => ("RhymeRing$Game", "seers", "I", false)
  | _ => ("RhymeRing$Game", "judge", "I", false)
def tyX2 : Nat → FieldType := fun k => match k with
  | 0 => .object "RhymeRing$Ring"
  | 1 => .array .int
  | 2 => .array .int
  | 3 => .int
  | 4 => .array .int
  | 5 => .boolean
  | 6 => .int
  | _ => .int
abbrev wsX20 : List Cond := u_ws RX2 TX2 8
theorem nmX2 : ∀ a, a < 8 → ∀ b, b < 8 → a ≠ b → (TX2 a).2.1 ≠ (TX2 b).2.1 := by decide +kernel
theorem tyX2_ok : ∀ k, k < 8 → parseFieldDescriptor (TX2 k).2.2.1 = some (tyX2 k) := by decide +kernel
abbrev cX2_init : ByteArray := prog_4_method_1_code
def yX2_init : MethodName := ⟨RX2, "<init>", "()V"⟩
abbrev cX2_key : ByteArray := prog_4_method_2_code
def yX2_key : MethodName := ⟨RX2, "key", "(II)I"⟩
abbrev cX2_isKey : ByteArray := prog_4_method_3_code
def yX2_isKey : MethodName := ⟨RX2, "isKey", "(I)Z"⟩
abbrev cX2_hitsBefore : ByteArray := prog_4_method_4_code
def yX2_hitsBefore : MethodName := ⟨RX2, "hitsBefore", "(I)I"⟩
abbrev cX2_leftBy : ByteArray := prog_4_method_5_code
def yX2_leftBy : MethodName := ⟨RX2, "leftBy", "(IZ)I"⟩
abbrev cX2_isSure : ByteArray := prog_4_method_6_code
def yX2_isSure : MethodName := ⟨RX2, "isSure", "(IZ)Z"⟩
abbrev cX2_firstAnswer : ByteArray := prog_4_method_7_code
def yX2_firstAnswer : MethodName := ⟨RX2, "firstAnswer", "(IZ)I"⟩
abbrev cX2_setOut : ByteArray := prog_4_method_8_code
def yX2_setOut : MethodName := ⟨RX2, "setOut", "(IIZ)V"⟩
abbrev cX2_sees : ByteArray := prog_4_method_9_code
def yX2_sees : MethodName := ⟨RX2, "sees", "(I)Z"⟩
abbrev cX2_meets : ByteArray := prog_4_method_10_code
def yX2_meets : MethodName := ⟨RX2, "meets", "(II)Z"⟩
abbrev cX2_endWorth : ByteArray := prog_4_method_11_code
def yX2_endWorth : MethodName := ⟨RX2, "endWorth", "(I)I"⟩
abbrev cX2_worthOf : ByteArray := prog_4_method_12_code
def yX2_worthOf : MethodName := ⟨RX2, "worthOf", "(III)I"⟩
abbrev cX2_worthAfter : ByteArray := prog_4_method_13_code
def yX2_worthAfter : MethodName := ⟨RX2, "worthAfter", "(IIII)I"⟩
abbrev cX2_isSettled : ByteArray := prog_4_method_14_code
def yX2_isSettled : MethodName := ⟨RX2, "isSettled", "(II)Z"⟩
abbrev cX2_better : ByteArray := prog_4_method_15_code
def yX2_better : MethodName := ⟨RX2, "better", "(III)I"⟩
abbrev cX2_wholeShare : ByteArray := prog_4_method_16_code
def yX2_wholeShare : MethodName := ⟨RX2, "wholeShare", "()I"⟩
abbrev cX2_shareOf : ByteArray := prog_4_method_17_code
def yX2_shareOf : MethodName := ⟨RX2, "shareOf", "(I)I"⟩
abbrev cX2_areSharesEven : ByteArray := prog_4_method_18_code
def yX2_areSharesEven : MethodName := ⟨RX2, "areSharesEven", "()Z"⟩
abbrev cX2_reckonShares : ByteArray := prog_4_method_19_code
def yX2_reckonShares : MethodName := ⟨RX2, "reckonShares", "()V"⟩
abbrev cX2_add : ByteArray := prog_4_method_20_code
def yX2_add : MethodName := ⟨RX2, "add", "(III)V"⟩
abbrev cX2_pass : ByteArray := prog_4_method_21_code
def yX2_pass : MethodName := ⟨RX2, "pass", "(III)V"⟩
abbrev cX2_giveTo : ByteArray := prog_4_method_22_code
def yX2_giveTo : MethodName := ⟨RX2, "giveTo", "(II)V"⟩
abbrev cX2_follow : ByteArray := prog_4_method_23_code
def yX2_follow : MethodName := ⟨RX2, "follow", "([CI)I"⟩
abbrev cX2_followFrom : ByteArray := prog_4_method_24_code
def yX2_followFrom : MethodName := ⟨RX2, "followFrom", "(II[CI)I"⟩
def RX3 : String := "RhymeRing$Rhyme"
def TX3 : u_T := fun k => match k with
  | 0 => ("RhymeRing$Rhyme", "text", "[C", true)
  | 1 => ("RhymeRing$Rhyme", "length", "I", false)
  | 2 => ("RhymeRing$Rhyme", "itemFrom", "[I", true)
  | 3 => ("RhymeRing$Rhyme", "itemKind", "[I", true)
  | 4 => ("RhymeRing$Rhyme", "itemBeats", "[I", true)
  | 5 => ("RhymeRing$Rhyme", "items", "I", false)
  | 6 => ("RhymeRing$Rhyme", "lineFrom", "[I", true)
  | 7 => ("RhymeRing$Rhyme", "lines", "I", false)
  | 8 => ("RhymeRing$Rhyme", "day", "I", false)
  | 9 => ("RhymeRing$Rhyme", "there", "Z", false)
  | 10 => ("RhymeRing$Rhyme", "fault", "I", false)
  | 11 => ("RhymeRing$Rhyme", "state", "I", false)
  | 12 => ("RhymeRing$Rhyme", "letters", "I", false)
  | 13 => ("RhymeRing$Rhyme", "timed", "Z", false)
  | _ => ("RhymeRing$Rhyme", "sounds", "Z", false)
def tyX3 : Nat → FieldType := fun k => match k with
  | 0 => .array .char
  | 1 => .int
  | 2 => .array .int
  | 3 => .array .int
  | 4 => .array .int
  | 5 => .int
  | 6 => .array .int
  | 7 => .int
  | 8 => .int
  | 9 => .boolean
  | 10 => .int
  | 11 => .int
  | 12 => .int
  | 13 => .boolean
  | _ => .boolean
abbrev wsX30 : List Cond := u_ws RX3 TX3 15
theorem nmX3 : ∀ a, a < 15 → ∀ b, b < 15 → a ≠ b → (TX3 a).2.1 ≠ (TX3 b).2.1 := by decide +kernel
theorem tyX3_ok : ∀ k, k < 15 → parseFieldDescriptor (TX3 k).2.2.1 = some (tyX3 k) := by decide +kernel
abbrev cX3_init : ByteArray := prog_5_method_1_code
def yX3_init : MethodName := ⟨RX3, "<init>", "()V"⟩
abbrev cX3_read : ByteArray := prog_5_method_2_code
def yX3_read : MethodName := ⟨RX3, "read", "([CI)I"⟩
abbrev cX3_refuse : ByteArray := prog_5_method_3_code
def yX3_refuse : MethodName := ⟨RX3, "refuse", "(II)I"⟩
abbrev cX3_take : ByteArray := prog_5_method_4_code
def yX3_take : MethodName := ⟨RX3, "take", "(CI)I"⟩
abbrev cX3_takeFirst : ByteArray := prog_5_method_5_code
def yX3_takeFirst : MethodName := ⟨RX3, "takeFirst", "(CI)I"⟩
abbrev cX3_takeItem : ByteArray := prog_5_method_6_code
def yX3_takeItem : MethodName := ⟨RX3, "takeItem", "(CI)I"⟩
abbrev cX3_kindFrom : ByteArray := prog_5_method_7_code
def yX3_kindFrom : MethodName := ⟨RX3, "kindFrom", "(C)I"⟩
abbrev cX3_takeInWord : ByteArray := prog_5_method_8_code
def yX3_takeInWord : MethodName := ⟨RX3, "takeInWord", "(C)I"⟩
abbrev cX3_takeBehind : ByteArray := prog_5_method_9_code
def yX3_takeBehind : MethodName := ⟨RX3, "takeBehind", "(C)I"⟩
abbrev cX3_beginItem : ByteArray := prog_5_method_10_code
def yX3_beginItem : MethodName := ⟨RX3, "beginItem", "(II)V"⟩
abbrev cX3_spellItem : ByteArray := prog_5_method_11_code
def yX3_spellItem : MethodName := ⟨RX3, "spellItem", "()V"⟩
abbrev cX3_endLine : ByteArray := prog_5_method_12_code
def yX3_endLine : MethodName := ⟨RX3, "endLine", "()V"⟩
abbrev cX3_hasLine : ByteArray := prog_5_method_13_code
def yX3_hasLine : MethodName := ⟨RX3, "hasLine", "(I)Z"⟩
abbrev cX3_firstItem : ByteArray := prog_5_method_14_code
def yX3_firstItem : MethodName := ⟨RX3, "firstItem", "(I)I"⟩
abbrev cX3_itemsIn : ByteArray := prog_5_method_15_code
def yX3_itemsIn : MethodName := ⟨RX3, "itemsIn", "(I)I"⟩
abbrev cX3_start : ByteArray := prog_5_method_16_code
def yX3_start : MethodName := ⟨RX3, "start", "(I)I"⟩
abbrev cX3_size : ByteArray := prog_5_method_17_code
def yX3_size : MethodName := ⟨RX3, "size", "(I)I"⟩
abbrev cX3_byteAt : ByteArray := prog_5_method_18_code
def yX3_byteAt : MethodName := ⟨RX3, "byteAt", "(I)C"⟩
abbrev cX3_kindOf : ByteArray := prog_5_method_19_code
def yX3_kindOf : MethodName := ⟨RX3, "kindOf", "(I)I"⟩
abbrev cX3_isSameItem : ByteArray := prog_5_method_20_code
def yX3_isSameItem : MethodName := ⟨RX3, "isSameItem", "(ILRhymeRing$Rhyme;I)Z"⟩
abbrev cX3_timesOf : ByteArray := prog_5_method_21_code
def yX3_timesOf : MethodName := ⟨RX3, "timesOf", "(I)I"⟩
abbrev cX3_hasAsk : ByteArray := prog_5_method_22_code
def yX3_hasAsk : MethodName := ⟨RX3, "hasAsk", "()Z"⟩
abbrev cX3_hasNameOrAsk : ByteArray := prog_5_method_23_code
def yX3_hasNameOrAsk : MethodName := ⟨RX3, "hasNameOrAsk", "()Z"⟩
abbrev cX3_measure : ByteArray := prog_5_method_24_code
def yX3_measure : MethodName := ⟨RX3, "measure", "(LRhymeRing$Tongue;)V"⟩
abbrev cX3_countOf : ByteArray := prog_5_method_25_code
def yX3_countOf : MethodName := ⟨RX3, "countOf", "(IZ)I"⟩
abbrev cX3_total : ByteArray := prog_5_method_26_code
def yX3_total : MethodName := ⟨RX3, "total", "(Z)I"⟩
abbrev cX3_feetInto : ByteArray := prog_5_method_27_code
def yX3_feetInto : MethodName := ⟨RX3, "feetInto", "(ILRhymeRing$Tongue;[C)I"⟩
def RX4 : String := "RhymeRing$Ring"
def TX4 : u_T := fun k => match k with
  | 0 => ("RhymeRing$Ring", "chants", "[LRhymeRing$Chant;", true)
  | 1 => ("RhymeRing$Ring", "order", "[I", true)
  | 2 => ("RhymeRing$Ring", "orderCount", "I", false)
  | 3 => ("RhymeRing$Ring", "nameBeats", "[I", true)
  | 4 => ("RhymeRing$Ring", "letters", "[I", true)
  | 5 => ("RhymeRing$Ring", "answerCount", "I", false)
  | 6 => ("RhymeRing$Ring", "row", "[I", true)
  | 7 => ("RhymeRing$Ring", "rowSize", "I", false)
  | 8 => ("RhymeRing$Ring", "asked", "[I", true)
  | 9 => ("RhymeRing$Ring", "struck", "[[I", true)
  | 10 => ("RhymeRing$Ring", "persons", "I", false)
  | 11 => ("RhymeRing$Ring", "perPerson", "I", false)
  | 12 => ("RhymeRing$Ring", "hands", "I", false)
  | 13 => ("RhymeRing$Ring", "leftMost", "I", false)
  | 14 => ("RhymeRing$Ring", "nextFrom", "I", false)
  | 15 => ("RhymeRing$Ring", "beats", "Z", false)
  | 16 => ("RhymeRing$Ring", "stays", "Z", false)
  | _ => ("RhymeRing$Ring", "turns", "Z", false)
def tyX4 : Nat → FieldType := fun k => match k with
  | 0 => .array (.object "RhymeRing$Chant")
  | 1 => .array .int
  | 2 => .int
  | 3 => .array .int
  | 4 => .array .int
  | 5 => .int
  | 6 => .array .int
  | 7 => .int
  | 8 => .array .int
  | 9 => .array (.array .int)
  | 10 => .int
  | 11 => .int
  | 12 => .int
  | 13 => .int
  | 14 => .int
  | 15 => .boolean
  | 16 => .boolean
  | _ => .boolean
abbrev wsX40 : List Cond := u_ws RX4 TX4 18
theorem nmX4 : ∀ a, a < 18 → ∀ b, b < 18 → a ≠ b → (TX4 a).2.1 ≠ (TX4 b).2.1 := by decide +kernel
theorem tyX4_ok : ∀ k, k < 18 → parseFieldDescriptor (TX4 k).2.2.1 = some (tyX4 k) := by decide +kernel
abbrev cX4_init : ByteArray := prog_6_method_1_code
def yX4_init : MethodName := ⟨RX4, "<init>", "()V"⟩
abbrev cX4_gather : ByteArray := prog_6_method_2_code
def yX4_gather : MethodName := ⟨RX4, "gather", "(LRhymeRing$Yard;LRhymeRing$Words;LRhymeRing$Words;)V"⟩
abbrev cX4_learn : ByteArray := prog_6_method_3_code
def yX4_learn : MethodName := ⟨RX4, "learn", "(ILRhymeRing$Rhyme;)V"⟩
abbrev cX4_useOnly : ByteArray := prog_6_method_4_code
def yX4_useOnly : MethodName := ⟨RX4, "useOnly", "(I)V"⟩
abbrev cX4_rest : ByteArray := prog_6_method_5_code
def yX4_rest : MethodName := ⟨RX4, "rest", "(II)V"⟩
abbrev cX4_chantOf : ByteArray := prog_6_method_6_code
def yX4_chantOf : MethodName := ⟨RX4, "chantOf", "(I)LRhymeRing$Chant;"⟩
abbrev cX4_isTooGreat : ByteArray := prog_6_method_7_code
def yX4_isTooGreat : MethodName := ⟨RX4, "isTooGreat", "()Z"⟩
abbrev cX4_allHands : ByteArray := prog_6_method_8_code
def yX4_allHands : MethodName := ⟨RX4, "allHands", "()I"⟩
abbrev cX4_ownerOf : ByteArray := prog_6_method_9_code
def yX4_ownerOf : MethodName := ⟨RX4, "ownerOf", "(I)I"⟩
abbrev cX4_owners : ByteArray := prog_6_method_10_code
def yX4_owners : MethodName := ⟨RX4, "owners", "(I)I"⟩
abbrev cX4_isOver : ByteArray := prog_6_method_11_code
def yX4_isOver : MethodName := ⟨RX4, "isOver", "(I)Z"⟩
abbrev cX4_isIn : ByteArray := prog_6_method_12_code
def yX4_isIn : MethodName := ⟨RX4, "isIn", "(II)Z"⟩
abbrev cX4_beside : ByteArray := prog_6_method_13_code
def yX4_beside : MethodName := ⟨RX4, "beside", "(II)I"⟩
abbrev cX4_nextIn : ByteArray := prog_6_method_14_code
def yX4_nextIn : MethodName := ⟨RX4, "nextIn", "(III)I"⟩
abbrev cX4_nextBegin : ByteArray := prog_6_method_15_code
def yX4_nextBegin : MethodName := ⟨RX4, "nextBegin", "(IIII)I"⟩
abbrev cX4_lineUp : ByteArray := prog_6_method_16_code
def yX4_lineUp : MethodName := ⟨RX4, "lineUp", "(III)V"⟩
abbrev cX4_handAt : ByteArray := prog_6_method_17_code
def yX4_handAt : MethodName := ⟨RX4, "handAt", "(I)I"⟩
abbrev cX4_reckon : ByteArray := prog_6_method_18_code
def yX4_reckon : MethodName := ⟨RX4, "reckon", "(III)I"⟩
abbrev cX4_sayAll : ByteArray := prog_6_method_19_code
def yX4_sayAll : MethodName := ⟨RX4, "sayAll", "(LRhymeRing$Chant;)I"⟩
abbrev cX4_sayLine : ByteArray := prog_6_method_20_code
def yX4_sayLine : MethodName := ⟨RX4, "sayLine", "(LRhymeRing$Chant;III)I"⟩
abbrev cX4_beatsOfName : ByteArray := prog_6_method_21_code
def yX4_beatsOfName : MethodName := ⟨RX4, "beatsOfName", "(I)I"⟩
abbrev cX4_askerOf : ByteArray := prog_6_method_22_code
def yX4_askerOf : MethodName := ⟨RX4, "askerOf", "(I)I"⟩
abbrev cX4_handHit : ByteArray := prog_6_method_23_code
def yX4_handHit : MethodName := ⟨RX4, "handHit", "(II)I"⟩
def RX5 : String := "RhymeRing$Rules"
def TX5 : u_T := fun k => match k with
  | _ => ("", "", "", false)
def tyX5 : Nat → FieldType := fun k => match k with
  | _ => .int
abbrev wsX50 : List Cond := u_ws RX5 TX5 0
theorem nmX5 : ∀ a, a < 0 → ∀ b, b < 0 → a ≠ b → (TX5 a).2.1 ≠ (TX5 b).2.1 := by decide +kernel
theorem tyX5_ok : ∀ k, k < 0 → parseFieldDescriptor (TX5 k).2.2.1 = some (tyX5 k) := by decide +kernel
abbrev cX5_init : ByteArray := prog_7_method_1_code
def yX5_init : MethodName := ⟨RX5, "<init>", "()V"⟩
abbrev cX5_read : ByteArray := prog_7_method_4_code
def yX5_read : MethodName := ⟨RX5, "read", "(LRhymeRing$Tokens;Ljava/lang/String;I)I"⟩
def RX6 : String := "RhymeRing$Tape"
def TX6 : u_T := fun k => match k with
  | 0 => ("RhymeRing$Tape", "bytes", "[C", true)
  | _ => ("RhymeRing$Tape", "length", "I", false)
def tyX6 : Nat → FieldType := fun k => match k with
  | 0 => .array .char
  | _ => .int
abbrev wsX60 : List Cond := u_ws RX6 TX6 2
theorem nmX6 : ∀ a, a < 2 → ∀ b, b < 2 → a ≠ b → (TX6 a).2.1 ≠ (TX6 b).2.1 := by decide +kernel
theorem tyX6_ok : ∀ k, k < 2 → parseFieldDescriptor (TX6 k).2.2.1 = some (tyX6 k) := by decide +kernel
abbrev cX6_init : ByteArray := prog_8_method_1_code
def yX6_init : MethodName := ⟨RX6, "<init>", "()V"⟩
abbrev cX6_put : ByteArray := prog_8_method_2_code
def yX6_put : MethodName := ⟨RX6, "put", "(I)V"⟩
abbrev cX6_take : ByteArray := prog_8_method_3_code
def yX6_take : MethodName := ⟨RX6, "take", "()I"⟩
abbrev cX6_isWord : ByteArray := prog_8_method_4_code
def yX6_isWord : MethodName := ⟨RX6, "isWord", "(I)Z"⟩
abbrev cX6_isBelow : ByteArray := prog_8_method_5_code
def yX6_isBelow : MethodName := ⟨RX6, "isBelow", "(II)Z"⟩
abbrev cX6_byteOr : ByteArray := prog_8_method_6_code
def yX6_byteOr : MethodName := ⟨RX6, "byteOr", "(III)I"⟩
def RX7 : String := "RhymeRing$Tokens"
def TX7 : u_T := fun k => match k with
  | 0 => ("RhymeRing$Tokens", "text", "[C", false)
  | 1 => ("RhymeRing$Tokens", "length", "I", false)
  | 2 => ("RhymeRing$Tokens", "start", "I", false)
  | 3 => ("RhymeRing$Tokens", "after", "I", false)
  | 4 => ("RhymeRing$Tokens", "kind", "I", false)
  | _ => ("RhymeRing$Tokens", "fault", "I", false)
def tyX7 : Nat → FieldType := fun k => match k with
  | 0 => .array .char
  | 1 => .int
  | 2 => .int
  | 3 => .int
  | 4 => .int
  | _ => .int
abbrev wsX70 : List Cond := u_ws RX7 TX7 6
theorem nmX7 : ∀ a, a < 6 → ∀ b, b < 6 → a ≠ b → (TX7 a).2.1 ≠ (TX7 b).2.1 := by decide +kernel
theorem tyX7_ok : ∀ k, k < 6 → parseFieldDescriptor (TX7 k).2.2.1 = some (tyX7 k) := by decide +kernel
abbrev cX7_init : ByteArray := prog_9_method_1_code
def yX7_init : MethodName := ⟨RX7, "<init>", "()V"⟩
abbrev cX7_open : ByteArray := prog_9_method_2_code
def yX7_open : MethodName := ⟨RX7, "open", "([CI)V"⟩
abbrev cX7_step : ByteArray := prog_9_method_3_code
def yX7_step : MethodName := ⟨RX7, "step", "()V"⟩
abbrev cX7_kindOfRun : ByteArray := prog_9_method_4_code
def yX7_kindOfRun : MethodName := ⟨RX7, "kindOfRun", "(II)I"⟩
abbrev cX7_size : ByteArray := prog_9_method_5_code
def yX7_size : MethodName := ⟨RX7, "size", "()I"⟩
abbrev cX7_digit : ByteArray := prog_9_method_6_code
def yX7_digit : MethodName := ⟨RX7, "digit", "()I"⟩
abbrev cX7_pick : ByteArray := prog_9_method_7_code
def yX7_pick : MethodName := ⟨RX7, "pick", "(Ljava/lang/String;)I"⟩
abbrev cX7_spells : ByteArray := prog_9_method_8_code
def yX7_spells : MethodName := ⟨RX7, "spells", "(Ljava/lang/String;II)Z"⟩
abbrev cX7_refuse : ByteArray := prog_9_method_9_code
def yX7_refuse : MethodName := ⟨RX7, "refuse", "(I)Z"⟩
abbrev cX7_refuseHere : ByteArray := prog_9_method_10_code
def yX7_refuseHere : MethodName := ⟨RX7, "refuseHere", "()Z"⟩
abbrev cX7_passStop : ByteArray := prog_9_method_11_code
def yX7_passStop : MethodName := ⟨RX7, "passStop", "()Z"⟩
abbrev cX7_passRule : ByteArray := prog_9_method_12_code
def yX7_passRule : MethodName := ⟨RX7, "passRule", "(Ljava/lang/String;I)I"⟩
def RX8 : String := "RhymeRing$Tongue"
def TX8 : u_T := fun k => match k with
  | 0 => ("RhymeRing$Tongue", "vowels", "I", false)
  | 1 => ("RhymeRing$Tongue", "joined", "[I", true)
  | 2 => ("RhymeRing$Tongue", "joinedCount", "I", false)
  | 3 => ("RhymeRing$Tongue", "mute", "[I", true)
  | 4 => ("RhymeRing$Tongue", "muteCount", "I", false)
  | _ => ("RhymeRing$Tongue", "strongOne", "I", false)
def tyX8 : Nat → FieldType := fun k => match k with
  | 0 => .int
  | 1 => .array .int
  | 2 => .int
  | 3 => .array .int
  | 4 => .int
  | _ => .int
abbrev wsX80 : List Cond := u_ws RX8 TX8 6
theorem nmX8 : ∀ a, a < 6 → ∀ b, b < 6 → a ≠ b → (TX8 a).2.1 ≠ (TX8 b).2.1 := by decide +kernel
theorem tyX8_ok : ∀ k, k < 6 → parseFieldDescriptor (TX8 k).2.2.1 = some (tyX8 k) := by decide +kernel
abbrev cX8_init : ByteArray := prog_10_method_1_code
def yX8_init : MethodName := ⟨RX8, "<init>", "()V"⟩
abbrev cX8_reset : ByteArray := prog_10_method_2_code
def yX8_reset : MethodName := ⟨RX8, "reset", "()V"⟩
abbrev cX8_readRule : ByteArray := prog_10_method_3_code
def yX8_readRule : MethodName := ⟨RX8, "readRule", "(ILRhymeRing$Tokens;)Z"⟩
abbrev cX8_readVowels : ByteArray := prog_10_method_4_code
def yX8_readVowels : MethodName := ⟨RX8, "readVowels", "(LRhymeRing$Tokens;)Z"⟩
abbrev cX8_readStrong : ByteArray := prog_10_method_5_code
def yX8_readStrong : MethodName := ⟨RX8, "readStrong", "(LRhymeRing$Tokens;)Z"⟩
abbrev cX8_readParts : ByteArray := prog_10_method_6_code
def yX8_readParts : MethodName := ⟨RX8, "readParts", "(LRhymeRing$Tokens;[III)I"⟩
abbrev cX8_packed : ByteArray := prog_10_method_7_code
def yX8_packed : MethodName := ⟨RX8, "packed", "([CII)I"⟩
abbrev cX8_isAmong : ByteArray := prog_10_method_8_code
def yX8_isAmong : MethodName := ⟨RX8, "isAmong", "([III)Z"⟩
abbrev cX8_beatsIn : ByteArray := prog_10_method_9_code
def yX8_beatsIn : MethodName := ⟨RX8, "beatsIn", "([CII)I"⟩
abbrev cX8_vowelBeats : ByteArray := prog_10_method_10_code
def yX8_vowelBeats : MethodName := ⟨RX8, "vowelBeats", "([CII)I"⟩
abbrev cX8_mutedLetters : ByteArray := prog_10_method_11_code
def yX8_mutedLetters : MethodName := ⟨RX8, "mutedLetters", "([CII)I"⟩
abbrev cX8_strongOf : ByteArray := prog_10_method_12_code
def yX8_strongOf : MethodName := ⟨RX8, "strongOf", "(I)I"⟩
def RX9 : String := "RhymeRing$Words"
def TX9 : u_T := fun k => match k with
  | 0 => ("RhymeRing$Words", "letters", "[C", true)
  | 1 => ("RhymeRing$Words", "from", "[I", true)
  | 2 => ("RhymeRing$Words", "beats", "[I", true)
  | _ => ("RhymeRing$Words", "count", "I", false)
def tyX9 : Nat → FieldType := fun k => match k with
  | 0 => .array .char
  | 1 => .array .int
  | 2 => .array .int
  | _ => .int
abbrev wsX90 : List Cond := u_ws RX9 TX9 4
theorem nmX9 : ∀ a, a < 4 → ∀ b, b < 4 → a ≠ b → (TX9 a).2.1 ≠ (TX9 b).2.1 := by decide +kernel
theorem tyX9_ok : ∀ k, k < 4 → parseFieldDescriptor (TX9 k).2.2.1 = some (tyX9 k) := by decide +kernel
abbrev cX9_init : ByteArray := prog_11_method_1_code
def yX9_init : MethodName := ⟨RX9, "<init>", "()V"⟩
abbrev cX9_read : ByteArray := prog_11_method_2_code
def yX9_read : MethodName := ⟨RX9, "read", "([CII)Z"⟩
abbrev cX9_lettersOf : ByteArray := prog_11_method_3_code
def yX9_lettersOf : MethodName := ⟨RX9, "lettersOf", "(I)I"⟩
abbrev cX9_measure : ByteArray := prog_11_method_4_code
def yX9_measure : MethodName := ⟨RX9, "measure", "(LRhymeRing$Tongue;)V"⟩
abbrev cX9_beatsOf : ByteArray := prog_11_method_5_code
def yX9_beatsOf : MethodName := ⟨RX9, "beatsOf", "(I)I"⟩
def RX10 : String := "RhymeRing$Yard"
def TX10 : u_T := fun k => match k with
  | 0 => ("RhymeRing$Yard", "told", "[I", true)
  | 1 => ("RhymeRing$Yard", "rhymes", "[I", true)
  | _ => ("RhymeRing$Yard", "rhymeCount", "I", false)
def tyX10 : Nat → FieldType := fun k => match k with
  | 0 => .array .int
  | 1 => .array .int
  | _ => .int
abbrev wsX100 : List Cond := u_ws RX10 TX10 3
theorem nmX10 : ∀ a, a < 3 → ∀ b, b < 3 → a ≠ b → (TX10 a).2.1 ≠ (TX10 b).2.1 := by decide +kernel
theorem tyX10_ok : ∀ k, k < 3 → parseFieldDescriptor (TX10 k).2.2.1 = some (tyX10 k) := by decide +kernel
abbrev cX10_init : ByteArray := prog_12_method_1_code
def yX10_init : MethodName := ⟨RX10, "<init>", "()V"⟩
abbrev cX10_reset : ByteArray := prog_12_method_2_code
def yX10_reset : MethodName := ⟨RX10, "reset", "()V"⟩
abbrev cX10_setUsual : ByteArray := prog_12_method_3_code
def yX10_setUsual : MethodName := ⟨RX10, "setUsual", "()V"⟩
abbrev cX10_readRule : ByteArray := prog_12_method_4_code
def yX10_readRule : MethodName := ⟨RX10, "readRule", "(ILRhymeRing$Tokens;)Z"⟩
abbrev cX10_choicesOf : ByteArray := prog_12_method_5_code
def yX10_choicesOf : MethodName := ⟨RX10, "choicesOf", "(I)Ljava/lang/String;"⟩
abbrev cX10_readLeft : ByteArray := prog_12_method_6_code
def yX10_readLeft : MethodName := ⟨RX10, "readLeft", "(LRhymeRing$Tokens;)Z"⟩
abbrev cX10_readRhymes : ByteArray := prog_12_method_7_code
def yX10_readRhymes : MethodName := ⟨RX10, "readRhymes", "(LRhymeRing$Tokens;)Z"⟩
abbrev cX10_rhymeAt : ByteArray := prog_12_method_8_code
def yX10_rhymeAt : MethodName := ⟨RX10, "rhymeAt", "(I)I"⟩
abbrev cX10_countsBeats : ByteArray := prog_12_method_9_code
def yX10_countsBeats : MethodName := ⟨RX10, "countsBeats", "()Z"⟩
abbrev cX10_hasFists : ByteArray := prog_12_method_10_code
def yX10_hasFists : MethodName := ⟨RX10, "hasFists", "()Z"⟩
abbrev cX10_hitStays : ByteArray := prog_12_method_11_code
def yX10_hitStays : MethodName := ⟨RX10, "hitStays", "()Z"⟩
abbrev cX10_nextFrom : ByteArray := prog_12_method_12_code
def yX10_nextFrom : MethodName := ⟨RX10, "nextFrom", "()I"⟩
abbrev cX10_turnsAlways : ByteArray := prog_12_method_13_code
def yX10_turnsAlways : MethodName := ⟨RX10, "turnsAlways", "()Z"⟩
abbrev cX10_leftMost : ByteArray := prog_12_method_14_code
def yX10_leftMost : MethodName := ⟨RX10, "leftMost", "()I"⟩
abbrev cX10_wantsLeft : ByteArray := prog_12_method_15_code
def yX10_wantsLeft : MethodName := ⟨RX10, "wantsLeft", "()Z"⟩
def RX11 : String := "RhymeRing"
def TX11 : u_T := fun k => match k with
  | 0 => ("RhymeRing", "tape", "LRhymeRing$Tape;", true)
  | 1 => ("RhymeRing", "tokens", "LRhymeRing$Tokens;", true)
  | 2 => ("RhymeRing", "tongue", "LRhymeRing$Tongue;", false)
  | 3 => ("RhymeRing", "spareTongue", "LRhymeRing$Tongue;", false)
  | 4 => ("RhymeRing", "yard", "LRhymeRing$Yard;", false)
  | 5 => ("RhymeRing", "spareYard", "LRhymeRing$Yard;", false)
  | 6 => ("RhymeRing", "slots", "[LRhymeRing$Rhyme;", true)
  | 7 => ("RhymeRing", "spareRhyme", "LRhymeRing$Rhyme;", false)
  | 8 => ("RhymeRing", "folk", "LRhymeRing$Words;", false)
  | 9 => ("RhymeRing", "replies", "LRhymeRing$Words;", false)
  | 10 => ("RhymeRing", "spareWords", "LRhymeRing$Words;", false)
  | 11 => ("RhymeRing", "faultKind", "I", false)
  | 12 => ("RhymeRing", "out", "[C", true)
  | 13 => ("RhymeRing", "outLength", "I", false)
  | 14 => ("RhymeRing", "ring", "LRhymeRing$Ring;", true)
  | 15 => ("RhymeRing", "table", "LRhymeRing$Game;", true)
  | 16 => ("RhymeRing", "scales", "LRhymeRing$Changes;", true)
  | 17 => ("RhymeRing", "hits", "[I", true)
  | _ => ("RhymeRing", "hitCount", "I", false)
def tyX11 : Nat → FieldType := fun k => match k with
  | 0 => .object "RhymeRing$Tape"
  | 1 => .object "RhymeRing$Tokens"
  | 2 => .object "RhymeRing$Tongue"
  | 3 => .object "RhymeRing$Tongue"
  | 4 => .object "RhymeRing$Yard"
  | 5 => .object "RhymeRing$Yard"
  | 6 => .array (.object "RhymeRing$Rhyme")
  | 7 => .object "RhymeRing$Rhyme"
  | 8 => .object "RhymeRing$Words"
  | 9 => .object "RhymeRing$Words"
  | 10 => .object "RhymeRing$Words"
  | 11 => .int
  | 12 => .array .char
  | 13 => .int
  | 14 => .object "RhymeRing$Ring"
  | 15 => .object "RhymeRing$Game"
  | 16 => .object "RhymeRing$Changes"
  | 17 => .array .int
  | _ => .int
abbrev wsX110 : List Cond := u_ws RX11 TX11 19
theorem nmX11 : ∀ a, a < 19 → ∀ b, b < 19 → a ≠ b → (TX11 a).2.1 ≠ (TX11 b).2.1 := by decide +kernel
theorem tyX11_ok : ∀ k, k < 19 → parseFieldDescriptor (TX11 k).2.2.1 = some (tyX11 k) := by decide +kernel
abbrev cX11_init : ByteArray := prog_1_method_1_code
def yX11_init : MethodName := ⟨RX11, "<init>", "()V"⟩
abbrev cX11_feed : ByteArray := prog_1_method_2_code
def yX11_feed : MethodName := ⟨RX11, "feed", "(IIIII)I"⟩
abbrev cX11_end : ByteArray := prog_1_method_3_code
def yX11_end : MethodName := ⟨RX11, "end", "(I)Z"⟩
abbrev cX11_tongue : ByteArray := prog_1_method_4_code
def yX11_tongue : MethodName := ⟨RX11, "tongue", "()I"⟩
abbrev cX11_yard : ByteArray := prog_1_method_5_code
def yX11_yard : MethodName := ⟨RX11, "yard", "()I"⟩
abbrev cX11_rhyme : ByteArray := prog_1_method_6_code
def yX11_rhyme : MethodName := ⟨RX11, "rhyme", "(I)I"⟩
abbrev cX11_fault : ByteArray := prog_1_method_7_code
def yX11_fault : MethodName := ⟨RX11, "fault", "()I"⟩
abbrev cX11_people : ByteArray := prog_1_method_8_code
def yX11_people : MethodName := ⟨RX11, "people", "()I"⟩
abbrev cX11_answers : ByteArray := prog_1_method_9_code
def yX11_answers : MethodName := ⟨RX11, "answers", "()I"⟩
abbrev cX11_forget : ByteArray := prog_1_method_10_code
def yX11_forget : MethodName := ⟨RX11, "forget", "(I)Z"⟩
abbrev cX11_born : ByteArray := prog_1_method_11_code
def yX11_born : MethodName := ⟨RX11, "born", "(II)Z"⟩
abbrev cX11_beats : ByteArray := prog_1_method_12_code
def yX11_beats : MethodName := ⟨RX11, "beats", "()I"⟩
abbrev cX11_strong : ByteArray := prog_1_method_13_code
def yX11_strong : MethodName := ⟨RX11, "strong", "()I"⟩
abbrev cX11_counted : ByteArray := prog_1_method_14_code
def yX11_counted : MethodName := ⟨RX11, "counted", "(IZ)I"⟩
abbrev cX11_feet : ByteArray := prog_1_method_15_code
def yX11_feet : MethodName := ⟨RX11, "feet", "(II)I"⟩
abbrev cX11_octet : ByteArray := prog_1_method_16_code
def yX11_octet : MethodName := ⟨RX11, "octet", "(I)I"⟩
abbrev cX11_alike : ByteArray := prog_1_method_17_code
def yX11_alike : MethodName := ⟨RX11, "alike", "(II)I"⟩
abbrev cX11_play : ByteArray := prog_1_method_18_code
def yX11_play : MethodName := ⟨RX11, "play", "()I"⟩
abbrev cX11_hit : ByteArray := prog_1_method_19_code
def yX11_hit : MethodName := ⟨RX11, "hit", "(I)I"⟩
abbrev cX11_last : ByteArray := prog_1_method_20_code
def yX11_last : MethodName := ⟨RX11, "last", "(J)J"⟩
abbrev cX11_game : ByteArray := prog_1_method_21_code
def yX11_game : MethodName := ⟨RX11, "game", "(I)I"⟩
abbrev cX11_says : ByteArray := prog_1_method_22_code
def yX11_says : MethodName := ⟨RX11, "says", "(I)I"⟩
abbrev cX11_sure : ByteArray := prog_1_method_23_code
def yX11_sure : MethodName := ⟨RX11, "sure", "(I)I"⟩
abbrev cX11_share : ByteArray := prog_1_method_24_code
def yX11_share : MethodName := ⟨RX11, "share", "(II)I"⟩
abbrev cX11_mend : ByteArray := prog_1_method_25_code
def yX11_mend : MethodName := ⟨RX11, "mend", "()I"⟩
abbrev cX11_changes : ByteArray := prog_1_method_26_code
def yX11_changes : MethodName := ⟨RX11, "changes", "(II)I"⟩
abbrev cX11_parent : ByteArray := prog_1_method_27_code
def yX11_parent : MethodName := ⟨RX11, "parent", "(I)I"⟩
abbrev cX11_mixed : ByteArray := prog_1_method_28_code
def yX11_mixed : MethodName := ⟨RX11, "mixed", "(II)I"⟩
abbrev cX11_holds : ByteArray := prog_1_method_29_code
def yX11_holds : MethodName := ⟨RX11, "holds", "()I"⟩
abbrev cX11_explain : ByteArray := prog_1_method_30_code
def yX11_explain : MethodName := ⟨RX11, "explain", "()I"⟩
abbrev cX11_told : ByteArray := prog_1_method_31_code
def yX11_told : MethodName := ⟨RX11, "told", "(I)I"⟩
abbrev cX11_isSmall : ByteArray := prog_1_method_32_code
def yX11_isSmall : MethodName := ⟨RX11, "isSmall", "(C)Z"⟩
abbrev cX11_isDigit : ByteArray := prog_1_method_33_code
def yX11_isDigit : MethodName := ⟨RX11, "isDigit", "(C)Z"⟩
abbrev cX11_isSlot : ByteArray := prog_1_method_34_code
def yX11_isSlot : MethodName := ⟨RX11, "isSlot", "(I)Z"⟩
abbrev cX11_rhymeIn : ByteArray := prog_1_method_35_code
def yX11_rhymeIn : MethodName := ⟨RX11, "rhymeIn", "(I)LRhymeRing$Rhyme;"⟩
abbrev cX11_measureAll : ByteArray := prog_1_method_36_code
def yX11_measureAll : MethodName := ⟨RX11, "measureAll", "()V"⟩
abbrev cX11_elderIn : ByteArray := prog_1_method_37_code
def yX11_elderIn : MethodName := ⟨RX11, "elderIn", "(ILRhymeRing$Rhyme;)LRhymeRing$Rhyme;"⟩
abbrev cX11_rhymeCount : ByteArray := prog_1_method_38_code
def yX11_rhymeCount : MethodName := ⟨RX11, "rhymeCount", "()I"⟩
abbrev cX11_isPerson : ByteArray := prog_1_method_39_code
def yX11_isPerson : MethodName := ⟨RX11, "isPerson", "(I)Z"⟩
abbrev cX11_areFolk : ByteArray := prog_1_method_40_code
def yX11_areFolk : MethodName := ⟨RX11, "areFolk", "(I)Z"⟩
abbrev cX11_isRecord : ByteArray := prog_1_method_41_code
def yX11_isRecord : MethodName := ⟨RX11, "isRecord", "(I)Z"⟩
abbrev cX11_areRhymesThere : ByteArray := prog_1_method_42_code
def yX11_areRhymesThere : MethodName := ⟨RX11, "areRhymesThere", "()Z"⟩
abbrev cX11_learnRhymes : ByteArray := prog_1_method_43_code
def yX11_learnRhymes : MethodName := ⟨RX11, "learnRhymes", "()V"⟩
abbrev cX11_isGameReady : ByteArray := prog_1_method_44_code
def yX11_isGameReady : MethodName := ⟨RX11, "isGameReady", "()Z"⟩
abbrev cX11_walk : ByteArray := prog_1_method_45_code
def yX11_walk : MethodName := ⟨RX11, "walk", "(I)I"⟩
abbrev cX11_survivor : ByteArray := prog_1_method_46_code
def yX11_survivor : MethodName := ⟨RX11, "survivor", "(JI)J"⟩
abbrev cX11_commonDivisor : ByteArray := prog_1_method_47_code
def yX11_commonDivisor : MethodName := ⟨RX11, "commonDivisor", "(II)I"⟩
abbrev cX11_mixture : ByteArray := prog_1_method_48_code
def yX11_mixture : MethodName := ⟨RX11, "mixture", "(LRhymeRing$Rhyme;I)I"⟩
def RX12 : String := "RhymeRingModel"
def TX12 : u_T := fun k => match k with
  | 0 => ("RhymeRingModel", "thrown", "I", false)
  | 1 => ("RhymeRingModel", "tape", "[B", true)
  | 2 => ("RhymeRingModel", "length", "I", false)
  | 3 => ("RhymeRingModel", "size", "I", false)
  | 4 => ("RhymeRingModel", "p", "I", false)
  | 5 => ("RhymeRingModel", "token", "I", false)
  | 6 => ("RhymeRingModel", "at", "I", false)
  | 7 => ("RhymeRingModel", "span", "I", false)
  | 8 => ("RhymeRingModel", "number", "I", false)
  | 9 => ("RhymeRingModel", "fault", "I", false)
  | 10 => ("RhymeRingModel", "faultAt", "I", false)
  | 11 => ("RhymeRingModel", "word", "J", false)
  | 12 => ("RhymeRingModel", "vowels", "I", false)
  | 13 => ("RhymeRingModel", "pairMany", "I", false)
  | 14 => ("RhymeRingModel", "muteMany", "I", false)
  | 15 => ("RhymeRingModel", "strongWay", "I", false)
  | 16 => ("RhymeRingModel", "newVowels", "I", false)
  | 17 => ("RhymeRingModel", "newPairMany", "I", false)
  | 18 => ("RhymeRingModel", "newMuteMany", "I", false)
  | 19 => ("RhymeRingModel", "newStrong", "I", false)
  | 20 => ("RhymeRingModel", "told", "I", false)
  | 21 => ("RhymeRingModel", "pairs", "[I", true)
  | 22 => ("RhymeRingModel", "newPairs", "[I", true)
  | 23 => ("RhymeRingModel", "mutes", "[I", true)
  | 24 => ("RhymeRingModel", "newMutes", "[I", true)
  | 25 => ("RhymeRingModel", "muteLong", "[I", true)
  | 26 => ("RhymeRingModel", "newMuteLong", "[I", true)
  | 27 => ("RhymeRingModel", "letters", "[B", true)
  | 28 => ("RhymeRingModel", "nameLong", "[I", true)
  | 29 => ("RhymeRingModel", "answerLong", "[I", true)
  | 30 => ("RhymeRingModel", "people", "I", false)
  | 31 => ("RhymeRingModel", "answers", "I", false)
  | 32 => ("RhymeRingModel", "kind", "[I", true)
  | 33 => ("RhymeRingModel", "from", "[I", true)
  | 34 => ("RhymeRingModel", "wide", "[I", true)
  | 35 => ("RhymeRingModel", "lineFrom", "[I", true)
  | 36 => ("RhymeRingModel", "times", "[I", true)
  | 37 => ("RhymeRingModel", "lineMany", "[I", true)
  | 38 => ("RhymeRingModel", "days", "[I", true)
  | 39 => ("RhymeRingModel", "itemMany", "I", false)
  | 40 => ("RhymeRingModel", "newLines", "I", false)
  | 41 => ("RhymeRingModel", "out", "[B", true)
  | 42 => ("RhymeRingModel", "other", "[B", true)
  | 43 => ("RhymeRingModel", "outMany", "I", false)
  | 44 => ("RhymeRingModel", "mine", "[B", true)
  | 45 => ("RhymeRingModel", "law", "[I", true)
  | 46 => ("RhymeRingModel", "newLaw", "[I", true)
  | 47 => ("RhymeRingModel", "rhymes", "[I", true)
  | 48 => ("RhymeRingModel", "newRhymes", "[I", true)
  | 49 => ("RhymeRingModel", "rhymeMany", "I", false)
  | 50 => ("RhymeRingModel", "newRhymeMany", "I", false)
  | 51 => ("RhymeRingModel", "used", "[I", true)
  | 52 => ("RhymeRingModel", "worth", "[I", true)
  | 53 => ("RhymeRingModel", "lineWorth", "[I", true)
  | 54 => ("RhymeRingModel", "nameBeats", "[I", true)
  | 55 => ("RhymeRingModel", "order", "[I", true)
  | 56 => ("RhymeRingModel", "hasName", "[Z", true)
  | 57 => ("RhymeRingModel", "hasAsk", "[Z", true)
  | 58 => ("RhymeRingModel", "usedMany", "I", false)
  | 59 => ("RhymeRingModel", "extra", "I", false)
  | 60 => ("RhymeRingModel", "hands", "I", false)
  | 61 => ("RhymeRingModel", "inRing", "I", false)
  | 62 => ("RhymeRingModel", "sum", "I", false)
  | 63 => ("RhymeRingModel", "asked", "I", false)
  | 64 => ("RhymeRingModel", "hitHand", "I", false)
  | 65 => ("RhymeRingModel", "endLeft", "I", false)
  | 66 => ("RhymeRingModel", "nextMask", "I", false)
  | 67 => ("RhymeRingModel", "nextStart", "I", false)
  | 68 => ("RhymeRingModel", "nextWay", "I", false)
  | 69 => ("RhymeRingModel", "nextRhyme", "I", false)
  | 70 => ("RhymeRingModel", "asks", "Z", false)
  | 71 => ("RhymeRingModel", "hits", "[I", true)
  | 72 => ("RhymeRingModel", "hitMany", "I", false)
  | 73 => ("RhymeRingModel", "comes", "[Z", true)
  | 74 => ("RhymeRingModel", "value", "[I", true)
  | 75 => ("RhymeRingModel", "row", "[I", true)
  | 76 => ("RhymeRingModel", "rowThen", "[I", true)
  | 77 => ("RhymeRingModel", "cost", "[I", true)
  | 78 => ("RhymeRingModel", "table", "[I", true)
  | 79 => ("RhymeRingModel", "ahead", "[I", true)
  | 80 => ("RhymeRingModel", "rest", "[I", true)
  | 81 => ("RhymeRingModel", "now", "[Z", true)
  | _ => ("RhymeRingModel", "then", "[Z", true)
def tyX12 : Nat → FieldType := fun k => match k with
  | 0 => .int
  | 1 => .array .byte
  | 2 => .int
  | 3 => .int
  | 4 => .int
  | 5 => .int
  | 6 => .int
  | 7 => .int
  | 8 => .int
  | 9 => .int
  | 10 => .int
  | 11 => .long
  | 12 => .int
  | 13 => .int
  | 14 => .int
  | 15 => .int
  | 16 => .int
  | 17 => .int
  | 18 => .int
  | 19 => .int
  | 20 => .int
  | 21 => .array .int
  | 22 => .array .int
  | 23 => .array .int
  | 24 => .array .int
  | 25 => .array .int
  | 26 => .array .int
  | 27 => .array .byte
  | 28 => .array .int
  | 29 => .array .int
  | 30 => .int
  | 31 => .int
  | 32 => .array .int
  | 33 => .array .int
  | 34 => .array .int
  | 35 => .array .int
  | 36 => .array .int
  | 37 => .array .int
  | 38 => .array .int
  | 39 => .int
  | 40 => .int
  | 41 => .array .byte
  | 42 => .array .byte
  | 43 => .int
  | 44 => .array .byte
  | 45 => .array .int
  | 46 => .array .int
  | 47 => .array .int
  | 48 => .array .int
  | 49 => .int
  | 50 => .int
  | 51 => .array .int
  | 52 => .array .int
  | 53 => .array .int
  | 54 => .array .int
  | 55 => .array .int
  | 56 => .array .boolean
  | 57 => .array .boolean
  | 58 => .int
  | 59 => .int
  | 60 => .int
  | 61 => .int
  | 62 => .int
  | 63 => .int
  | 64 => .int
  | 65 => .int
  | 66 => .int
  | 67 => .int
  | 68 => .int
  | 69 => .int
  | 70 => .boolean
  | 71 => .array .int
  | 72 => .int
  | 73 => .array .boolean
  | 74 => .array .int
  | 75 => .array .int
  | 76 => .array .int
  | 77 => .array .int
  | 78 => .array .int
  | 79 => .array .int
  | 80 => .array .int
  | 81 => .array .boolean
  | _ => .array .boolean
abbrev wsX120 : List Cond := u_ws RX12 TX12 83
theorem nmX12 : ∀ a, a < 83 → ∀ b, b < 83 → a ≠ b → (TX12 a).2.1 ≠ (TX12 b).2.1 := by decide +kernel
theorem tyX12_ok : ∀ k, k < 83 → parseFieldDescriptor (TX12 k).2.2.1 = some (tyX12 k) := by decide +kernel
abbrev cX12_thrown : ByteArray := prog_14_method_1_code
def yX12_thrown : MethodName := ⟨RX12, "thrown", "()I"⟩
abbrev cX12_throwsIf : ByteArray := prog_14_method_2_code
def yX12_throwsIf : MethodName := ⟨RX12, "throwsIf", "(Z)Z"⟩
abbrev cX12_feed : ByteArray := prog_14_method_3_code
def yX12_feed : MethodName := ⟨RX12, "feed", "(IIIII)I"⟩
abbrev cX12_four : ByteArray := prog_14_method_4_code
def yX12_four : MethodName := ⟨RX12, "four", "(I)V"⟩
abbrev cX12_end : ByteArray := prog_14_method_5_code
def yX12_end : MethodName := ⟨RX12, "end", "(I)Z"⟩
abbrev cX12_taken : ByteArray := prog_14_method_6_code
def yX12_taken : MethodName := ⟨RX12, "taken", "()V"⟩
abbrev cX12_isSmall : ByteArray := prog_14_method_7_code
def yX12_isSmall : MethodName := ⟨RX12, "isSmall", "(I)Z"⟩
abbrev cX12_isDigit : ByteArray := prog_14_method_8_code
def yX12_isDigit : MethodName := ⟨RX12, "isDigit", "(I)Z"⟩
abbrev cX12_peek : ByteArray := prog_14_method_9_code
def yX12_peek : MethodName := ⟨RX12, "peek", "()I"⟩
abbrev cX12_next : ByteArray := prog_14_method_10_code
def yX12_next : MethodName := ⟨RX12, "next", "()V"⟩
abbrev cX12_wrong : ByteArray := prog_14_method_11_code
def yX12_wrong : MethodName := ⟨RX12, "wrong", "(II)Z"⟩
abbrev cX12_cant : ByteArray := prog_14_method_12_code
def yX12_cant : MethodName := ⟨RX12, "cant", "()Z"⟩
abbrev cX12_isWord : ByteArray := prog_14_method_13_code
def yX12_isWord : MethodName := ⟨RX12, "isWord", "(J)Z"⟩
abbrev cX12_semi : ByteArray := prog_14_method_14_code
def yX12_semi : MethodName := ⟨RX12, "semi", "()Z"⟩
abbrev cX12_fault : ByteArray := prog_14_method_15_code
def yX12_fault : MethodName := ⟨RX12, "fault", "()I"⟩
abbrev cX12_tongue : ByteArray := prog_14_method_16_code
def yX12_tongue : MethodName := ⟨RX12, "tongue", "()I"⟩
abbrev cX12_once : ByteArray := prog_14_method_17_code
def yX12_once : MethodName := ⟨RX12, "once", "(I)Z"⟩
abbrev cX12_tongueRule : ByteArray := prog_14_method_18_code
def yX12_tongueRule : MethodName := ⟨RX12, "tongueRule", "()Z"⟩
abbrev cX12_words : ByteArray := prog_14_method_19_code
def yX12_words : MethodName := ⟨RX12, "words", "(Z)Z"⟩
abbrev cX12_isVowel : ByteArray := prog_14_method_20_code
def yX12_isVowel : MethodName := ⟨RX12, "isVowel", "(I)Z"⟩
abbrev cX12_isPair : ByteArray := prog_14_method_21_code
def yX12_isPair : MethodName := ⟨RX12, "isPair", "(I)Z"⟩
abbrev cX12_muteEnd : ByteArray := prog_14_method_22_code
def yX12_muteEnd : MethodName := ⟨RX12, "muteEnd", "(II)I"⟩
abbrev cX12_beatsOf : ByteArray := prog_14_method_23_code
def yX12_beatsOf : MethodName := ⟨RX12, "beatsOf", "(II)I"⟩
abbrev cX12_strongOf : ByteArray := prog_14_method_24_code
def yX12_strongOf : MethodName := ⟨RX12, "strongOf", "(I)I"⟩
abbrev cX12_takeWord : ByteArray := prog_14_method_25_code
def yX12_takeWord : MethodName := ⟨RX12, "takeWord", "()Z"⟩
abbrev cX12_beats : ByteArray := prog_14_method_26_code
def yX12_beats : MethodName := ⟨RX12, "beats", "()I"⟩
abbrev cX12_strong : ByteArray := prog_14_method_27_code
def yX12_strong : MethodName := ⟨RX12, "strong", "()I"⟩
abbrev cX12_wordsOf : ByteArray := prog_14_method_28_code
def yX12_wordsOf : MethodName := ⟨RX12, "wordsOf", "(I)I"⟩
abbrev cX12_takeWords : ByteArray := prog_14_method_29_code
def yX12_takeWords : MethodName := ⟨RX12, "takeWords", "(I[I)V"⟩
abbrev cX12_people : ByteArray := prog_14_method_30_code
def yX12_people : MethodName := ⟨RX12, "people", "()I"⟩
abbrev cX12_answers : ByteArray := prog_14_method_31_code
def yX12_answers : MethodName := ⟨RX12, "answers", "()I"⟩
abbrev cX12_isBeyond : ByteArray := prog_14_method_32_code
def yX12_isBeyond : MethodName := ⟨RX12, "isBeyond", "()Z"⟩
abbrev cX12_bad : ByteArray := prog_14_method_33_code
def yX12_bad : MethodName := ⟨RX12, "bad", "()Z"⟩
abbrev cX12_rhyme : ByteArray := prog_14_method_34_code
def yX12_rhyme : MethodName := ⟨RX12, "rhyme", "(I)I"⟩
abbrev cX12_line : ByteArray := prog_14_method_35_code
def yX12_line : MethodName := ⟨RX12, "line", "()Z"⟩
abbrev cX12_item : ByteArray := prog_14_method_36_code
def yX12_item : MethodName := ⟨RX12, "item", "(Z)Z"⟩
abbrev cX12_has : ByteArray := prog_14_method_37_code
def yX12_has : MethodName := ⟨RX12, "has", "(I)Z"⟩
abbrev cX12_forget : ByteArray := prog_14_method_38_code
def yX12_forget : MethodName := ⟨RX12, "forget", "(I)Z"⟩
abbrev cX12_born : ByteArray := prog_14_method_39_code
def yX12_born : MethodName := ⟨RX12, "born", "(II)Z"⟩
abbrev cX12_counts : ByteArray := prog_14_method_40_code
def yX12_counts : MethodName := ⟨RX12, "counts", "(IZ)I"⟩
abbrev cX12_countedOf : ByteArray := prog_14_method_41_code
def yX12_countedOf : MethodName := ⟨RX12, "countedOf", "(IZ)I"⟩
abbrev cX12_counted : ByteArray := prog_14_method_42_code
def yX12_counted : MethodName := ⟨RX12, "counted", "(IZ)I"⟩
abbrev cX12_feetOf : ByteArray := prog_14_method_43_code
def yX12_feetOf : MethodName := ⟨RX12, "feetOf", "(II[B)I"⟩
abbrev cX12_feet : ByteArray := prog_14_method_44_code
def yX12_feet : MethodName := ⟨RX12, "feet", "(II)I"⟩
abbrev cX12_octet : ByteArray := prog_14_method_45_code
def yX12_octet : MethodName := ⟨RX12, "octet", "(I)I"⟩
abbrev cX12_alike : ByteArray := prog_14_method_46_code
def yX12_alike : MethodName := ⟨RX12, "alike", "(II)I"⟩
abbrev cX12_yard : ByteArray := prog_14_method_47_code
def yX12_yard : MethodName := ⟨RX12, "yard", "()I"⟩
abbrev cX12_choice : ByteArray := prog_14_method_48_code
def yX12_choice : MethodName := ⟨RX12, "choice", "(IJJJ)Z"⟩
abbrev cX12_yardRule : ByteArray := prog_14_method_49_code
def yX12_yardRule : MethodName := ⟨RX12, "yardRule", "()Z"⟩
abbrev cX12_init : ByteArray := prog_14_method_50_code
def yX12_init : MethodName := ⟨RX12, "<init>", "()V"⟩
abbrev cX12_personOf : ByteArray := prog_14_method_51_code
def yX12_personOf : MethodName := ⟨RX12, "personOf", "(I)I"⟩
abbrev cX12_use : ByteArray := prog_14_method_52_code
def yX12_use : MethodName := ⟨RX12, "use", "(IIIII)V"⟩
abbrev cX12_prepare : ByteArray := prog_14_method_53_code
def yX12_prepare : MethodName := ⟨RX12, "prepare", "()Z"⟩
abbrev cX12_weigh : ByteArray := prog_14_method_54_code
def yX12_weigh : MethodName := ⟨RX12, "weigh", "(II)V"⟩
abbrev cX12_prepareYard : ByteArray := prog_14_method_55_code
def yX12_prepareYard : MethodName := ⟨RX12, "prepareYard", "()Z"⟩
abbrev cX12_walk : ByteArray := prog_14_method_56_code
def yX12_walk : MethodName := ⟨RX12, "walk", "(IIII)V"⟩
abbrev cX12_say : ByteArray := prog_14_method_57_code
def yX12_say : MethodName := ⟨RX12, "say", "(II)V"⟩
abbrev cX12_peopleIn : ByteArray := prog_14_method_58_code
def yX12_peopleIn : MethodName := ⟨RX12, "peopleIn", "(I)I"⟩
abbrev cX12_many : ByteArray := prog_14_method_59_code
def yX12_many : MethodName := ⟨RX12, "many", "(I)I"⟩
abbrev cX12_behind : ByteArray := prog_14_method_60_code
def yX12_behind : MethodName := ⟨RX12, "behind", "(III)I"⟩
abbrev cX12_finish : ByteArray := prog_14_method_61_code
def yX12_finish : MethodName := ⟨RX12, "finish", "(IIIII)V"⟩
abbrev cX12_isOverAtFirst : ByteArray := prog_14_method_62_code
def yX12_isOverAtFirst : MethodName := ⟨RX12, "isOverAtFirst", "()Z"⟩
abbrev cX12_play : ByteArray := prog_14_method_63_code
def yX12_play : MethodName := ⟨RX12, "play", "()I"⟩
abbrev cX12_hit : ByteArray := prog_14_method_64_code
def yX12_hit : MethodName := ⟨RX12, "hit", "(I)I"⟩
abbrev cX12_last : ByteArray := prog_14_method_65_code
def yX12_last : MethodName := ⟨RX12, "last", "(J)J"⟩
abbrev cX12_stateOf : ByteArray := prog_14_method_66_code
def yX12_stateOf : MethodName := ⟨RX12, "stateOf", "(IIII)I"⟩
abbrev cX12_maskOf : ByteArray := prog_14_method_67_code
def yX12_maskOf : MethodName := ⟨RX12, "maskOf", "(I)I"⟩
abbrev cX12_startOf : ByteArray := prog_14_method_68_code
def yX12_startOf : MethodName := ⟨RX12, "startOf", "(I)I"⟩
abbrev cX12_wayOf : ByteArray := prog_14_method_69_code
def yX12_wayOf : MethodName := ⟨RX12, "wayOf", "(I)I"⟩
abbrev cX12_walkState : ByteArray := prog_14_method_70_code
def yX12_walkState : MethodName := ⟨RX12, "walkState", "(I)Z"⟩
abbrev cX12_finishState : ByteArray := prog_14_method_71_code
def yX12_finishState : MethodName := ⟨RX12, "finishState", "(II)V"⟩
abbrev cX12_begin : ByteArray := prog_14_method_72_code
def yX12_begin : MethodName := ⟨RX12, "begin", "()I"⟩
abbrev cX12_mark : ByteArray := prog_14_method_73_code
def yX12_mark : MethodName := ⟨RX12, "mark", "()V"⟩
abbrev cX12_markFrom : ByteArray := prog_14_method_74_code
def yX12_markFrom : MethodName := ⟨RX12, "markFrom", "(I)V"⟩
abbrev cX12_leftBy : ByteArray := prog_14_method_75_code
def yX12_leftBy : MethodName := ⟨RX12, "leftBy", "()I"⟩
abbrev cX12_isMet : ByteArray := prog_14_method_76_code
def yX12_isMet : MethodName := ⟨RX12, "isMet", "(II)Z"⟩
abbrev cX12_answerIn : ByteArray := prog_14_method_77_code
def yX12_answerIn : MethodName := ⟨RX12, "answerIn", "(II)I"⟩
abbrev cX12_solve : ByteArray := prog_14_method_78_code
def yX12_solve : MethodName := ⟨RX12, "solve", "(I)V"⟩
abbrev cX12_mayPlay : ByteArray := prog_14_method_79_code
def yX12_mayPlay : MethodName := ⟨RX12, "mayPlay", "(I)Z"⟩
abbrev cX12_game : ByteArray := prog_14_method_80_code
def yX12_game : MethodName := ⟨RX12, "game", "(I)I"⟩
abbrev cX12_says : ByteArray := prog_14_method_81_code
def yX12_says : MethodName := ⟨RX12, "says", "(I)I"⟩
abbrev cX12_sure : ByteArray := prog_14_method_82_code
def yX12_sure : MethodName := ⟨RX12, "sure", "(I)I"⟩
abbrev cX12_power : ByteArray := prog_14_method_83_code
def yX12_power : MethodName := ⟨RX12, "power", "(II)I"⟩
abbrev cX12_waysOf : ByteArray := prog_14_method_84_code
def yX12_waysOf : MethodName := ⟨RX12, "waysOf", "(I)I"⟩
abbrev cX12_common : ByteArray := prog_14_method_85_code
def yX12_common : MethodName := ⟨RX12, "common", "(II)I"⟩
abbrev cX12_share : ByteArray := prog_14_method_86_code
def yX12_share : MethodName := ⟨RX12, "share", "(II)I"⟩
abbrev cX12_isEven : ByteArray := prog_14_method_87_code
def yX12_isEven : MethodName := ⟨RX12, "isEven", "()Z"⟩
abbrev cX12_mend : ByteArray := prog_14_method_88_code
def yX12_mend : MethodName := ⟨RX12, "mend", "()I"⟩
abbrev cX12_itemsOf : ByteArray := prog_14_method_89_code
def yX12_itemsOf : MethodName := ⟨RX12, "itemsOf", "(II)I"⟩
abbrev cX12_isSame : ByteArray := prog_14_method_90_code
def yX12_isSame : MethodName := ⟨RX12, "isSame", "(IIIIII)Z"⟩
abbrev cX12_least : ByteArray := prog_14_method_91_code
def yX12_least : MethodName := ⟨RX12, "least", "(III)I"⟩
abbrev cX12_lineTo : ByteArray := prog_14_method_92_code
def yX12_lineTo : MethodName := ⟨RX12, "lineTo", "(IIII)I"⟩
abbrev cX12_lead : ByteArray := prog_14_method_93_code
def yX12_lead : MethodName := ⟨RX12, "lead", "(IIZ)V"⟩
abbrev cX12_changesOf : ByteArray := prog_14_method_94_code
def yX12_changesOf : MethodName := ⟨RX12, "changesOf", "(II)I"⟩
abbrev cX12_changes : ByteArray := prog_14_method_95_code
def yX12_changes : MethodName := ⟨RX12, "changes", "(II)I"⟩
abbrev cX12_parent : ByteArray := prog_14_method_96_code
def yX12_parent : MethodName := ⟨RX12, "parent", "(I)I"⟩
abbrev cX12_mixed : ByteArray := prog_14_method_97_code
def yX12_mixed : MethodName := ⟨RX12, "mixed", "(II)I"⟩
abbrev cX12_leastOf : ByteArray := prog_14_method_98_code
def yX12_leastOf : MethodName := ⟨RX12, "leastOf", "(II)I"⟩
abbrev cX12_holdsTo : ByteArray := prog_14_method_99_code
def yX12_holdsTo : MethodName := ⟨RX12, "holdsTo", "()I"⟩
abbrev cX12_isRecord : ByteArray := prog_14_method_100_code
def yX12_isRecord : MethodName := ⟨RX12, "isRecord", "()Z"⟩
abbrev cX12_holds : ByteArray := prog_14_method_101_code
def yX12_holds : MethodName := ⟨RX12, "holds", "()I"⟩
abbrev cX12_explain : ByteArray := prog_14_method_102_code
def yX12_explain : MethodName := ⟨RX12, "explain", "()I"⟩
abbrev cX12_told : ByteArray := prog_14_method_103_code
def yX12_told : MethodName := ⟨RX12, "told", "(I)I"⟩
def RJ6 : String := "java/lang/Integer"
abbrev cJ6_bitCount_0f7a4 : ByteArray := prog_19_method_49_code
def yJ6_bitCount_0f7a4 : MethodName := ⟨RJ6, "bitCount", "(I)I"⟩
def RJ9 : String := "java/lang/Math"
abbrev cJ9_max_7cf53 : ByteArray := prog_20_method_65_code
def yJ9_max_7cf53 : MethodName := ⟨RJ9, "max", "(II)I"⟩
abbrev cJ9_min_7cf53 : ByteArray := prog_20_method_69_code
def yJ9_min_7cf53 : MethodName := ⟨RJ9, "min", "(II)I"⟩
abbrev cJ9_min_f86c9 : ByteArray := prog_20_method_70_code
def yJ9_min_f86c9 : MethodName := ⟨RJ9, "min", "(JJ)J"⟩
def RJ0 : String := "java/lang/String"
abbrev cJ0_length_8abf5 : ByteArray := prog_22_method_54_code
def yJ0_length_8abf5 : MethodName := ⟨RJ0, "length", "()I"⟩
abbrev cJ0_charAt_5068e : ByteArray := prog_22_method_56_code
def yJ0_charAt_5068e : MethodName := ⟨RJ0, "charAt", "(I)C"⟩
abbrev cJ0_coder_7d493 : ByteArray := prog_22_method_152_code
def yJ0_coder_7d493 : MethodName := ⟨RJ0, "coder", "()B"⟩
abbrev cJ0_isLatin1_aae02 : ByteArray := prog_22_method_154_code
def yJ0_isLatin1_aae02 : MethodName := ⟨RJ0, "isLatin1", "()Z"⟩
abbrev cJ0_checkIndex_df160 : ByteArray := prog_22_method_155_code
def yJ0_checkIndex_df160 : MethodName := ⟨RJ0, "checkIndex", "(II)V"⟩
def RJ1 : String := "java/lang/StringLatin1"
abbrev cJ1_charAt_3b067 : ByteArray := prog_23_method_2_code
def yJ1_charAt_3b067 : MethodName := ⟨RJ1, "charAt", "([BI)C"⟩
def RJ2 : String := "java/lang/StringUTF16"
abbrev cJ2_getChar_3b067 : ByteArray := prog_24_method_5_code
def yJ2_getChar_3b067 : MethodName := ⟨RJ2, "getChar", "([BI)C"⟩
abbrev cJ2_length_9d52b : ByteArray := prog_24_method_6_code
def yJ2_length_9d52b : MethodName := ⟨RJ2, "length", "([B)I"⟩
abbrev cJ2_charAt_3b067 : ByteArray := prog_24_method_83_code
def yJ2_charAt_3b067 : MethodName := ⟨RJ2, "charAt", "([BI)C"⟩
abbrev cJ2_checkIndex_2214a : ByteArray := prog_24_method_91_code
def yJ2_checkIndex_2214a : MethodName := ⟨RJ2, "checkIndex", "(I[B)V"⟩
def RJ7 : String := "java/util/Arrays"
abbrev cJ7_fill_53178 : ByteArray := prog_28_method_103_code
def yJ7_fill_53178 : MethodName := ⟨RJ7, "fill", "([II)V"⟩
def RJ3 : String := "jdk/internal/util/Preconditions"
abbrev cJ3_checkIndex_8e157 : ByteArray := prog_30_method_11_code
def yJ3_checkIndex_8e157 : MethodName := ⟨RJ3, "checkIndex", "(IILjava/util/function/BiFunction;)I"⟩
def RL : String := "RhymeRingLaw"
abbrev cL_octet : ByteArray := method_3_code
def yL_octet : MethodName := ⟨RL, "octet", "(LRhymeRing;I[J)I"⟩
abbrev cL_share : ByteArray := method_4_code
def yL_share : MethodName := ⟨RL, "share", "(LRhymeRing;II[J)I"⟩
abbrev cL_law : ByteArray := code
def yL_law : MethodName := ⟨RL, "law", "([I)Z"⟩
abbrev vwCl : List vw_C := [(RX0, TX0, 7), (RX1, TX1, 6), (RX2, TX2, 8), (RX3, TX3, 15), (RX4, TX4, 18), (RX6, TX6, 2), (RX7, TX7, 6), (RX8, TX8, 6), (RX9, TX9, 4), (RX10, TX10, 3), (RX11, TX11, 19), (RX12, TX12, 83)]
