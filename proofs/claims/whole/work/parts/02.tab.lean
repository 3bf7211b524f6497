def xNm : Nat → String := fun o => match o with
  | 0 => RX0
  | 1 => RX1
  | 2 => RX2
  | 3 => RX3
  | 4 => RX4
  | 5 => RX6
  | 6 => RX7
  | 7 => RX8
  | 8 => RX9
  | 9 => RX10
  | 10 => RX11
  | 11 => RX12
  | 12 => RX5
  | 13 => RJ6
  | 14 => RJ9
  | 15 => RJ7
  | _ => RL
def xTags : List (List Nat) := [[2, 2, 2, 2, 2, 2, 2], [2, 2, 2, 0, 0, 3], [2, 2, 2, 0, 2, 3, 0, 0], [2, 0, 2, 2, 2, 0, 2, 0, 0, 3, 0, 0, 0, 3, 3], [2, 2, 0, 2, 2, 0, 2, 0, 2, 2, 0, 0, 0, 0, 0, 3, 3, 3], [2, 0], [2, 0, 0, 0, 0, 0], [0, 2, 0, 2, 0, 0], [2, 2, 2, 0], [2, 2, 0], [2, 2, 2, 2, 2, 2, 2, 2, 2, 2, 2, 0, 2, 0, 2, 2, 2, 2, 0], [0, 2, 0, 0, 0, 0, 0, 0, 0, 0, 0, 1, 0, 0, 0, 0, 0, 0, 0, 0, 0, 2, 2, 2, 2, 2, 2, 2, 2, 2, 0, 0, 2, 2, 2, 2, 2, 2, 2, 0, 0, 2, 2, 0, 2, 2, 2, 2, 2, 0, 0, 2, 2, 2, 2, 2, 2, 2, 0, 0, 0, 0, 0, 0, 0, 0, 0, 0, 0, 0, 3, 2, 0, 2, 2, 2, 2, 2, 2, 2, 2, 2, 2]]
/-- the methods: class, arguments (with the receiver), locals, name, code, what it returns, a constructor, static -/
def xMI (j : Nat) : Nat × Nat × Nat × MethodName × ByteArray × Option FieldType × Bool × Bool := match j with
  | 0 => (0, 1, 1, yX0_init, cX0_init, (none : Option FieldType), true, false)
  | 1 => (0, 4, 6, yX0_likeLines, cX0_likeLines, (some (.int) : Option FieldType), false, false)
  | 2 => (0, 5, 7, yX0_isLikeLine, cX0_isLikeLine, (some (.boolean) : Option FieldType), false, false)
  | 3 => (0, 3, 3, yX0_between, cX0_between, (some (.int) : Option FieldType), false, false)
  | 4 => (0, 3, 5, yX0_weighLines, cX0_weighLines, (none : Option FieldType), false, false)
  | 5 => (0, 5, 11, yX0_itemChanges, cX0_itemChanges, (some (.int) : Option FieldType), false, false)
  | 6 => (0, 3, 6, yX0_sumForward, cX0_sumForward, (none : Option FieldType), false, false)
  | 7 => (0, 4, 4, yX0_weighParts, cX0_weighParts, (none : Option FieldType), false, false)
  | 8 => (0, 4, 6, yX0_takeLeast, cX0_takeLeast, (none : Option FieldType), false, false)
  | 9 => (0, 3, 8, yX0_sumBackward, cX0_sumBackward, (none : Option FieldType), false, false)
  | 10 => (0, 4, 6, yX0_bestCut, cX0_bestCut, (some (.int) : Option FieldType), false, false)
  | 11 => (0, 4, 4, yX0_mixtureCost, cX0_mixtureCost, (some (.int) : Option FieldType), false, false)
  | 12 => (1, 1, 1, yX1_init, cX1_init, (none : Option FieldType), true, false)
  | 13 => (1, 3, 5, yX1_learn, cX1_learn, (none : Option FieldType), false, false)
  | 14 => (1, 5, 9, yX1_learnLine, cX1_learnLine, (some (.int) : Option FieldType), false, false)
  | 15 => (1, 3, 3, yX1_putGap, cX1_putGap, (some (.int) : Option FieldType), false, false)
  | 16 => (1, 2, 2, yX1_gapAt, cX1_gapAt, (some (.int) : Option FieldType), false, false)
  | 17 => (2, 1, 1, yX2_init, cX2_init, (none : Option FieldType), true, false)
  | 18 => (2, 3, 3, yX2_leftBy, cX2_leftBy, (some (.int) : Option FieldType), false, false)
  | 19 => (2, 4, 4, yX2_setOut, cX2_setOut, (none : Option FieldType), false, false)
  | 20 => (2, 4, 8, yX2_worthOf, cX2_worthOf, (some (.int) : Option FieldType), false, false)
  | 21 => (2, 2, 2, yX2_endWorth, cX2_endWorth, (some (.int) : Option FieldType), false, false)
  | 22 => (2, 3, 3, yX2_meets, cX2_meets, (some (.boolean) : Option FieldType), false, false)
  | 23 => (2, 2, 2, yX2_key, cX2_key, (some (.int) : Option FieldType), false, true)
  | 24 => (2, 1, 1, yX2_isKey, cX2_isKey, (some (.boolean) : Option FieldType), false, true)
  | 25 => (2, 5, 7, yX2_worthAfter, cX2_worthAfter, (some (.int) : Option FieldType), false, false)
  | 26 => (2, 3, 4, yX2_isSettled, cX2_isSettled, (some (.boolean) : Option FieldType), false, false)
  | 27 => (2, 2, 2, yX2_sees, cX2_sees, (some (.boolean) : Option FieldType), false, false)
  | 28 => (2, 4, 4, yX2_better, cX2_better, (some (.int) : Option FieldType), false, false)
  | 29 => (2, 3, 9, yX2_firstAnswer, cX2_firstAnswer, (some (.int) : Option FieldType), false, false)
  | 30 => (2, 3, 3, yX2_isSure, cX2_isSure, (some (.boolean) : Option FieldType), false, false)
  | 31 => (2, 1, 4, yX2_reckonShares, cX2_reckonShares, (none : Option FieldType), false, false)
  | 32 => (2, 1, 3, yX2_wholeShare, cX2_wholeShare, (some (.int) : Option FieldType), false, false)
  | 33 => (2, 4, 5, yX2_add, cX2_add, (none : Option FieldType), false, false)
  | 34 => (2, 4, 9, yX2_pass, cX2_pass, (none : Option FieldType), false, false)
  | 35 => (2, 3, 4, yX2_giveTo, cX2_giveTo, (none : Option FieldType), false, false)
  | 36 => (2, 2, 2, yX2_hitsBefore, cX2_hitsBefore, (some (.int) : Option FieldType), false, false)
  | 37 => (2, 1, 2, yX2_areSharesEven, cX2_areSharesEven, (some (.boolean) : Option FieldType), false, false)
  | 38 => (2, 2, 2, yX2_shareOf, cX2_shareOf, (some (.int) : Option FieldType), false, false)
  | 39 => (2, 3, 7, yX2_follow, cX2_follow, (some (.int) : Option FieldType), false, false)
  | 40 => (2, 5, 11, yX2_followFrom, cX2_followFrom, (some (.int) : Option FieldType), false, false)
  | 41 => (3, 1, 1, yX3_init, cX3_init, (none : Option FieldType), true, false)
  | 42 => (3, 2, 4, yX3_measure, cX3_measure, (none : Option FieldType), false, false)
  | 43 => (3, 2, 2, yX3_start, cX3_start, (some (.int) : Option FieldType), false, false)
  | 44 => (3, 2, 2, yX3_size, cX3_size, (some (.int) : Option FieldType), false, false)
  | 45 => (3, 3, 5, yX3_read, cX3_read, (some (.int) : Option FieldType), false, false)
  | 46 => (3, 3, 3, yX3_take, cX3_take, (some (.int) : Option FieldType), false, false)
  | 47 => (3, 3, 3, yX3_takeFirst, cX3_takeFirst, (some (.int) : Option FieldType), false, false)
  | 48 => (3, 3, 3, yX3_beginItem, cX3_beginItem, (none : Option FieldType), false, false)
  | 49 => (3, 3, 4, yX3_takeItem, cX3_takeItem, (some (.int) : Option FieldType), false, false)
  | 50 => (3, 1, 1, yX3_kindFrom, cX3_kindFrom, (some (.int) : Option FieldType), false, true)
  | 51 => (3, 2, 2, yX3_takeInWord, cX3_takeInWord, (some (.int) : Option FieldType), false, false)
  | 52 => (3, 1, 1, yX3_spellItem, cX3_spellItem, (none : Option FieldType), false, false)
  | 53 => (3, 2, 2, yX3_takeBehind, cX3_takeBehind, (some (.int) : Option FieldType), false, false)
  | 54 => (3, 1, 1, yX3_endLine, cX3_endLine, (none : Option FieldType), false, false)
  | 55 => (3, 3, 3, yX3_refuse, cX3_refuse, (some (.int) : Option FieldType), false, false)
  | 56 => (3, 2, 6, yX3_total, cX3_total, (some (.int) : Option FieldType), false, false)
  | 57 => (3, 2, 2, yX3_firstItem, cX3_firstItem, (some (.int) : Option FieldType), false, false)
  | 58 => (3, 3, 3, yX3_countOf, cX3_countOf, (some (.int) : Option FieldType), false, false)
  | 59 => (3, 2, 3, yX3_timesOf, cX3_timesOf, (some (.int) : Option FieldType), false, false)
  | 60 => (3, 2, 2, yX3_kindOf, cX3_kindOf, (some (.int) : Option FieldType), false, false)
  | 61 => (3, 2, 2, yX3_byteAt, cX3_byteAt, (some (.char) : Option FieldType), false, false)
  | 62 => (3, 2, 2, yX3_hasLine, cX3_hasLine, (some (.boolean) : Option FieldType), false, false)
  | 63 => (3, 4, 11, yX3_feetInto, cX3_feetInto, (some (.int) : Option FieldType), false, false)
  | 64 => (3, 1, 1, yX3_hasAsk, cX3_hasAsk, (some (.boolean) : Option FieldType), false, false)
  | 65 => (3, 1, 2, yX3_hasNameOrAsk, cX3_hasNameOrAsk, (some (.boolean) : Option FieldType), false, false)
  | 66 => (3, 2, 2, yX3_itemsIn, cX3_itemsIn, (some (.int) : Option FieldType), false, false)
  | 67 => (3, 4, 5, yX3_isSameItem, cX3_isSameItem, (some (.boolean) : Option FieldType), false, false)
  | 68 => (4, 1, 2, yX4_init, cX4_init, (none : Option FieldType), true, false)
  | 69 => (4, 4, 5, yX4_gather, cX4_gather, (none : Option FieldType), false, false)
  | 70 => (4, 3, 4, yX4_learn, cX4_learn, (none : Option FieldType), false, false)
  | 71 => (4, 2, 2, yX4_chantOf, cX4_chantOf, (some (.object "RhymeRing$Chant") : Option FieldType), false, false)
  | 72 => (4, 1, 1, yX4_allHands, cX4_allHands, (some (.int) : Option FieldType), false, false)
  | 73 => (4, 2, 2, yX4_isOver, cX4_isOver, (some (.boolean) : Option FieldType), false, false)
  | 74 => (4, 2, 4, yX4_owners, cX4_owners, (some (.int) : Option FieldType), false, false)
  | 75 => (4, 4, 7, yX4_reckon, cX4_reckon, (some (.int) : Option FieldType), false, false)
  | 76 => (4, 4, 6, yX4_lineUp, cX4_lineUp, (none : Option FieldType), false, false)
  | 77 => (4, 2, 2, yX4_isIn, cX4_isIn, (some (.boolean) : Option FieldType), false, true)
  | 78 => (4, 3, 3, yX4_beside, cX4_beside, (some (.int) : Option FieldType), false, false)
  | 79 => (4, 2, 7, yX4_sayAll, cX4_sayAll, (some (.int) : Option FieldType), false, false)
  | 80 => (4, 5, 7, yX4_sayLine, cX4_sayLine, (some (.int) : Option FieldType), false, false)
  | 81 => (4, 2, 3, yX4_handAt, cX4_handAt, (some (.int) : Option FieldType), false, false)
  | 82 => (4, 2, 2, yX4_ownerOf, cX4_ownerOf, (some (.int) : Option FieldType), false, false)
  | 83 => (4, 2, 2, yX4_beatsOfName, cX4_beatsOfName, (some (.int) : Option FieldType), false, false)
  | 84 => (4, 2, 2, yX4_askerOf, cX4_askerOf, (some (.int) : Option FieldType), false, false)
  | 85 => (4, 3, 3, yX4_handHit, cX4_handHit, (some (.int) : Option FieldType), false, false)
  | 86 => (4, 5, 6, yX4_nextBegin, cX4_nextBegin, (some (.int) : Option FieldType), false, false)
  | 87 => (4, 4, 6, yX4_nextIn, cX4_nextIn, (some (.int) : Option FieldType), false, false)
  | 88 => (4, 1, 1, yX4_isTooGreat, cX4_isTooGreat, (some (.boolean) : Option FieldType), false, false)
  | 89 => (4, 3, 4, yX4_rest, cX4_rest, (none : Option FieldType), false, false)
  | 90 => (4, 2, 2, yX4_useOnly, cX4_useOnly, (none : Option FieldType), false, false)
  | 91 => (5, 1, 1, yX6_init, cX6_init, (none : Option FieldType), true, false)
  | 92 => (5, 2, 3, yX6_put, cX6_put, (none : Option FieldType), false, false)
  | 93 => (5, 1, 2, yX6_take, cX6_take, (some (.int) : Option FieldType), false, false)
  | 94 => (5, 2, 3, yX6_isWord, cX6_isWord, (some (.boolean) : Option FieldType), false, false)
  | 95 => (5, 3, 4, yX6_isBelow, cX6_isBelow, (some (.boolean) : Option FieldType), false, false)
  | 96 => (5, 4, 4, yX6_byteOr, cX6_byteOr, (some (.int) : Option FieldType), false, false)
  | 97 => (6, 1, 1, yX7_init, cX7_init, (none : Option FieldType), true, false)
  | 98 => (6, 3, 3, yX7_open, cX7_open, (none : Option FieldType), false, false)
  | 99 => (6, 1, 3, yX7_step, cX7_step, (none : Option FieldType), false, false)
  | 100 => (6, 2, 2, yX7_kindOfRun, cX7_kindOfRun, (some (.int) : Option FieldType), false, true)
  | 101 => (6, 3, 4, yX7_passRule, cX7_passRule, (some (.int) : Option FieldType), false, false)
  | 102 => (6, 2, 5, yX7_pick, cX7_pick, (some (.int) : Option FieldType), false, false)
  | 103 => (6, 4, 5, yX7_spells, cX7_spells, (some (.boolean) : Option FieldType), false, false)
  | 104 => (6, 1, 1, yX7_size, cX7_size, (some (.int) : Option FieldType), false, false)
  | 105 => (6, 1, 1, yX7_refuseHere, cX7_refuseHere, (some (.boolean) : Option FieldType), false, false)
  | 106 => (6, 2, 2, yX7_refuse, cX7_refuse, (some (.boolean) : Option FieldType), false, false)
  | 107 => (6, 1, 1, yX7_digit, cX7_digit, (some (.int) : Option FieldType), false, false)
  | 108 => (6, 1, 1, yX7_passStop, cX7_passStop, (some (.boolean) : Option FieldType), false, false)
  | 109 => (7, 1, 1, yX8_init, cX8_init, (none : Option FieldType), true, false)
  | 110 => (7, 1, 1, yX8_reset, cX8_reset, (none : Option FieldType), false, false)
  | 111 => (7, 3, 3, yX8_readRule, cX8_readRule, (some (.boolean) : Option FieldType), false, false)
  | 112 => (7, 2, 3, yX8_readVowels, cX8_readVowels, (some (.boolean) : Option FieldType), false, false)
  | 113 => (7, 4, 5, yX8_readParts, cX8_readParts, (some (.int) : Option FieldType), false, true)
  | 114 => (7, 3, 5, yX8_packed, cX8_packed, (some (.int) : Option FieldType), false, true)
  | 115 => (7, 2, 2, yX8_readStrong, cX8_readStrong, (some (.boolean) : Option FieldType), false, false)
  | 116 => (7, 4, 6, yX8_beatsIn, cX8_beatsIn, (some (.int) : Option FieldType), false, false)
  | 117 => (7, 4, 10, yX8_vowelBeats, cX8_vowelBeats, (some (.int) : Option FieldType), false, false)
  | 118 => (7, 3, 4, yX8_isAmong, cX8_isAmong, (some (.boolean) : Option FieldType), false, true)
  | 119 => (7, 4, 5, yX8_mutedLetters, cX8_mutedLetters, (some (.int) : Option FieldType), false, false)
  | 120 => (7, 2, 2, yX8_strongOf, cX8_strongOf, (some (.int) : Option FieldType), false, false)
  | 121 => (8, 1, 1, yX9_init, cX9_init, (none : Option FieldType), true, false)
  | 122 => (8, 2, 3, yX9_measure, cX9_measure, (none : Option FieldType), false, false)
  | 123 => (8, 2, 2, yX9_lettersOf, cX9_lettersOf, (some (.int) : Option FieldType), false, false)
  | 124 => (8, 4, 8, yX9_read, cX9_read, (some (.boolean) : Option FieldType), false, false)
  | 125 => (8, 2, 2, yX9_beatsOf, cX9_beatsOf, (some (.int) : Option FieldType), false, false)
  | 126 => (9, 1, 1, yX10_init, cX10_init, (none : Option FieldType), true, false)
  | 127 => (9, 1, 1, yX10_setUsual, cX10_setUsual, (none : Option FieldType), false, false)
  | 128 => (9, 1, 1, yX10_reset, cX10_reset, (none : Option FieldType), false, false)
  | 129 => (9, 3, 4, yX10_readRule, cX10_readRule, (some (.boolean) : Option FieldType), false, false)
  | 130 => (9, 2, 2, yX10_readLeft, cX10_readLeft, (some (.boolean) : Option FieldType), false, false)
  | 131 => (9, 2, 3, yX10_readRhymes, cX10_readRhymes, (some (.boolean) : Option FieldType), false, false)
  | 132 => (9, 1, 1, yX10_choicesOf, cX10_choicesOf, (some (.object "java/lang/String") : Option FieldType), false, true)
  | 133 => (9, 2, 2, yX10_rhymeAt, cX10_rhymeAt, (some (.int) : Option FieldType), false, false)
  | 134 => (9, 1, 1, yX10_hasFists, cX10_hasFists, (some (.boolean) : Option FieldType), false, false)
  | 135 => (9, 1, 1, yX10_leftMost, cX10_leftMost, (some (.int) : Option FieldType), false, false)
  | 136 => (9, 1, 1, yX10_nextFrom, cX10_nextFrom, (some (.int) : Option FieldType), false, false)
  | 137 => (9, 1, 1, yX10_countsBeats, cX10_countsBeats, (some (.boolean) : Option FieldType), false, false)
  | 138 => (9, 1, 1, yX10_hitStays, cX10_hitStays, (some (.boolean) : Option FieldType), false, false)
  | 139 => (9, 1, 1, yX10_turnsAlways, cX10_turnsAlways, (some (.boolean) : Option FieldType), false, false)
  | 140 => (9, 1, 1, yX10_wantsLeft, cX10_wantsLeft, (some (.boolean) : Option FieldType), false, false)
  | 141 => (10, 1, 2, yX11_init, cX11_init, (none : Option FieldType), true, false)
  | 142 => (10, 6, 6, yX11_feed, cX11_feed, (some (.int) : Option FieldType), false, false)
  | 143 => (10, 2, 2, yX11_end, cX11_end, (some (.boolean) : Option FieldType), false, false)
  | 144 => (10, 1, 3, yX11_tongue, cX11_tongue, (some (.int) : Option FieldType), false, false)
  | 145 => (10, 1, 1, yX11_isSmall, cX11_isSmall, (some (.boolean) : Option FieldType), false, true)
  | 146 => (10, 1, 1, yX11_isDigit, cX11_isDigit, (some (.boolean) : Option FieldType), false, true)
  | 147 => (10, 1, 1, yX11_isSlot, cX11_isSlot, (some (.boolean) : Option FieldType), false, true)
  | 148 => (10, 1, 3, yX11_measureAll, cX11_measureAll, (none : Option FieldType), false, false)
  | 149 => (10, 2, 3, yX11_rhymeIn, cX11_rhymeIn, (some (.object "RhymeRing$Rhyme") : Option FieldType), false, false)
  | 150 => (10, 1, 3, yX11_yard, cX11_yard, (some (.int) : Option FieldType), false, false)
  | 151 => (10, 2, 5, yX11_rhyme, cX11_rhyme, (some (.int) : Option FieldType), false, false)
  | 152 => (10, 1, 1, yX11_fault, cX11_fault, (some (.int) : Option FieldType), false, false)
  | 153 => (10, 1, 2, yX11_people, cX11_people, (some (.int) : Option FieldType), false, false)
  | 154 => (10, 1, 2, yX11_answers, cX11_answers, (some (.int) : Option FieldType), false, false)
  | 155 => (10, 2, 3, yX11_forget, cX11_forget, (some (.boolean) : Option FieldType), false, false)
  | 156 => (10, 3, 4, yX11_born, cX11_born, (some (.boolean) : Option FieldType), false, false)
  | 157 => (10, 1, 2, yX11_beats, cX11_beats, (some (.int) : Option FieldType), false, false)
  | 158 => (10, 1, 2, yX11_strong, cX11_strong, (some (.int) : Option FieldType), false, false)
  | 159 => (10, 3, 4, yX11_counted, cX11_counted, (some (.int) : Option FieldType), false, false)
  | 160 => (10, 3, 4, yX11_feet, cX11_feet, (some (.int) : Option FieldType), false, false)
  | 161 => (10, 3, 5, yX11_alike, cX11_alike, (some (.int) : Option FieldType), false, false)
  | 162 => (10, 1, 2, yX11_play, cX11_play, (some (.int) : Option FieldType), false, false)
  | 163 => (10, 1, 2, yX11_areRhymesThere, cX11_areRhymesThere, (some (.boolean) : Option FieldType), false, false)
  | 164 => (10, 1, 3, yX11_learnRhymes, cX11_learnRhymes, (none : Option FieldType), false, false)
  | 165 => (10, 2, 7, yX11_walk, cX11_walk, (some (.int) : Option FieldType), false, false)
  | 166 => (10, 2, 2, yX11_hit, cX11_hit, (some (.int) : Option FieldType), false, false)
  | 167 => (10, 2, 4, yX11_last, cX11_last, (some (.long) : Option FieldType), false, false)
  | 168 => (10, 2, 10, yX11_survivor, cX11_survivor, (some (.long) : Option FieldType), false, true)
  | 169 => (10, 2, 2, yX11_game, cX11_game, (some (.int) : Option FieldType), false, false)
  | 170 => (10, 1, 1, yX11_isGameReady, cX11_isGameReady, (some (.boolean) : Option FieldType), false, false)
  | 171 => (10, 2, 2, yX11_areFolk, cX11_areFolk, (some (.boolean) : Option FieldType), false, false)
  | 172 => (10, 2, 2, yX11_says, cX11_says, (some (.int) : Option FieldType), false, false)
  | 173 => (10, 2, 2, yX11_sure, cX11_sure, (some (.int) : Option FieldType), false, false)
  | 174 => (10, 2, 2, yX11_isPerson, cX11_isPerson, (some (.boolean) : Option FieldType), false, false)
  | 175 => (10, 1, 3, yX11_mend, cX11_mend, (some (.int) : Option FieldType), false, false)
  | 176 => (10, 3, 5, yX11_changes, cX11_changes, (some (.int) : Option FieldType), false, false)
  | 177 => (10, 2, 8, yX11_parent, cX11_parent, (some (.int) : Option FieldType), false, false)
  | 178 => (10, 3, 4, yX11_elderIn, cX11_elderIn, (some (.object "RhymeRing$Rhyme") : Option FieldType), false, false)
  | 179 => (10, 3, 6, yX11_mixed, cX11_mixed, (some (.int) : Option FieldType), false, false)
  | 180 => (10, 3, 11, yX11_mixture, cX11_mixture, (some (.int) : Option FieldType), false, false)
  | 181 => (10, 1, 2, yX11_holds, cX11_holds, (some (.int) : Option FieldType), false, false)
  | 182 => (10, 2, 2, yX11_isRecord, cX11_isRecord, (some (.boolean) : Option FieldType), false, false)
  | 183 => (10, 1, 5, yX11_explain, cX11_explain, (some (.int) : Option FieldType), false, false)
  | 184 => (10, 2, 2, yX11_told, cX11_told, (some (.int) : Option FieldType), false, false)
  | 185 => (10, 1, 3, yX11_rhymeCount, cX11_rhymeCount, (some (.int) : Option FieldType), false, false)
  | 186 => (10, 2, 2, yX11_octet, cX11_octet, (some (.int) : Option FieldType), false, false)
  | 187 => (10, 3, 6, yX11_share, cX11_share, (some (.int) : Option FieldType), false, false)
  | 188 => (10, 2, 6, yX11_commonDivisor, cX11_commonDivisor, (some (.int) : Option FieldType), false, true)
  | 189 => (11, 1, 1, yX12_thrown, cX12_thrown, (some (.int) : Option FieldType), false, false)
  | 190 => (11, 6, 6, yX12_feed, cX12_feed, (some (.int) : Option FieldType), false, false)
  | 191 => (11, 2, 3, yX12_four, cX12_four, (none : Option FieldType), false, false)
  | 192 => (11, 2, 2, yX12_end, cX12_end, (some (.boolean) : Option FieldType), false, false)
  | 193 => (11, 1, 1, yX12_fault, cX12_fault, (some (.int) : Option FieldType), false, false)
  | 194 => (11, 1, 3, yX12_tongue, cX12_tongue, (some (.int) : Option FieldType), false, false)
  | 195 => (11, 1, 1, yX12_taken, cX12_taken, (none : Option FieldType), false, false)
  | 196 => (11, 1, 4, yX12_next, cX12_next, (none : Option FieldType), false, false)
  | 197 => (11, 1, 1, yX12_peek, cX12_peek, (some (.int) : Option FieldType), false, false)
  | 198 => (11, 1, 1, yX12_isSmall, cX12_isSmall, (some (.boolean) : Option FieldType), false, true)
  | 199 => (11, 1, 1, yX12_isDigit, cX12_isDigit, (some (.boolean) : Option FieldType), false, true)
  | 200 => (11, 1, 2, yX12_tongueRule, cX12_tongueRule, (some (.boolean) : Option FieldType), false, false)
  | 201 => (11, 2, 3, yX12_isWord, cX12_isWord, (some (.boolean) : Option FieldType), false, false)
  | 202 => (11, 2, 2, yX12_once, cX12_once, (some (.boolean) : Option FieldType), false, false)
  | 203 => (11, 3, 3, yX12_wrong, cX12_wrong, (some (.boolean) : Option FieldType), false, false)
  | 204 => (11, 1, 1, yX12_cant, cX12_cant, (some (.boolean) : Option FieldType), false, false)
  | 205 => (11, 1, 1, yX12_semi, cX12_semi, (some (.boolean) : Option FieldType), false, false)
  | 206 => (11, 2, 5, yX12_words, cX12_words, (some (.boolean) : Option FieldType), false, false)
  | 207 => (11, 1, 1, yX12_beats, cX12_beats, (some (.int) : Option FieldType), false, false)
  | 208 => (11, 1, 2, yX12_takeWord, cX12_takeWord, (some (.boolean) : Option FieldType), false, false)
  | 209 => (11, 3, 7, yX12_beatsOf, cX12_beatsOf, (some (.int) : Option FieldType), false, false)
  | 210 => (11, 2, 2, yX12_isVowel, cX12_isVowel, (some (.boolean) : Option FieldType), false, false)
  | 211 => (11, 2, 4, yX12_isPair, cX12_isPair, (some (.boolean) : Option FieldType), false, false)
  | 212 => (11, 3, 7, yX12_muteEnd, cX12_muteEnd, (some (.int) : Option FieldType), false, false)
  | 213 => (11, 1, 1, yX12_strong, cX12_strong, (some (.int) : Option FieldType), false, false)
  | 214 => (11, 2, 2, yX12_strongOf, cX12_strongOf, (some (.int) : Option FieldType), false, false)
  | 215 => (11, 1, 2, yX12_people, cX12_people, (some (.int) : Option FieldType), false, false)
  | 216 => (11, 2, 5, yX12_wordsOf, cX12_wordsOf, (some (.int) : Option FieldType), false, false)
  | 217 => (11, 3, 6, yX12_takeWords, cX12_takeWords, (none : Option FieldType), false, false)
  | 218 => (11, 1, 2, yX12_answers, cX12_answers, (some (.int) : Option FieldType), false, false)
  | 219 => (11, 2, 5, yX12_rhyme, cX12_rhyme, (some (.int) : Option FieldType), false, false)
  | 220 => (11, 1, 3, yX12_line, cX12_line, (some (.boolean) : Option FieldType), false, false)
  | 221 => (11, 1, 1, yX12_isBeyond, cX12_isBeyond, (some (.boolean) : Option FieldType), false, false)
  | 222 => (11, 1, 1, yX12_bad, cX12_bad, (some (.boolean) : Option FieldType), false, false)
  | 223 => (11, 2, 5, yX12_item, cX12_item, (some (.boolean) : Option FieldType), false, false)
  | 224 => (11, 2, 2, yX12_forget, cX12_forget, (some (.boolean) : Option FieldType), false, false)
  | 225 => (11, 2, 2, yX12_has, cX12_has, (some (.boolean) : Option FieldType), false, false)
  | 226 => (11, 3, 3, yX12_born, cX12_born, (some (.boolean) : Option FieldType), false, false)
  | 227 => (11, 3, 3, yX12_counted, cX12_counted, (some (.int) : Option FieldType), false, false)
  | 228 => (11, 3, 6, yX12_countedOf, cX12_countedOf, (some (.int) : Option FieldType), false, false)
  | 229 => (11, 3, 3, yX12_counts, cX12_counts, (some (.int) : Option FieldType), false, false)
  | 230 => (11, 3, 3, yX12_feet, cX12_feet, (some (.int) : Option FieldType), false, false)
  | 231 => (11, 4, 10, yX12_feetOf, cX12_feetOf, (some (.int) : Option FieldType), false, false)
  | 232 => (11, 2, 2, yX12_octet, cX12_octet, (some (.int) : Option FieldType), false, false)
  | 233 => (11, 2, 2, yX12_throwsIf, cX12_throwsIf, (some (.boolean) : Option FieldType), false, false)
  | 234 => (11, 3, 7, yX12_alike, cX12_alike, (some (.int) : Option FieldType), false, false)
  | 235 => (11, 1, 3, yX12_yard, cX12_yard, (some (.int) : Option FieldType), false, false)
  | 236 => (11, 1, 1, yX12_yardRule, cX12_yardRule, (some (.boolean) : Option FieldType), false, false)
  | 237 => (11, 5, 8, yX12_choice, cX12_choice, (some (.boolean) : Option FieldType), false, false)
  | 238 => (11, 1, 1, yX12_init, cX12_init, (none : Option FieldType), true, false)
  | 239 => (11, 1, 8, yX12_play, cX12_play, (some (.int) : Option FieldType), false, false)
  | 240 => (11, 1, 1, yX12_prepareYard, cX12_prepareYard, (some (.boolean) : Option FieldType), false, false)
  | 241 => (11, 6, 6, yX12_use, cX12_use, (none : Option FieldType), false, false)
  | 242 => (11, 1, 4, yX12_prepare, cX12_prepare, (some (.boolean) : Option FieldType), false, false)
  | 243 => (11, 3, 5, yX12_weigh, cX12_weigh, (none : Option FieldType), false, false)
  | 244 => (11, 1, 1, yX12_isOverAtFirst, cX12_isOverAtFirst, (some (.boolean) : Option FieldType), false, false)
  | 245 => (11, 5, 8, yX12_walk, cX12_walk, (none : Option FieldType), false, false)
  | 246 => (11, 3, 4, yX12_say, cX12_say, (none : Option FieldType), false, false)
  | 247 => (11, 2, 2, yX12_personOf, cX12_personOf, (some (.int) : Option FieldType), false, false)
  | 248 => (11, 6, 9, yX12_finish, cX12_finish, (none : Option FieldType), false, false)
  | 249 => (11, 2, 4, yX12_peopleIn, cX12_peopleIn, (some (.int) : Option FieldType), false, false)
  | 250 => (11, 1, 3, yX12_many, cX12_many, (some (.int) : Option FieldType), false, true)
  | 251 => (11, 4, 5, yX12_behind, cX12_behind, (some (.int) : Option FieldType), false, false)
  | 252 => (11, 2, 2, yX12_hit, cX12_hit, (some (.int) : Option FieldType), false, false)
  | 253 => (11, 2, 12, yX12_last, cX12_last, (some (.long) : Option FieldType), false, false)
  | 254 => (11, 2, 2, yX12_game, cX12_game, (some (.int) : Option FieldType), false, false)
  | 255 => (11, 2, 2, yX12_mayPlay, cX12_mayPlay, (some (.boolean) : Option FieldType), false, false)
  | 256 => (11, 2, 4, yX12_solve, cX12_solve, (none : Option FieldType), false, false)
  | 257 => (11, 1, 2, yX12_mark, cX12_mark, (none : Option FieldType), false, false)
  | 258 => (11, 1, 1, yX12_begin, cX12_begin, (some (.int) : Option FieldType), false, false)
  | 259 => (11, 4, 4, yX12_stateOf, cX12_stateOf, (some (.int) : Option FieldType), false, true)
  | 260 => (11, 2, 4, yX12_markFrom, cX12_markFrom, (none : Option FieldType), false, false)
  | 261 => (11, 2, 2, yX12_walkState, cX12_walkState, (some (.boolean) : Option FieldType), false, false)
  | 262 => (11, 1, 1, yX12_maskOf, cX12_maskOf, (some (.int) : Option FieldType), false, true)
  | 263 => (11, 1, 1, yX12_startOf, cX12_startOf, (some (.int) : Option FieldType), false, true)
  | 264 => (11, 1, 1, yX12_wayOf, cX12_wayOf, (some (.int) : Option FieldType), false, true)
  | 265 => (11, 3, 3, yX12_finishState, cX12_finishState, (none : Option FieldType), false, false)
  | 266 => (11, 3, 5, yX12_answerIn, cX12_answerIn, (some (.int) : Option FieldType), false, false)
  | 267 => (11, 1, 1, yX12_leftBy, cX12_leftBy, (some (.int) : Option FieldType), false, false)
  | 268 => (11, 3, 3, yX12_isMet, cX12_isMet, (some (.boolean) : Option FieldType), false, false)
  | 269 => (11, 2, 3, yX12_says, cX12_says, (some (.int) : Option FieldType), false, false)
  | 270 => (11, 2, 9, yX12_sure, cX12_sure, (some (.int) : Option FieldType), false, false)
  | 271 => (11, 3, 6, yX12_share, cX12_share, (some (.int) : Option FieldType), false, false)
  | 272 => (11, 2, 8, yX12_waysOf, cX12_waysOf, (some (.int) : Option FieldType), false, false)
  | 273 => (11, 2, 4, yX12_power, cX12_power, (some (.int) : Option FieldType), false, true)
  | 274 => (11, 2, 5, yX12_common, cX12_common, (some (.int) : Option FieldType), false, true)
  | 275 => (11, 1, 2, yX12_mend, cX12_mend, (some (.int) : Option FieldType), false, false)
  | 276 => (11, 1, 3, yX12_isEven, cX12_isEven, (some (.boolean) : Option FieldType), false, false)
  | 277 => (11, 3, 3, yX12_changes, cX12_changes, (some (.int) : Option FieldType), false, false)
  | 278 => (11, 3, 3, yX12_changesOf, cX12_changesOf, (some (.int) : Option FieldType), false, false)
  | 279 => (11, 4, 9, yX12_lead, cX12_lead, (none : Option FieldType), false, false)
  | 280 => (11, 5, 9, yX12_lineTo, cX12_lineTo, (some (.int) : Option FieldType), false, false)
  | 281 => (11, 3, 3, yX12_itemsOf, cX12_itemsOf, (some (.int) : Option FieldType), false, false)
  | 282 => (11, 7, 12, yX12_isSame, cX12_isSame, (some (.boolean) : Option FieldType), false, false)
  | 283 => (11, 3, 4, yX12_least, cX12_least, (some (.int) : Option FieldType), false, true)
  | 284 => (11, 2, 6, yX12_parent, cX12_parent, (some (.int) : Option FieldType), false, false)
  | 285 => (11, 3, 12, yX12_mixed, cX12_mixed, (some (.int) : Option FieldType), false, false)
  | 286 => (11, 3, 5, yX12_leastOf, cX12_leastOf, (some (.int) : Option FieldType), false, false)
  | 287 => (11, 1, 1, yX12_holds, cX12_holds, (some (.int) : Option FieldType), false, false)
  | 288 => (11, 1, 2, yX12_isRecord, cX12_isRecord, (some (.boolean) : Option FieldType), false, false)
  | 289 => (11, 1, 6, yX12_holdsTo, cX12_holdsTo, (some (.int) : Option FieldType), false, false)
  | 290 => (11, 1, 3, yX12_explain, cX12_explain, (some (.int) : Option FieldType), false, false)
  | 291 => (11, 2, 4, yX12_told, cX12_told, (some (.int) : Option FieldType), false, false)
  | 292 => (12, 1, 1, yX5_init, cX5_init, (none : Option FieldType), true, false)
  | 293 => (12, 4, 7, yX5_read, cX5_read, (some (.int) : Option FieldType), false, false)
  | 294 => (13, 1, 1, yJ6_bitCount_0f7a4, cJ6_bitCount_0f7a4, (some (.int) : Option FieldType), false, true)
  | 295 => (15, 2, 4, yJ7_fill_53178, cJ7_fill_53178, (none : Option FieldType), false, true)
  | _ => (99, 0, 0, yX0_init, cX0_init, none, false, false)
theorem q_X0_init : xMI 0 = (0, 1, 1, yX0_init, cX0_init, (none : Option FieldType), true, false) := rfl
theorem q_X0_likeLines : xMI 1 = (0, 4, 6, yX0_likeLines, cX0_likeLines, (some (.int) : Option FieldType), false, false) := rfl
theorem q_X0_isLikeLine : xMI 2 = (0, 5, 7, yX0_isLikeLine, cX0_isLikeLine, (some (.boolean) : Option FieldType), false, false) := rfl
theorem q_X0_between : xMI 3 = (0, 3, 3, yX0_between, cX0_between, (some (.int) : Option FieldType), false, false) := rfl
theorem q_X0_weighLines : xMI 4 = (0, 3, 5, yX0_weighLines, cX0_weighLines, (none : Option FieldType), false, false) := rfl
theorem q_X0_itemChanges : xMI 5 = (0, 5, 11, yX0_itemChanges, cX0_itemChanges, (some (.int) : Option FieldType), false, false) := rfl
theorem q_X0_sumForward : xMI 6 = (0, 3, 6, yX0_sumForward, cX0_sumForward, (none : Option FieldType), false, false) := rfl
theorem q_X0_weighParts : xMI 7 = (0, 4, 4, yX0_weighParts, cX0_weighParts, (none : Option FieldType), false, false) := rfl
theorem q_X0_takeLeast : xMI 8 = (0, 4, 6, yX0_takeLeast, cX0_takeLeast, (none : Option FieldType), false, false) := rfl
theorem q_X0_sumBackward : xMI 9 = (0, 3, 8, yX0_sumBackward, cX0_sumBackward, (none : Option FieldType), false, false) := rfl
theorem q_X0_bestCut : xMI 10 = (0, 4, 6, yX0_bestCut, cX0_bestCut, (some (.int) : Option FieldType), false, false) := rfl
theorem q_X0_mixtureCost : xMI 11 = (0, 4, 4, yX0_mixtureCost, cX0_mixtureCost, (some (.int) : Option FieldType), false, false) := rfl
theorem q_X1_init : xMI 12 = (1, 1, 1, yX1_init, cX1_init, (none : Option FieldType), true, false) := rfl
theorem q_X1_learn : xMI 13 = (1, 3, 5, yX1_learn, cX1_learn, (none : Option FieldType), false, false) := rfl
theorem q_X1_learnLine : xMI 14 = (1, 5, 9, yX1_learnLine, cX1_learnLine, (some (.int) : Option FieldType), false, false) := rfl
theorem q_X1_putGap : xMI 15 = (1, 3, 3, yX1_putGap, cX1_putGap, (some (.int) : Option FieldType), false, false) := rfl
theorem q_X1_gapAt : xMI 16 = (1, 2, 2, yX1_gapAt, cX1_gapAt, (some (.int) : Option FieldType), false, false) := rfl
theorem q_X2_init : xMI 17 = (2, 1, 1, yX2_init, cX2_init, (none : Option FieldType), true, false) := rfl
theorem q_X2_leftBy : xMI 18 = (2, 3, 3, yX2_leftBy, cX2_leftBy, (some (.int) : Option FieldType), false, false) := rfl
theorem q_X2_setOut : xMI 19 = (2, 4, 4, yX2_setOut, cX2_setOut, (none : Option FieldType), false, false) := rfl
theorem q_X2_worthOf : xMI 20 = (2, 4, 8, yX2_worthOf, cX2_worthOf, (some (.int) : Option FieldType), false, false) := rfl
theorem q_X2_endWorth : xMI 21 = (2, 2, 2, yX2_endWorth, cX2_endWorth, (some (.int) : Option FieldType), false, false) := rfl
theorem q_X2_meets : xMI 22 = (2, 3, 3, yX2_meets, cX2_meets, (some (.boolean) : Option FieldType), false, false) := rfl
theorem q_X2_key : xMI 23 = (2, 2, 2, yX2_key, cX2_key, (some (.int) : Option FieldType), false, true) := rfl
theorem q_X2_isKey : xMI 24 = (2, 1, 1, yX2_isKey, cX2_isKey, (some (.boolean) : Option FieldType), false, true) := rfl
theorem q_X2_worthAfter : xMI 25 = (2, 5, 7, yX2_worthAfter, cX2_worthAfter, (some (.int) : Option FieldType), false, false) := rfl
theorem q_X2_isSettled : xMI 26 = (2, 3, 4, yX2_isSettled, cX2_isSettled, (some (.boolean) : Option FieldType), false, false) := rfl
theorem q_X2_sees : xMI 27 = (2, 2, 2, yX2_sees, cX2_sees, (some (.boolean) : Option FieldType), false, false) := rfl
theorem q_X2_better : xMI 28 = (2, 4, 4, yX2_better, cX2_better, (some (.int) : Option FieldType), false, false) := rfl
theorem q_X2_firstAnswer : xMI 29 = (2, 3, 9, yX2_firstAnswer, cX2_firstAnswer, (some (.int) : Option FieldType), false, false) := rfl
theorem q_X2_isSure : xMI 30 = (2, 3, 3, yX2_isSure, cX2_isSure, (some (.boolean) : Option FieldType), false, false) := rfl
theorem q_X2_reckonShares : xMI 31 = (2, 1, 4, yX2_reckonShares, cX2_reckonShares, (none : Option FieldType), false, false) := rfl
theorem q_X2_wholeShare : xMI 32 = (2, 1, 3, yX2_wholeShare, cX2_wholeShare, (some (.int) : Option FieldType), false, false) := rfl
theorem q_X2_add : xMI 33 = (2, 4, 5, yX2_add, cX2_add, (none : Option FieldType), false, false) := rfl
theorem q_X2_pass : xMI 34 = (2, 4, 9, yX2_pass, cX2_pass, (none : Option FieldType), false, false) := rfl
theorem q_X2_giveTo : xMI 35 = (2, 3, 4, yX2_giveTo, cX2_giveTo, (none : Option FieldType), false, false) := rfl
theorem q_X2_hitsBefore : xMI 36 = (2, 2, 2, yX2_hitsBefore, cX2_hitsBefore, (some (.int) : Option FieldType), false, false) := rfl
theorem q_X2_areSharesEven : xMI 37 = (2, 1, 2, yX2_areSharesEven, cX2_areSharesEven, (some (.boolean) : Option FieldType), false, false) := rfl
theorem q_X2_shareOf : xMI 38 = (2, 2, 2, yX2_shareOf, cX2_shareOf, (some (.int) : Option FieldType), false, false) := rfl
theorem q_X2_follow : xMI 39 = (2, 3, 7, yX2_follow, cX2_follow, (some (.int) : Option FieldType), false, false) := rfl
theorem q_X2_followFrom : xMI 40 = (2, 5, 11, yX2_followFrom, cX2_followFrom, (some (.int) : Option FieldType), false, false) := rfl
theorem q_X3_init : xMI 41 = (3, 1, 1, yX3_init, cX3_init, (none : Option FieldType), true, false) := rfl
theorem q_X3_measure : xMI 42 = (3, 2, 4, yX3_measure, cX3_measure, (none : Option FieldType), false, false) := rfl
theorem q_X3_start : xMI 43 = (3, 2, 2, yX3_start, cX3_start, (some (.int) : Option FieldType), false, false) := rfl
theorem q_X3_size : xMI 44 = (3, 2, 2, yX3_size, cX3_size, (some (.int) : Option FieldType), false, false) := rfl
theorem q_X3_read : xMI 45 = (3, 3, 5, yX3_read, cX3_read, (some (.int) : Option FieldType), false, false) := rfl
theorem q_X3_take : xMI 46 = (3, 3, 3, yX3_take, cX3_take, (some (.int) : Option FieldType), false, false) := rfl
theorem q_X3_takeFirst : xMI 47 = (3, 3, 3, yX3_takeFirst, cX3_takeFirst, (some (.int) : Option FieldType), false, false) := rfl
theorem q_X3_beginItem : xMI 48 = (3, 3, 3, yX3_beginItem, cX3_beginItem, (none : Option FieldType), false, false) := rfl
theorem q_X3_takeItem : xMI 49 = (3, 3, 4, yX3_takeItem, cX3_takeItem, (some (.int) : Option FieldType), false, false) := rfl
theorem q_X3_kindFrom : xMI 50 = (3, 1, 1, yX3_kindFrom, cX3_kindFrom, (some (.int) : Option FieldType), false, true) := rfl
theorem q_X3_takeInWord : xMI 51 = (3, 2, 2, yX3_takeInWord, cX3_takeInWord, (some (.int) : Option FieldType), false, false) := rfl
theorem q_X3_spellItem : xMI 52 = (3, 1, 1, yX3_spellItem, cX3_spellItem, (none : Option FieldType), false, false) := rfl
theorem q_X3_takeBehind : xMI 53 = (3, 2, 2, yX3_takeBehind, cX3_takeBehind, (some (.int) : Option FieldType), false, false) := rfl
theorem q_X3_endLine : xMI 54 = (3, 1, 1, yX3_endLine, cX3_endLine, (none : Option FieldType), false, false) := rfl
theorem q_X3_refuse : xMI 55 = (3, 3, 3, yX3_refuse, cX3_refuse, (some (.int) : Option FieldType), false, false) := rfl
theorem q_X3_total : xMI 56 = (3, 2, 6, yX3_total, cX3_total, (some (.int) : Option FieldType), false, false) := rfl
theorem q_X3_firstItem : xMI 57 = (3, 2, 2, yX3_firstItem, cX3_firstItem, (some (.int) : Option FieldType), false, false) := rfl
theorem q_X3_countOf : xMI 58 = (3, 3, 3, yX3_countOf, cX3_countOf, (some (.int) : Option FieldType), false, false) := rfl
theorem q_X3_timesOf : xMI 59 = (3, 2, 3, yX3_timesOf, cX3_timesOf, (some (.int) : Option FieldType), false, false) := rfl
theorem q_X3_kindOf : xMI 60 = (3, 2, 2, yX3_kindOf, cX3_kindOf, (some (.int) : Option FieldType), false, false) := rfl
theorem q_X3_byteAt : xMI 61 = (3, 2, 2, yX3_byteAt, cX3_byteAt, (some (.char) : Option FieldType), false, false) := rfl
theorem q_X3_hasLine : xMI 62 = (3, 2, 2, yX3_hasLine, cX3_hasLine, (some (.boolean) : Option FieldType), false, false) := rfl
theorem q_X3_feetInto : xMI 63 = (3, 4, 11, yX3_feetInto, cX3_feetInto, (some (.int) : Option FieldType), false, false) := rfl
theorem q_X3_hasAsk : xMI 64 = (3, 1, 1, yX3_hasAsk, cX3_hasAsk, (some (.boolean) : Option FieldType), false, false) := rfl
theorem q_X3_hasNameOrAsk : xMI 65 = (3, 1, 2, yX3_hasNameOrAsk, cX3_hasNameOrAsk, (some (.boolean) : Option FieldType), false, false) := rfl
theorem q_X3_itemsIn : xMI 66 = (3, 2, 2, yX3_itemsIn, cX3_itemsIn, (some (.int) : Option FieldType), false, false) := rfl
theorem q_X3_isSameItem : xMI 67 = (3, 4, 5, yX3_isSameItem, cX3_isSameItem, (some (.boolean) : Option FieldType), false, false) := rfl
theorem q_X4_init : xMI 68 = (4, 1, 2, yX4_init, cX4_init, (none : Option FieldType), true, false) := rfl
theorem q_X4_gather : xMI 69 = (4, 4, 5, yX4_gather, cX4_gather, (none : Option FieldType), false, false) := rfl
theorem q_X4_learn : xMI 70 = (4, 3, 4, yX4_learn, cX4_learn, (none : Option FieldType), false, false) := rfl
theorem q_X4_chantOf : xMI 71 = (4, 2, 2, yX4_chantOf, cX4_chantOf, (some (.object "RhymeRing$Chant") : Option FieldType), false, false) := rfl
theorem q_X4_allHands : xMI 72 = (4, 1, 1, yX4_allHands, cX4_allHands, (some (.int) : Option FieldType), false, false) := rfl
theorem q_X4_isOver : xMI 73 = (4, 2, 2, yX4_isOver, cX4_isOver, (some (.boolean) : Option FieldType), false, false) := rfl
theorem q_X4_owners : xMI 74 = (4, 2, 4, yX4_owners, cX4_owners, (some (.int) : Option FieldType), false, false) := rfl
theorem q_X4_reckon : xMI 75 = (4, 4, 7, yX4_reckon, cX4_reckon, (some (.int) : Option FieldType), false, false) := rfl
theorem q_X4_lineUp : xMI 76 = (4, 4, 6, yX4_lineUp, cX4_lineUp, (none : Option FieldType), false, false) := rfl
theorem q_X4_isIn : xMI 77 = (4, 2, 2, yX4_isIn, cX4_isIn, (some (.boolean) : Option FieldType), false, true) := rfl
theorem q_X4_beside : xMI 78 = (4, 3, 3, yX4_beside, cX4_beside, (some (.int) : Option FieldType), false, false) := rfl
theorem q_X4_sayAll : xMI 79 = (4, 2, 7, yX4_sayAll, cX4_sayAll, (some (.int) : Option FieldType), false, false) := rfl
theorem q_X4_sayLine : xMI 80 = (4, 5, 7, yX4_sayLine, cX4_sayLine, (some (.int) : Option FieldType), false, false) := rfl
theorem q_X4_handAt : xMI 81 = (4, 2, 3, yX4_handAt, cX4_handAt, (some (.int) : Option FieldType), false, false) := rfl
theorem q_X4_ownerOf : xMI 82 = (4, 2, 2, yX4_ownerOf, cX4_ownerOf, (some (.int) : Option FieldType), false, false) := rfl
theorem q_X4_beatsOfName : xMI 83 = (4, 2, 2, yX4_beatsOfName, cX4_beatsOfName, (some (.int) : Option FieldType), false, false) := rfl
theorem q_X4_askerOf : xMI 84 = (4, 2, 2, yX4_askerOf, cX4_askerOf, (some (.int) : Option FieldType), false, false) := rfl
theorem q_X4_handHit : xMI 85 = (4, 3, 3, yX4_handHit, cX4_handHit, (some (.int) : Option FieldType), false, false) := rfl
theorem q_X4_nextBegin : xMI 86 = (4, 5, 6, yX4_nextBegin, cX4_nextBegin, (some (.int) : Option FieldType), false, false) := rfl
theorem q_X4_nextIn : xMI 87 = (4, 4, 6, yX4_nextIn, cX4_nextIn, (some (.int) : Option FieldType), false, false) := rfl
theorem q_X4_isTooGreat : xMI 88 = (4, 1, 1, yX4_isTooGreat, cX4_isTooGreat, (some (.boolean) : Option FieldType), false, false) := rfl
theorem q_X4_rest : xMI 89 = (4, 3, 4, yX4_rest, cX4_rest, (none : Option FieldType), false, false) := rfl
theorem q_X4_useOnly : xMI 90 = (4, 2, 2, yX4_useOnly, cX4_useOnly, (none : Option FieldType), false, false) := rfl
theorem q_X6_init : xMI 91 = (5, 1, 1, yX6_init, cX6_init, (none : Option FieldType), true, false) := rfl
theorem q_X6_put : xMI 92 = (5, 2, 3, yX6_put, cX6_put, (none : Option FieldType), false, false) := rfl
theorem q_X6_take : xMI 93 = (5, 1, 2, yX6_take, cX6_take, (some (.int) : Option FieldType), false, false) := rfl
theorem q_X6_isWord : xMI 94 = (5, 2, 3, yX6_isWord, cX6_isWord, (some (.boolean) : Option FieldType), false, false) := rfl
theorem q_X6_isBelow : xMI 95 = (5, 3, 4, yX6_isBelow, cX6_isBelow, (some (.boolean) : Option FieldType), false, false) := rfl
theorem q_X6_byteOr : xMI 96 = (5, 4, 4, yX6_byteOr, cX6_byteOr, (some (.int) : Option FieldType), false, false) := rfl
theorem q_X7_init : xMI 97 = (6, 1, 1, yX7_init, cX7_init, (none : Option FieldType), true, false) := rfl
theorem q_X7_open : xMI 98 = (6, 3, 3, yX7_open, cX7_open, (none : Option FieldType), false, false) := rfl
theorem q_X7_step : xMI 99 = (6, 1, 3, yX7_step, cX7_step, (none : Option FieldType), false, false) := rfl
theorem q_X7_kindOfRun : xMI 100 = (6, 2, 2, yX7_kindOfRun, cX7_kindOfRun, (some (.int) : Option FieldType), false, true) := rfl
theorem q_X7_passRule : xMI 101 = (6, 3, 4, yX7_passRule, cX7_passRule, (some (.int) : Option FieldType), false, false) := rfl
theorem q_X7_pick : xMI 102 = (6, 2, 5, yX7_pick, cX7_pick, (some (.int) : Option FieldType), false, false) := rfl
theorem q_X7_spells : xMI 103 = (6, 4, 5, yX7_spells, cX7_spells, (some (.boolean) : Option FieldType), false, false) := rfl
theorem q_X7_size : xMI 104 = (6, 1, 1, yX7_size, cX7_size, (some (.int) : Option FieldType), false, false) := rfl
theorem q_X7_refuseHere : xMI 105 = (6, 1, 1, yX7_refuseHere, cX7_refuseHere, (some (.boolean) : Option FieldType), false, false) := rfl
theorem q_X7_refuse : xMI 106 = (6, 2, 2, yX7_refuse, cX7_refuse, (some (.boolean) : Option FieldType), false, false) := rfl
theorem q_X7_digit : xMI 107 = (6, 1, 1, yX7_digit, cX7_digit, (some (.int) : Option FieldType), false, false) := rfl
theorem q_X7_passStop : xMI 108 = (6, 1, 1, yX7_passStop, cX7_passStop, (some (.boolean) : Option FieldType), false, false) := rfl
theorem q_X8_init : xMI 109 = (7, 1, 1, yX8_init, cX8_init, (none : Option FieldType), true, false) := rfl
theorem q_X8_reset : xMI 110 = (7, 1, 1, yX8_reset, cX8_reset, (none : Option FieldType), false, false) := rfl
theorem q_X8_readRule : xMI 111 = (7, 3, 3, yX8_readRule, cX8_readRule, (some (.boolean) : Option FieldType), false, false) := rfl
theorem q_X8_readVowels : xMI 112 = (7, 2, 3, yX8_readVowels, cX8_readVowels, (some (.boolean) : Option FieldType), false, false) := rfl
theorem q_X8_readParts : xMI 113 = (7, 4, 5, yX8_readParts, cX8_readParts, (some (.int) : Option FieldType), false, true) := rfl
theorem q_X8_packed : xMI 114 = (7, 3, 5, yX8_packed, cX8_packed, (some (.int) : Option FieldType), false, true) := rfl
theorem q_X8_readStrong : xMI 115 = (7, 2, 2, yX8_readStrong, cX8_readStrong, (some (.boolean) : Option FieldType), false, false) := rfl
theorem q_X8_beatsIn : xMI 116 = (7, 4, 6, yX8_beatsIn, cX8_beatsIn, (some (.int) : Option FieldType), false, false) := rfl
theorem q_X8_vowelBeats : xMI 117 = (7, 4, 10, yX8_vowelBeats, cX8_vowelBeats, (some (.int) : Option FieldType), false, false) := rfl
theorem q_X8_isAmong : xMI 118 = (7, 3, 4, yX8_isAmong, cX8_isAmong, (some (.boolean) : Option FieldType), false, true) := rfl
theorem q_X8_mutedLetters : xMI 119 = (7, 4, 5, yX8_mutedLetters, cX8_mutedLetters, (some (.int) : Option FieldType), false, false) := rfl
theorem q_X8_strongOf : xMI 120 = (7, 2, 2, yX8_strongOf, cX8_strongOf, (some (.int) : Option FieldType), false, false) := rfl
theorem q_X9_init : xMI 121 = (8, 1, 1, yX9_init, cX9_init, (none : Option FieldType), true, false) := rfl
theorem q_X9_measure : xMI 122 = (8, 2, 3, yX9_measure, cX9_measure, (none : Option FieldType), false, false) := rfl
theorem q_X9_lettersOf : xMI 123 = (8, 2, 2, yX9_lettersOf, cX9_lettersOf, (some (.int) : Option FieldType), false, false) := rfl
theorem q_X9_read : xMI 124 = (8, 4, 8, yX9_read, cX9_read, (some (.boolean) : Option FieldType), false, false) := rfl
theorem q_X9_beatsOf : xMI 125 = (8, 2, 2, yX9_beatsOf, cX9_beatsOf, (some (.int) : Option FieldType), false, false) := rfl
theorem q_X10_init : xMI 126 = (9, 1, 1, yX10_init, cX10_init, (none : Option FieldType), true, false) := rfl
theorem q_X10_setUsual : xMI 127 = (9, 1, 1, yX10_setUsual, cX10_setUsual, (none : Option FieldType), false, false) := rfl
theorem q_X10_reset : xMI 128 = (9, 1, 1, yX10_reset, cX10_reset, (none : Option FieldType), false, false) := rfl
theorem q_X10_readRule : xMI 129 = (9, 3, 4, yX10_readRule, cX10_readRule, (some (.boolean) : Option FieldType), false, false) := rfl
theorem q_X10_readLeft : xMI 130 = (9, 2, 2, yX10_readLeft, cX10_readLeft, (some (.boolean) : Option FieldType), false, false) := rfl
theorem q_X10_readRhymes : xMI 131 = (9, 2, 3, yX10_readRhymes, cX10_readRhymes, (some (.boolean) : Option FieldType), false, false) := rfl
theorem q_X10_choicesOf : xMI 132 = (9, 1, 1, yX10_choicesOf, cX10_choicesOf, (some (.object "java/lang/String") : Option FieldType), false, true) := rfl
theorem q_X10_rhymeAt : xMI 133 = (9, 2, 2, yX10_rhymeAt, cX10_rhymeAt, (some (.int) : Option FieldType), false, false) := rfl
theorem q_X10_hasFists : xMI 134 = (9, 1, 1, yX10_hasFists, cX10_hasFists, (some (.boolean) : Option FieldType), false, false) := rfl
theorem q_X10_leftMost : xMI 135 = (9, 1, 1, yX10_leftMost, cX10_leftMost, (some (.int) : Option FieldType), false, false) := rfl
theorem q_X10_nextFrom : xMI 136 = (9, 1, 1, yX10_nextFrom, cX10_nextFrom, (some (.int) : Option FieldType), false, false) := rfl
theorem q_X10_countsBeats : xMI 137 = (9, 1, 1, yX10_countsBeats, cX10_countsBeats, (some (.boolean) : Option FieldType), false, false) := rfl
theorem q_X10_hitStays : xMI 138 = (9, 1, 1, yX10_hitStays, cX10_hitStays, (some (.boolean) : Option FieldType), false, false) := rfl
theorem q_X10_turnsAlways : xMI 139 = (9, 1, 1, yX10_turnsAlways, cX10_turnsAlways, (some (.boolean) : Option FieldType), false, false) := rfl
theorem q_X10_wantsLeft : xMI 140 = (9, 1, 1, yX10_wantsLeft, cX10_wantsLeft, (some (.boolean) : Option FieldType), false, false) := rfl
theorem q_X11_init : xMI 141 = (10, 1, 2, yX11_init, cX11_init, (none : Option FieldType), true, false) := rfl
theorem q_X11_feed : xMI 142 = (10, 6, 6, yX11_feed, cX11_feed, (some (.int) : Option FieldType), false, false) := rfl
theorem q_X11_end : xMI 143 = (10, 2, 2, yX11_end, cX11_end, (some (.boolean) : Option FieldType), false, false) := rfl
theorem q_X11_tongue : xMI 144 = (10, 1, 3, yX11_tongue, cX11_tongue, (some (.int) : Option FieldType), false, false) := rfl
theorem q_X11_isSmall : xMI 145 = (10, 1, 1, yX11_isSmall, cX11_isSmall, (some (.boolean) : Option FieldType), false, true) := rfl
theorem q_X11_isDigit : xMI 146 = (10, 1, 1, yX11_isDigit, cX11_isDigit, (some (.boolean) : Option FieldType), false, true) := rfl
theorem q_X11_isSlot : xMI 147 = (10, 1, 1, yX11_isSlot, cX11_isSlot, (some (.boolean) : Option FieldType), false, true) := rfl
theorem q_X11_measureAll : xMI 148 = (10, 1, 3, yX11_measureAll, cX11_measureAll, (none : Option FieldType), false, false) := rfl
theorem q_X11_rhymeIn : xMI 149 = (10, 2, 3, yX11_rhymeIn, cX11_rhymeIn, (some (.object "RhymeRing$Rhyme") : Option FieldType), false, false) := rfl
theorem q_X11_yard : xMI 150 = (10, 1, 3, yX11_yard, cX11_yard, (some (.int) : Option FieldType), false, false) := rfl
theorem q_X11_rhyme : xMI 151 = (10, 2, 5, yX11_rhyme, cX11_rhyme, (some (.int) : Option FieldType), false, false) := rfl
theorem q_X11_fault : xMI 152 = (10, 1, 1, yX11_fault, cX11_fault, (some (.int) : Option FieldType), false, false) := rfl
theorem q_X11_people : xMI 153 = (10, 1, 2, yX11_people, cX11_people, (some (.int) : Option FieldType), false, false) := rfl
theorem q_X11_answers : xMI 154 = (10, 1, 2, yX11_answers, cX11_answers, (some (.int) : Option FieldType), false, false) := rfl
theorem q_X11_forget : xMI 155 = (10, 2, 3, yX11_forget, cX11_forget, (some (.boolean) : Option FieldType), false, false) := rfl
theorem q_X11_born : xMI 156 = (10, 3, 4, yX11_born, cX11_born, (some (.boolean) : Option FieldType), false, false) := rfl
theorem q_X11_beats : xMI 157 = (10, 1, 2, yX11_beats, cX11_beats, (some (.int) : Option FieldType), false, false) := rfl
theorem q_X11_strong : xMI 158 = (10, 1, 2, yX11_strong, cX11_strong, (some (.int) : Option FieldType), false, false) := rfl
theorem q_X11_counted : xMI 159 = (10, 3, 4, yX11_counted, cX11_counted, (some (.int) : Option FieldType), false, false) := rfl
theorem q_X11_feet : xMI 160 = (10, 3, 4, yX11_feet, cX11_feet, (some (.int) : Option FieldType), false, false) := rfl
theorem q_X11_alike : xMI 161 = (10, 3, 5, yX11_alike, cX11_alike, (some (.int) : Option FieldType), false, false) := rfl
theorem q_X11_play : xMI 162 = (10, 1, 2, yX11_play, cX11_play, (some (.int) : Option FieldType), false, false) := rfl
theorem q_X11_areRhymesThere : xMI 163 = (10, 1, 2, yX11_areRhymesThere, cX11_areRhymesThere, (some (.boolean) : Option FieldType), false, false) := rfl
theorem q_X11_learnRhymes : xMI 164 = (10, 1, 3, yX11_learnRhymes, cX11_learnRhymes, (none : Option FieldType), false, false) := rfl
theorem q_X11_walk : xMI 165 = (10, 2, 7, yX11_walk, cX11_walk, (some (.int) : Option FieldType), false, false) := rfl
theorem q_X11_hit : xMI 166 = (10, 2, 2, yX11_hit, cX11_hit, (some (.int) : Option FieldType), false, false) := rfl
theorem q_X11_last : xMI 167 = (10, 2, 4, yX11_last, cX11_last, (some (.long) : Option FieldType), false, false) := rfl
theorem q_X11_survivor : xMI 168 = (10, 2, 10, yX11_survivor, cX11_survivor, (some (.long) : Option FieldType), false, true) := rfl
theorem q_X11_game : xMI 169 = (10, 2, 2, yX11_game, cX11_game, (some (.int) : Option FieldType), false, false) := rfl
theorem q_X11_isGameReady : xMI 170 = (10, 1, 1, yX11_isGameReady, cX11_isGameReady, (some (.boolean) : Option FieldType), false, false) := rfl
theorem q_X11_areFolk : xMI 171 = (10, 2, 2, yX11_areFolk, cX11_areFolk, (some (.boolean) : Option FieldType), false, false) := rfl
theorem q_X11_says : xMI 172 = (10, 2, 2, yX11_says, cX11_says, (some (.int) : Option FieldType), false, false) := rfl
theorem q_X11_sure : xMI 173 = (10, 2, 2, yX11_sure, cX11_sure, (some (.int) : Option FieldType), false, false) := rfl
theorem q_X11_isPerson : xMI 174 = (10, 2, 2, yX11_isPerson, cX11_isPerson, (some (.boolean) : Option FieldType), false, false) := rfl
theorem q_X11_mend : xMI 175 = (10, 1, 3, yX11_mend, cX11_mend, (some (.int) : Option FieldType), false, false) := rfl
theorem q_X11_changes : xMI 176 = (10, 3, 5, yX11_changes, cX11_changes, (some (.int) : Option FieldType), false, false) := rfl
theorem q_X11_parent : xMI 177 = (10, 2, 8, yX11_parent, cX11_parent, (some (.int) : Option FieldType), false, false) := rfl
theorem q_X11_elderIn : xMI 178 = (10, 3, 4, yX11_elderIn, cX11_elderIn, (some (.object "RhymeRing$Rhyme") : Option FieldType), false, false) := rfl
theorem q_X11_mixed : xMI 179 = (10, 3, 6, yX11_mixed, cX11_mixed, (some (.int) : Option FieldType), false, false) := rfl
theorem q_X11_mixture : xMI 180 = (10, 3, 11, yX11_mixture, cX11_mixture, (some (.int) : Option FieldType), false, false) := rfl
theorem q_X11_holds : xMI 181 = (10, 1, 2, yX11_holds, cX11_holds, (some (.int) : Option FieldType), false, false) := rfl
theorem q_X11_isRecord : xMI 182 = (10, 2, 2, yX11_isRecord, cX11_isRecord, (some (.boolean) : Option FieldType), false, false) := rfl
theorem q_X11_explain : xMI 183 = (10, 1, 5, yX11_explain, cX11_explain, (some (.int) : Option FieldType), false, false) := rfl
theorem q_X11_told : xMI 184 = (10, 2, 2, yX11_told, cX11_told, (some (.int) : Option FieldType), false, false) := rfl
theorem q_X11_rhymeCount : xMI 185 = (10, 1, 3, yX11_rhymeCount, cX11_rhymeCount, (some (.int) : Option FieldType), false, false) := rfl
theorem q_X11_octet : xMI 186 = (10, 2, 2, yX11_octet, cX11_octet, (some (.int) : Option FieldType), false, false) := rfl
theorem q_X11_share : xMI 187 = (10, 3, 6, yX11_share, cX11_share, (some (.int) : Option FieldType), false, false) := rfl
theorem q_X11_commonDivisor : xMI 188 = (10, 2, 6, yX11_commonDivisor, cX11_commonDivisor, (some (.int) : Option FieldType), false, true) := rfl
theorem q_X12_thrown : xMI 189 = (11, 1, 1, yX12_thrown, cX12_thrown, (some (.int) : Option FieldType), false, false) := rfl
theorem q_X12_feed : xMI 190 = (11, 6, 6, yX12_feed, cX12_feed, (some (.int) : Option FieldType), false, false) := rfl
theorem q_X12_four : xMI 191 = (11, 2, 3, yX12_four, cX12_four, (none : Option FieldType), false, false) := rfl
theorem q_X12_end : xMI 192 = (11, 2, 2, yX12_end, cX12_end, (some (.boolean) : Option FieldType), false, false) := rfl
theorem q_X12_fault : xMI 193 = (11, 1, 1, yX12_fault, cX12_fault, (some (.int) : Option FieldType), false, false) := rfl
theorem q_X12_tongue : xMI 194 = (11, 1, 3, yX12_tongue, cX12_tongue, (some (.int) : Option FieldType), false, false) := rfl
theorem q_X12_taken : xMI 195 = (11, 1, 1, yX12_taken, cX12_taken, (none : Option FieldType), false, false) := rfl
theorem q_X12_next : xMI 196 = (11, 1, 4, yX12_next, cX12_next, (none : Option FieldType), false, false) := rfl
theorem q_X12_peek : xMI 197 = (11, 1, 1, yX12_peek, cX12_peek, (some (.int) : Option FieldType), false, false) := rfl
theorem q_X12_isSmall : xMI 198 = (11, 1, 1, yX12_isSmall, cX12_isSmall, (some (.boolean) : Option FieldType), false, true) := rfl
theorem q_X12_isDigit : xMI 199 = (11, 1, 1, yX12_isDigit, cX12_isDigit, (some (.boolean) : Option FieldType), false, true) := rfl
theorem q_X12_tongueRule : xMI 200 = (11, 1, 2, yX12_tongueRule, cX12_tongueRule, (some (.boolean) : Option FieldType), false, false) := rfl
theorem q_X12_isWord : xMI 201 = (11, 2, 3, yX12_isWord, cX12_isWord, (some (.boolean) : Option FieldType), false, false) := rfl
theorem q_X12_once : xMI 202 = (11, 2, 2, yX12_once, cX12_once, (some (.boolean) : Option FieldType), false, false) := rfl
theorem q_X12_wrong : xMI 203 = (11, 3, 3, yX12_wrong, cX12_wrong, (some (.boolean) : Option FieldType), false, false) := rfl
theorem q_X12_cant : xMI 204 = (11, 1, 1, yX12_cant, cX12_cant, (some (.boolean) : Option FieldType), false, false) := rfl
theorem q_X12_semi : xMI 205 = (11, 1, 1, yX12_semi, cX12_semi, (some (.boolean) : Option FieldType), false, false) := rfl
theorem q_X12_words : xMI 206 = (11, 2, 5, yX12_words, cX12_words, (some (.boolean) : Option FieldType), false, false) := rfl
theorem q_X12_beats : xMI 207 = (11, 1, 1, yX12_beats, cX12_beats, (some (.int) : Option FieldType), false, false) := rfl
theorem q_X12_takeWord : xMI 208 = (11, 1, 2, yX12_takeWord, cX12_takeWord, (some (.boolean) : Option FieldType), false, false) := rfl
theorem q_X12_beatsOf : xMI 209 = (11, 3, 7, yX12_beatsOf, cX12_beatsOf, (some (.int) : Option FieldType), false, false) := rfl
theorem q_X12_isVowel : xMI 210 = (11, 2, 2, yX12_isVowel, cX12_isVowel, (some (.boolean) : Option FieldType), false, false) := rfl
theorem q_X12_isPair : xMI 211 = (11, 2, 4, yX12_isPair, cX12_isPair, (some (.boolean) : Option FieldType), false, false) := rfl
theorem q_X12_muteEnd : xMI 212 = (11, 3, 7, yX12_muteEnd, cX12_muteEnd, (some (.int) : Option FieldType), false, false) := rfl
theorem q_X12_strong : xMI 213 = (11, 1, 1, yX12_strong, cX12_strong, (some (.int) : Option FieldType), false, false) := rfl
theorem q_X12_strongOf : xMI 214 = (11, 2, 2, yX12_strongOf, cX12_strongOf, (some (.int) : Option FieldType), false, false) := rfl
theorem q_X12_people : xMI 215 = (11, 1, 2, yX12_people, cX12_people, (some (.int) : Option FieldType), false, false) := rfl
theorem q_X12_wordsOf : xMI 216 = (11, 2, 5, yX12_wordsOf, cX12_wordsOf, (some (.int) : Option FieldType), false, false) := rfl
theorem q_X12_takeWords : xMI 217 = (11, 3, 6, yX12_takeWords, cX12_takeWords, (none : Option FieldType), false, false) := rfl
theorem q_X12_answers : xMI 218 = (11, 1, 2, yX12_answers, cX12_answers, (some (.int) : Option FieldType), false, false) := rfl
theorem q_X12_rhyme : xMI 219 = (11, 2, 5, yX12_rhyme, cX12_rhyme, (some (.int) : Option FieldType), false, false) := rfl
theorem q_X12_line : xMI 220 = (11, 1, 3, yX12_line, cX12_line, (some (.boolean) : Option FieldType), false, false) := rfl
theorem q_X12_isBeyond : xMI 221 = (11, 1, 1, yX12_isBeyond, cX12_isBeyond, (some (.boolean) : Option FieldType), false, false) := rfl
theorem q_X12_bad : xMI 222 = (11, 1, 1, yX12_bad, cX12_bad, (some (.boolean) : Option FieldType), false, false) := rfl
theorem q_X12_item : xMI 223 = (11, 2, 5, yX12_item, cX12_item, (some (.boolean) : Option FieldType), false, false) := rfl
theorem q_X12_forget : xMI 224 = (11, 2, 2, yX12_forget, cX12_forget, (some (.boolean) : Option FieldType), false, false) := rfl
theorem q_X12_has : xMI 225 = (11, 2, 2, yX12_has, cX12_has, (some (.boolean) : Option FieldType), false, false) := rfl
theorem q_X12_born : xMI 226 = (11, 3, 3, yX12_born, cX12_born, (some (.boolean) : Option FieldType), false, false) := rfl
theorem q_X12_counted : xMI 227 = (11, 3, 3, yX12_counted, cX12_counted, (some (.int) : Option FieldType), false, false) := rfl
theorem q_X12_countedOf : xMI 228 = (11, 3, 6, yX12_countedOf, cX12_countedOf, (some (.int) : Option FieldType), false, false) := rfl
theorem q_X12_counts : xMI 229 = (11, 3, 3, yX12_counts, cX12_counts, (some (.int) : Option FieldType), false, false) := rfl
theorem q_X12_feet : xMI 230 = (11, 3, 3, yX12_feet, cX12_feet, (some (.int) : Option FieldType), false, false) := rfl
theorem q_X12_feetOf : xMI 231 = (11, 4, 10, yX12_feetOf, cX12_feetOf, (some (.int) : Option FieldType), false, false) := rfl
theorem q_X12_octet : xMI 232 = (11, 2, 2, yX12_octet, cX12_octet, (some (.int) : Option FieldType), false, false) := rfl
theorem q_X12_throwsIf : xMI 233 = (11, 2, 2, yX12_throwsIf, cX12_throwsIf, (some (.boolean) : Option FieldType), false, false) := rfl
theorem q_X12_alike : xMI 234 = (11, 3, 7, yX12_alike, cX12_alike, (some (.int) : Option FieldType), false, false) := rfl
theorem q_X12_yard : xMI 235 = (11, 1, 3, yX12_yard, cX12_yard, (some (.int) : Option FieldType), false, false) := rfl
theorem q_X12_yardRule : xMI 236 = (11, 1, 1, yX12_yardRule, cX12_yardRule, (some (.boolean) : Option FieldType), false, false) := rfl
theorem q_X12_choice : xMI 237 = (11, 5, 8, yX12_choice, cX12_choice, (some (.boolean) : Option FieldType), false, false) := rfl
theorem q_X12_init : xMI 238 = (11, 1, 1, yX12_init, cX12_init, (none : Option FieldType), true, false) := rfl
theorem q_X12_play : xMI 239 = (11, 1, 8, yX12_play, cX12_play, (some (.int) : Option FieldType), false, false) := rfl
theorem q_X12_prepareYard : xMI 240 = (11, 1, 1, yX12_prepareYard, cX12_prepareYard, (some (.boolean) : Option FieldType), false, false) := rfl
theorem q_X12_use : xMI 241 = (11, 6, 6, yX12_use, cX12_use, (none : Option FieldType), false, false) := rfl
theorem q_X12_prepare : xMI 242 = (11, 1, 4, yX12_prepare, cX12_prepare, (some (.boolean) : Option FieldType), false, false) := rfl
theorem q_X12_weigh : xMI 243 = (11, 3, 5, yX12_weigh, cX12_weigh, (none : Option FieldType), false, false) := rfl
theorem q_X12_isOverAtFirst : xMI 244 = (11, 1, 1, yX12_isOverAtFirst, cX12_isOverAtFirst, (some (.boolean) : Option FieldType), false, false) := rfl
theorem q_X12_walk : xMI 245 = (11, 5, 8, yX12_walk, cX12_walk, (none : Option FieldType), false, false) := rfl
theorem q_X12_say : xMI 246 = (11, 3, 4, yX12_say, cX12_say, (none : Option FieldType), false, false) := rfl
theorem q_X12_personOf : xMI 247 = (11, 2, 2, yX12_personOf, cX12_personOf, (some (.int) : Option FieldType), false, false) := rfl
theorem q_X12_finish : xMI 248 = (11, 6, 9, yX12_finish, cX12_finish, (none : Option FieldType), false, false) := rfl
theorem q_X12_peopleIn : xMI 249 = (11, 2, 4, yX12_peopleIn, cX12_peopleIn, (some (.int) : Option FieldType), false, false) := rfl
theorem q_X12_many : xMI 250 = (11, 1, 3, yX12_many, cX12_many, (some (.int) : Option FieldType), false, true) := rfl
theorem q_X12_behind : xMI 251 = (11, 4, 5, yX12_behind, cX12_behind, (some (.int) : Option FieldType), false, false) := rfl
theorem q_X12_hit : xMI 252 = (11, 2, 2, yX12_hit, cX12_hit, (some (.int) : Option FieldType), false, false) := rfl
theorem q_X12_last : xMI 253 = (11, 2, 12, yX12_last, cX12_last, (some (.long) : Option FieldType), false, false) := rfl
theorem q_X12_game : xMI 254 = (11, 2, 2, yX12_game, cX12_game, (some (.int) : Option FieldType), false, false) := rfl
theorem q_X12_mayPlay : xMI 255 = (11, 2, 2, yX12_mayPlay, cX12_mayPlay, (some (.boolean) : Option FieldType), false, false) := rfl
theorem q_X12_solve : xMI 256 = (11, 2, 4, yX12_solve, cX12_solve, (none : Option FieldType), false, false) := rfl
theorem q_X12_mark : xMI 257 = (11, 1, 2, yX12_mark, cX12_mark, (none : Option FieldType), false, false) := rfl
theorem q_X12_begin : xMI 258 = (11, 1, 1, yX12_begin, cX12_begin, (some (.int) : Option FieldType), false, false) := rfl
theorem q_X12_stateOf : xMI 259 = (11, 4, 4, yX12_stateOf, cX12_stateOf, (some (.int) : Option FieldType), false, true) := rfl
theorem q_X12_markFrom : xMI 260 = (11, 2, 4, yX12_markFrom, cX12_markFrom, (none : Option FieldType), false, false) := rfl
theorem q_X12_walkState : xMI 261 = (11, 2, 2, yX12_walkState, cX12_walkState, (some (.boolean) : Option FieldType), false, false) := rfl
theorem q_X12_maskOf : xMI 262 = (11, 1, 1, yX12_maskOf, cX12_maskOf, (some (.int) : Option FieldType), false, true) := rfl
theorem q_X12_startOf : xMI 263 = (11, 1, 1, yX12_startOf, cX12_startOf, (some (.int) : Option FieldType), false, true) := rfl
theorem q_X12_wayOf : xMI 264 = (11, 1, 1, yX12_wayOf, cX12_wayOf, (some (.int) : Option FieldType), false, true) := rfl
theorem q_X12_finishState : xMI 265 = (11, 3, 3, yX12_finishState, cX12_finishState, (none : Option FieldType), false, false) := rfl
theorem q_X12_answerIn : xMI 266 = (11, 3, 5, yX12_answerIn, cX12_answerIn, (some (.int) : Option FieldType), false, false) := rfl
theorem q_X12_leftBy : xMI 267 = (11, 1, 1, yX12_leftBy, cX12_leftBy, (some (.int) : Option FieldType), false, false) := rfl
theorem q_X12_isMet : xMI 268 = (11, 3, 3, yX12_isMet, cX12_isMet, (some (.boolean) : Option FieldType), false, false) := rfl
theorem q_X12_says : xMI 269 = (11, 2, 3, yX12_says, cX12_says, (some (.int) : Option FieldType), false, false) := rfl
theorem q_X12_sure : xMI 270 = (11, 2, 9, yX12_sure, cX12_sure, (some (.int) : Option FieldType), false, false) := rfl
theorem q_X12_share : xMI 271 = (11, 3, 6, yX12_share, cX12_share, (some (.int) : Option FieldType), false, false) := rfl
theorem q_X12_waysOf : xMI 272 = (11, 2, 8, yX12_waysOf, cX12_waysOf, (some (.int) : Option FieldType), false, false) := rfl
theorem q_X12_power : xMI 273 = (11, 2, 4, yX12_power, cX12_power, (some (.int) : Option FieldType), false, true) := rfl
theorem q_X12_common : xMI 274 = (11, 2, 5, yX12_common, cX12_common, (some (.int) : Option FieldType), false, true) := rfl
theorem q_X12_mend : xMI 275 = (11, 1, 2, yX12_mend, cX12_mend, (some (.int) : Option FieldType), false, false) := rfl
theorem q_X12_isEven : xMI 276 = (11, 1, 3, yX12_isEven, cX12_isEven, (some (.boolean) : Option FieldType), false, false) := rfl
theorem q_X12_changes : xMI 277 = (11, 3, 3, yX12_changes, cX12_changes, (some (.int) : Option FieldType), false, false) := rfl
theorem q_X12_changesOf : xMI 278 = (11, 3, 3, yX12_changesOf, cX12_changesOf, (some (.int) : Option FieldType), false, false) := rfl
theorem q_X12_lead : xMI 279 = (11, 4, 9, yX12_lead, cX12_lead, (none : Option FieldType), false, false) := rfl
theorem q_X12_lineTo : xMI 280 = (11, 5, 9, yX12_lineTo, cX12_lineTo, (some (.int) : Option FieldType), false, false) := rfl
theorem q_X12_itemsOf : xMI 281 = (11, 3, 3, yX12_itemsOf, cX12_itemsOf, (some (.int) : Option FieldType), false, false) := rfl
theorem q_X12_isSame : xMI 282 = (11, 7, 12, yX12_isSame, cX12_isSame, (some (.boolean) : Option FieldType), false, false) := rfl
theorem q_X12_least : xMI 283 = (11, 3, 4, yX12_least, cX12_least, (some (.int) : Option FieldType), false, true) := rfl
theorem q_X12_parent : xMI 284 = (11, 2, 6, yX12_parent, cX12_parent, (some (.int) : Option FieldType), false, false) := rfl
theorem q_X12_mixed : xMI 285 = (11, 3, 12, yX12_mixed, cX12_mixed, (some (.int) : Option FieldType), false, false) := rfl
theorem q_X12_leastOf : xMI 286 = (11, 3, 5, yX12_leastOf, cX12_leastOf, (some (.int) : Option FieldType), false, false) := rfl
theorem q_X12_holds : xMI 287 = (11, 1, 1, yX12_holds, cX12_holds, (some (.int) : Option FieldType), false, false) := rfl
theorem q_X12_isRecord : xMI 288 = (11, 1, 2, yX12_isRecord, cX12_isRecord, (some (.boolean) : Option FieldType), false, false) := rfl
theorem q_X12_holdsTo : xMI 289 = (11, 1, 6, yX12_holdsTo, cX12_holdsTo, (some (.int) : Option FieldType), false, false) := rfl
theorem q_X12_explain : xMI 290 = (11, 1, 3, yX12_explain, cX12_explain, (some (.int) : Option FieldType), false, false) := rfl
theorem q_X12_told : xMI 291 = (11, 2, 4, yX12_told, cX12_told, (some (.int) : Option FieldType), false, false) := rfl
theorem q_X5_init : xMI 292 = (12, 1, 1, yX5_init, cX5_init, (none : Option FieldType), true, false) := rfl
theorem q_X5_read : xMI 293 = (12, 4, 7, yX5_read, cX5_read, (some (.int) : Option FieldType), false, false) := rfl
theorem q_J6_bitCount_0f7a4 : xMI 294 = (13, 1, 1, yJ6_bitCount_0f7a4, cJ6_bitCount_0f7a4, (some (.int) : Option FieldType), false, true) := rfl
theorem q_J7_fill_53178 : xMI 295 = (15, 2, 4, yJ7_fill_53178, cJ7_fill_53178, (none : Option FieldType), false, true) := rfl
def xLkLs : List (List (Nat × List Nat)) := [[(3, [2]), (11, [0, 0, 0, 0]), (17, [0, 0, 1, 0]), (20, [8]), (22, [0, 0, 2, 0]), (25, [0, 0, 3, 0]), (28, [0, 0, 4, 0]), (32, [0, 0, 5, 0]), (35, [0, 0, 6, 0]), (38, [0, 3, 7, 1]), (42, [13]), (48, [1, 0, 2]), (52, [1, 1, 63]), (56, [1, 1, 59]), (60, [1, 0, 4]), (64, [1, 0, 6]), (67, [1, 0, 5]), (71, [1, 1, 57]), (74, [1, 1, 66]), (77, [1, 1, 67]), (81, [9]), (82, [1, 3, 147]), (86, [1, 0, 8]), (90, [1, 0, 9]), (93, [1, 0, 11])],
  [(1, [2]), (9, [0, 1, 0, 0]), (15, [0, 1, 1, 0]), (18, [0, 1, 2, 0]), (21, [0, 3, 7, 1]), (25, [13]), (31, [0, 1, 3, 0]), (32, [1, 1, 59]), (36, [1, 0, 14]), (40, [0, 1, 4, 0]), (43, [1, 1, 64]), (47, [0, 1, 5, 0]), (51, [1, 1, 57]), (54, [1, 1, 60]), (57, [1, 0, 15]), (60, [1, 1, 58])],
  [(5, [2]), (11, [6, 4]), (13, [1, 5, 68]), (14, [0, 2, 0, 0]), (18, [0, 2, 1, 0]), (22, [0, 2, 2, 0]), (25, [0, 2, 4, 0]), (28, [0, 4, 12, 1]), (32, [1, 2, 294]), (38, [1, 0, 19]), (42, [1, 1, 72]), (46, [1, 0, 20]), (50, [1, 1, 73]), (54, [1, 1, 75]), (57, [1, 1, 84]), (60, [1, 0, 27]), (63, [1, 0, 25]), (67, [1, 0, 22]), (71, [0, 4, 16, 1]), (75, [1, 1, 85]), (79, [1, 1, 86]), (82, [0, 2, 6, 0]), (85, [0, 2, 7, 0]), (88, [0, 2, 5, 0]), (91, [0, 2, 3, 0]), (94, [1, 1, 74]), (97, [1, 0, 21]), (100, [1, 2, 23]), (103, [1, 2, 24]), (106, [1, 0, 26]), (109, [1, 0, 28]), (112, [1, 1, 82]), (115, [0, 4, 5, 1]), (118, [0, 4, 10, 1]), (121, [1, 0, 38]), (124, [1, 2, 295]), (130, [1, 0, 32]), (133, [1, 0, 33]), (137, [1, 0, 34]), (140, [1, 0, 35]), (144, [1, 0, 36]), (147, [1, 0, 40]), (151, [12])],
  [(5, [2]), (11, [0, 3, 0, 0]), (15, [0, 3, 2, 0]), (19, [0, 3, 3, 0]), (22, [0, 3, 4, 0]), (25, [0, 3, 6, 0]), (28, [0, 3, 9, 0]), (32, [0, 3, 8, 0]), (36, [0, 3, 5, 0]), (39, [0, 3, 7, 0]), (42, [0, 3, 11, 0]), (45, [0, 3, 13, 0]), (48, [0, 3, 14, 0]), (51, [13]), (57, [0, 3, 1, 0]), (60, [1, 0, 46]), (64, [1, 0, 55]), (67, [1, 0, 54]), (70, [0, 3, 10, 0]), (73, [1, 0, 47]), (76, [1, 0, 49]), (79, [1, 0, 51]), (83, [1, 0, 53]), (86, [1, 0, 48]), (90, [1, 2, 50]), (93, [0, 3, 12, 0]), (96, [1, 3, 145]), (100, [1, 0, 52]), (103, [1, 0, 57]), (107, [1, 0, 43]), (110, [1, 0, 44]), (113, [1, 0, 61]), (117, [1, 0, 60]), (120, [1, 0, 64]), (124, [1, 1, 116]), (130, [1, 0, 58]), (134, [1, 0, 59]), (137, [1, 1, 120])],
  [(3, [2]), (9, [6, 1]), (11, [0, 4, 0, 0]), (19, [0, 4, 1, 0]), (23, [0, 4, 2, 0]), (27, [0, 4, 3, 0]), (30, [0, 4, 4, 0]), (33, [0, 4, 5, 0]), (36, [0, 4, 6, 0]), (39, [0, 4, 8, 0]), (42, [8]), (44, [0, 4, 9, 0]), (47, [0, 4, 10, 0]), (50, [0, 4, 11, 0]), (53, [0, 4, 12, 0]), (56, [0, 4, 13, 0]), (59, [1, 5, 12]), (60, [0, 8, 3, 1]), (65, [13]), (71, [1, 1, 125]), (75, [1, 1, 123]), (78, [0, 9, 2, 1]), (81, [1, 1, 133]), (84, [1, 1, 134]), (88, [1, 1, 135]), (91, [1, 1, 136]), (94, [0, 4, 14, 0]), (96, [1, 1, 137]), (99, [0, 4, 15, 0]), (103, [1, 1, 138]), (106, [0, 4, 16, 0]), (109, [1, 1, 139]), (112, [0, 4, 17, 0]), (115, [1, 0, 71]), (119, [1, 1, 13]), (123, [0, 1, 4, 1]), (126, [1, 3, 147]), (132, [1, 0, 74]), (135, [1, 2, 294]), (140, [1, 0, 78]), (143, [1, 2, 77]), (147, [1, 0, 87]), (151, [0, 4, 7, 0]), (154, [1, 0, 76]), (158, [1, 0, 79]), (162, [0, 1, 5, 1]), (165, [1, 0, 81]), (168, [1, 0, 82]), (171, [0, 1, 3, 1]), (174, [0, 1, 1, 1]), (177, [1, 1, 16]), (180, [0, 1, 2, 1]), (183, [1, 0, 80]), (187, [1, 0, 83])],
  [(3, [2]), (9, [0, 5, 0, 0]), (15, [0, 5, 1, 0]), (19, [1, 3, 145])],
  [(3, [2]), (9, [0, 6, 0, 0]), (15, [13]), (21, [0, 6, 1, 0]), (25, [0, 6, 3, 0]), (28, [0, 6, 5, 0]), (31, [1, 0, 99]), (34, [0, 6, 2, 0]), (37, [1, 3, 145]), (41, [1, 3, 146]), (44, [1, 2, 100]), (47, [0, 6, 4, 0]), (50, [4]), (55, [5]), (59, [1, 0, 103]), (63, [1, 0, 104]), (66, [1, 0, 106]), (70, [1, 0, 105]), (74, [1, 0, 102])],
  [(3, [1, 5, 292]), (11, [9]), (12, [0, 7, 0, 0]), (16, [0, 7, 1, 0]), (20, [0, 7, 3, 0]), (23, [0, 7, 2, 0]), (26, [0, 7, 4, 0]), (29, [0, 7, 5, 0]), (32, [1, 0, 112]), (36, [1, 2, 113]), (40, [1, 0, 115]), (43, [0, 6, 4, 1]), (48, [1, 1, 105]), (52, [0, 6, 2, 1]), (55, [0, 6, 3, 1]), (58, [0, 6, 0, 1]), (62, [1, 1, 99]), (65, [11, 1]), (67, [1, 1, 102]), (71, [1, 1, 104]), (75, [1, 1, 106]), (79, [1, 2, 114]), (83, [1, 0, 117]), (86, [1, 0, 119]), (89, [1, 2, 294]), (95, [12]), (101, [1, 3, 145]), (105, [1, 2, 118]), (109, [13])],
  [(3, [2]), (9, [0, 8, 0, 0]), (15, [0, 8, 1, 0]), (19, [0, 8, 2, 0]), (22, [0, 8, 3, 0]), (26, [1, 3, 145]), (30, [1, 0, 123]), (34, [1, 1, 116])],
  [(3, [1, 5, 292]), (11, [0, 9, 0, 0]), (15, [0, 9, 1, 0]), (18, [1, 0, 127]), (21, [1, 2, 295]), (27, [0, 9, 2, 0]), (31, [1, 0, 130]), (35, [1, 0, 131]), (38, [1, 2, 132]), (42, [1, 1, 102]), (48, [1, 1, 105]), (52, [1, 1, 99]), (55, [11, 2]), (57, [11, 3]), (59, [11, 4]), (61, [11, 5]), (63, [11, 6]), (65, [11, 7]), (67, [0, 6, 4, 1]), (70, [1, 1, 107]), (74, [1, 1, 106]), (78, [1, 3, 147])],
  [(1, [2]), (7, [6, 5]), (9, [1, 5, 91]), (10, [0, 10, 0, 0]), (16, [6, 6]), (18, [1, 5, 97]), (19, [0, 10, 1, 0]), (23, [6, 7]), (25, [1, 5, 109]), (26, [0, 10, 2, 0]), (30, [0, 10, 3, 0]), (33, [6, 9]), (35, [1, 5, 126]), (36, [0, 10, 4, 0]), (40, [0, 10, 5, 0]), (43, [6, 3]), (45, [0, 10, 6, 0]), (49, [1, 5, 41]), (50, [0, 10, 7, 0]), (54, [6, 8]), (56, [1, 5, 121]), (57, [0, 10, 8, 0]), (61, [0, 10, 9, 0]), (64, [0, 10, 10, 0]), (67, [0, 10, 12, 0]), (71, [6, 2]), (73, [1, 5, 17]), (74, [0, 10, 15, 0]), (78, [0, 2, 0, 1]), (82, [0, 10, 14, 0]), (83, [6, 0]), (85, [1, 5, 0]), (86, [0, 10, 16, 0]), (92, [0, 10, 17, 0]), (96, [0, 5, 1, 1]), (100, [1, 1, 92]), (104, [0, 5, 0, 1]), (107, [1, 1, 93]), (111, [1, 1, 98]), (115, [11, 0]), (117, [3, 293, 9999]), (121, [0, 6, 5, 1]), (124, [0, 10, 11, 0]), (127, [0, 6, 2, 1]), (130, [1, 0, 148]), (133, [11, 8]), (135, [3, 9999, 293]), (136, [1, 2, 147]), (140, [1, 1, 45]), (143, [0, 3, 10, 1]), (144, [1, 1, 42]), (148, [1, 1, 124]), (151, [1, 1, 122]), (152, [0, 8, 3, 1]), (155, [1, 0, 149]), (159, [0, 3, 9, 1]), (163, [0, 3, 8, 1]), (166, [1, 1, 94]), (169, [1, 1, 116]), (173, [1, 1, 120]), (177, [1, 1, 56]), (181, [1, 1, 62]), (184, [1, 1, 63]), (188, [0, 10, 13, 0]), (194, [1, 1, 1]), (198, [1, 1, 95]), (202, [1, 0, 163]), (206, [1, 1, 69]), (210, [1, 0, 164]), (213, [1, 0, 165]), (216, [0, 10, 18, 0]), (219, [1, 1, 133]), (222, [10]), (224, [1, 1, 65]), (227, [10]), (229, [1, 1, 137]), (232, [1, 2, 168]), (236, [1, 0, 170]), (239, [1, 0, 171]), (242, [1, 1, 140]), (245, [1, 1, 18]), (249, [1, 1, 29]), (252, [1, 0, 174]), (255, [1, 1, 30]), (259, [1, 1, 31]), (262, [1, 1, 38]), (265, [1, 1, 32]), (268, [1, 2, 188]), (272, [1, 1, 89]), (276, [1, 1, 37]), (279, [1, 1, 3]), (283, [1, 0, 178]), (287, [1, 1, 7]), (291, [1, 0, 180]), (295, [1, 0, 182]), (298, [1, 1, 39]), (301, [1, 1, 88]), (304, [1, 1, 70]), (308, [1, 1, 90]), (311, [1, 0, 185]), (314, [0, 9, 2, 1]), (316, [1, 1, 72]), (319, [1, 1, 73]), (322, [1, 1, 75]), (326, [1, 1, 84]), (329, [1, 1, 96]), (332, [1, 1, 85]), (335, [1, 1, 82]), (338, [0, 4, 16, 1]), (341, [1, 1, 86]), (345, [1, 1, 74]), (348, [9]), (349, [14]), (355, [0, 3, 7, 1]), (358, [1, 1, 10]), (361, [1, 1, 11])],
  [(1, [0, 11, 0, 0]), (7, [0, 11, 2, 0]), (10, [1, 0, 191]), (14, [0, 11, 1, 0]), (18, [0, 11, 3, 0]), (21, [0, 11, 4, 0]), (24, [1, 0, 197]), (28, [0, 11, 6, 0]), (31, [0, 11, 7, 0]), (34, [0, 11, 5, 0]), (37, [1, 2, 198]), (41, [1, 2, 199]), (44, [0, 11, 11, 0]), (48, [0, 11, 8, 0]), (51, [0, 11, 9, 0]), (54, [0, 11, 10, 0]), (57, [1, 0, 203]), (61, [1, 0, 204]), (65, [1, 0, 196]), (69, [1, 0, 195]), (72, [0, 11, 20, 0]), (75, [9]), (76, [0, 11, 16, 0]), (79, [0, 11, 17, 0]), (82, [0, 11, 18, 0]), (85, [0, 11, 19, 0]), (88, [1, 0, 200]), (91, [0, 11, 12, 0]), (94, [0, 11, 13, 0]), (97, [0, 11, 14, 0]), (100, [0, 11, 15, 0]), (103, [0, 11, 21, 0]), (107, [0, 11, 22, 0]), (110, [0, 11, 23, 0]), (113, [0, 11, 24, 0]), (116, [0, 11, 25, 0]), (119, [0, 11, 26, 0]), (122, [10]), (124, [1, 0, 201]), (128, [1, 0, 202]), (131, [1, 0, 205]), (134, [10]), (136, [1, 0, 206]), (140, [10]), (142, [10]), (144, [10]), (146, [10]), (148, [10]), (150, [0, 11, 27, 0]), (153, [1, 0, 210]), (156, [1, 0, 211]), (159, [1, 0, 212]), (163, [1, 0, 208]), (166, [1, 0, 209]), (169, [1, 0, 214]), (173, [1, 0, 216]), (176, [0, 11, 28, 0]), (179, [1, 0, 217]), (183, [0, 11, 30, 0]), (186, [0, 11, 29, 0]), (189, [0, 11, 31, 0]), (192, [1, 0, 221]), (195, [0, 11, 39, 0]), (198, [0, 11, 40, 0]), (201, [1, 0, 220]), (204, [1, 0, 222]), (207, [0, 11, 32, 0]), (210, [0, 11, 33, 0]), (213, [0, 11, 34, 0]), (216, [0, 11, 35, 0]), (219, [0, 11, 36, 0]), (222, [0, 11, 37, 0]), (225, [0, 11, 38, 0]), (228, [1, 0, 223]), (231, [1, 0, 225]), (234, [1, 0, 229]), (238, [1, 0, 228]), (241, [0, 11, 41, 0]), (244, [1, 0, 231]), (248, [0, 11, 43, 0]), (251, [1, 0, 233]), (254, [0, 11, 44, 0]), (257, [0, 11, 42, 0]), (260, [0, 11, 46, 0]), (263, [0, 11, 50, 0]), (266, [0, 11, 48, 0]), (269, [1, 0, 236]), (272, [0, 11, 45, 0]), (275, [0, 11, 47, 0]), (278, [0, 11, 49, 0]), (281, [10]), (283, [10]), (285, [10]), (287, [1, 0, 237]), (291, [10]), (293, [10]), (295, [10]), (297, [10]), (299, [10]), (301, [10]), (303, [10]), (305, [10]), (307, [10]), (309, [10]), (311, [10]), (313, [10]), (315, [10]), (317, [10]), (319, [10]), (321, [10]), (323, [10]), (325, [2]), (330, [0, 11, 51, 0]), (333, [0, 11, 52, 0]), (336, [0, 11, 53, 0]), (339, [0, 11, 54, 0]), (342, [0, 11, 55, 0]), (345, [0, 11, 56, 0]), (349, [0, 11, 57, 0]), (352, [0, 11, 71, 0]), (355, [0, 11, 73, 0]), (358, [0, 11, 74, 0]), (361, [0, 11, 75, 0]), (364, [0, 11, 76, 0]), (367, [0, 11, 77, 0]), (370, [0, 11, 78, 0]), (373, [0, 11, 79, 0]), (376, [0, 11, 80, 0]), (379, [0, 11, 81, 0]), (382, [0, 11, 82, 0]), (385, [0, 11, 58, 0]), (388, [0, 11, 59, 0]), (391, [0, 11, 60, 0]), (394, [1, 0, 243]), (398, [1, 0, 241]), (402, [1, 0, 242]), (405, [0, 11, 61, 0]), (408, [0, 11, 62, 0]), (411, [0, 11, 70, 0]), (415, [1, 0, 246]), (418, [1, 0, 247]), (421, [0, 11, 63, 0]), (424, [0, 11, 64, 0]), (427, [0, 11, 65, 0]), (430, [0, 11, 66, 0]), (433, [0, 11, 68, 0]), (436, [0, 11, 69, 0]), (439, [1, 0, 249]), (442, [1, 2, 250]), (445, [0, 11, 67, 0]), (448, [1, 0, 251]), (452, [1, 0, 240]), (455, [0, 11, 72, 0]), (458, [1, 0, 244]), (461, [1, 0, 245]), (465, [1, 0, 248]), (468, [10]), (470, [10]), (472, [1, 2, 262]), (475, [1, 2, 263]), (478, [1, 2, 264]), (481, [1, 2, 259]), (485, [1, 0, 258]), (488, [1, 0, 260]), (491, [1, 0, 261]), (494, [1, 0, 265]), (497, [1, 0, 267]), (500, [1, 0, 268]), (503, [1, 0, 257]), (506, [1, 0, 266]), (509, [1, 0, 255]), (512, [1, 0, 256]), (515, [1, 2, 273]), (518, [1, 0, 272]), (521, [1, 2, 274]), (524, [1, 0, 276]), (527, [1, 0, 281]), (530, [1, 0, 282]), (534, [1, 2, 283]), (537, [1, 0, 280]), (540, [9]), (541, [1, 0, 279]), (545, [1, 0, 278]), (548, [1, 0, 286]), (551, [1, 0, 288]), (554, [1, 0, 289])],
  [(3, [2]), (9, [3, 110, 128]), (14, [0, 6, 4, 1]), (20, [1, 1, 101]), (24, [3, 111, 129]), (28, [1, 1, 108])],
  [(265, [9]), (266, [9]), (267, [9])],
  [],
  [],
  []]
def xLkL (o : Nat) : List (Nat × List Nat) := xLkLs.getD o []
def xlk (o idx : Nat) : Option (List Nat) := ((xLkL o).find? (fun e => e.1 == idx)).map (fun e => e.2)
def xKI (o idx : Nat) : Int32 := match o, idx with
  | 7, 11 => 17842449
  | 13, 265 => 1431655765
  | 13, 266 => 858993459
  | 13, 267 => 252645135
  | 10, 348 => 1000000
  | 0, 81 => 1000000
  | 11, 75 => 17842449
  | 11, 540 => 1000000
  | _, _ => 0
def xKL (o idx : Nat) : Int64 := match o, idx with
  | 10, 222 => 1000000000000
  | 10, 227 => (-1)
  | 11, 122 => 130221116583027
  | 11, 134 => 117026742756708
  | 11, 140 => 1836414053
  | 11, 142 => 126943973305959
  | 11, 144 => 439855772532
  | 11, 146 => 126879297138276
  | 11, 148 => 1818325876
  | 11, 281 => 427071729268
  | 11, 283 => 512970876019
  | 11, 285 => 422607680627
  | 11, 291 => 25209
  | 11, 293 => 448377480307
  | 11, 295 => 439855838323
  | 11, 297 => 6842740
  | 11, 299 => 7304564
  | 11, 301 => 495873784179
  | 11, 303 => 1952998766
  | 11, 305 => 1852143732
  | 11, 307 => 1935764837
  | 11, 309 => 109270082020722
  | 11, 311 => 1953854062
  | 11, 313 => 474148660594
  | 11, 315 => 107118487239027
  | 11, 317 => 6383981
  | 11, 319 => 1718773093
  | 11, 321 => 1818584692
  | 11, 323 => 125793039377779
  | 11, 468 => 1000000000000
  | 11, 470 => (-1)
  | _, _ => 0
/-- the texts of the String constants, as character numbers -/
def xStr (k : Nat) : List Nat := match k with
  | 0 => [118, 111, 119, 101, 108, 115, 32, 106, 111, 105, 110, 101, 100, 32, 109, 117, 116, 101, 32, 115, 116, 114, 111, 110, 103]
  | 1 => [102, 105, 114, 115, 116, 32, 115, 101, 99, 111, 110, 100, 32, 108, 97, 115, 116]
  | 2 => [119, 111, 114, 100, 115, 32, 98, 101, 97, 116, 115]
  | 3 => [104, 101, 97, 100, 115, 32, 102, 105, 115, 116, 115]
  | 4 => [111, 117, 116, 32, 115, 116, 97, 121, 115]
  | 5 => [110, 101, 120, 116, 32, 115, 97, 109, 101, 32, 99, 97, 108, 108, 101, 114]
  | 6 => [110, 101, 118, 101, 114, 32, 97, 108, 119, 97, 121, 115]
  | 7 => [108, 101, 102, 116, 32, 102, 114, 101, 101]
  | 8 => [99, 111, 117, 110, 116, 32, 98, 121, 32, 104, 105, 116, 32, 116, 104, 101, 110, 32, 116, 117, 114, 110, 32, 108, 101, 102, 116, 32, 114, 104, 121, 109, 101, 115, 32, 97, 105, 109]
  | _ => []
theorem k0_3 : xlk 0 3 = some [2] := by decide +kernel
theorem k0_11 : xlk 0 11 = some [0, 0, 0, 0] := by decide +kernel
theorem k0_17 : xlk 0 17 = some [0, 0, 1, 0] := by decide +kernel
theorem k0_20 : xlk 0 20 = some [8] := by decide +kernel
theorem k0_22 : xlk 0 22 = some [0, 0, 2, 0] := by decide +kernel
theorem k0_25 : xlk 0 25 = some [0, 0, 3, 0] := by decide +kernel
theorem k0_28 : xlk 0 28 = some [0, 0, 4, 0] := by decide +kernel
theorem k0_32 : xlk 0 32 = some [0, 0, 5, 0] := by decide +kernel
theorem k0_35 : xlk 0 35 = some [0, 0, 6, 0] := by decide +kernel
theorem k0_38 : xlk 0 38 = some [0, 3, 7, 1] := by decide +kernel
theorem k0_42 : xlk 0 42 = some [13] := by decide +kernel
theorem k0_48 : xlk 0 48 = some [1, 0, 2] := by decide +kernel
theorem k0_52 : xlk 0 52 = some [1, 1, 63] := by decide +kernel
theorem k0_56 : xlk 0 56 = some [1, 1, 59] := by decide +kernel
theorem k0_60 : xlk 0 60 = some [1, 0, 4] := by decide +kernel
theorem k0_64 : xlk 0 64 = some [1, 0, 6] := by decide +kernel
theorem k0_67 : xlk 0 67 = some [1, 0, 5] := by decide +kernel
theorem k0_71 : xlk 0 71 = some [1, 1, 57] := by decide +kernel
theorem k0_74 : xlk 0 74 = some [1, 1, 66] := by decide +kernel
theorem k0_77 : xlk 0 77 = some [1, 1, 67] := by decide +kernel
theorem k0_81 : xlk 0 81 = some [9] := by decide +kernel
theorem k0_82 : xlk 0 82 = some [1, 3, 147] := by decide +kernel
theorem k0_86 : xlk 0 86 = some [1, 0, 8] := by decide +kernel
theorem k0_90 : xlk 0 90 = some [1, 0, 9] := by decide +kernel
theorem k0_93 : xlk 0 93 = some [1, 0, 11] := by decide +kernel
theorem k1_1 : xlk 1 1 = some [2] := by decide +kernel
theorem k1_9 : xlk 1 9 = some [0, 1, 0, 0] := by decide +kernel
theorem k1_15 : xlk 1 15 = some [0, 1, 1, 0] := by decide +kernel
theorem k1_18 : xlk 1 18 = some [0, 1, 2, 0] := by decide +kernel
theorem k1_21 : xlk 1 21 = some [0, 3, 7, 1] := by decide +kernel
theorem k1_25 : xlk 1 25 = some [13] := by decide +kernel
theorem k1_31 : xlk 1 31 = some [0, 1, 3, 0] := by decide +kernel
theorem k1_32 : xlk 1 32 = some [1, 1, 59] := by decide +kernel
theorem k1_36 : xlk 1 36 = some [1, 0, 14] := by decide +kernel
theorem k1_40 : xlk 1 40 = some [0, 1, 4, 0] := by decide +kernel
theorem k1_43 : xlk 1 43 = some [1, 1, 64] := by decide +kernel
theorem k1_47 : xlk 1 47 = some [0, 1, 5, 0] := by decide +kernel
theorem k1_51 : xlk 1 51 = some [1, 1, 57] := by decide +kernel
theorem k1_54 : xlk 1 54 = some [1, 1, 60] := by decide +kernel
theorem k1_57 : xlk 1 57 = some [1, 0, 15] := by decide +kernel
theorem k1_60 : xlk 1 60 = some [1, 1, 58] := by decide +kernel
theorem k2_5 : xlk 2 5 = some [2] := by decide +kernel
theorem k2_11 : xlk 2 11 = some [6, 4] := by decide +kernel
theorem k2_13 : xlk 2 13 = some [1, 5, 68] := by decide +kernel
theorem k2_14 : xlk 2 14 = some [0, 2, 0, 0] := by decide +kernel
theorem k2_18 : xlk 2 18 = some [0, 2, 1, 0] := by decide +kernel
theorem k2_22 : xlk 2 22 = some [0, 2, 2, 0] := by decide +kernel
theorem k2_25 : xlk 2 25 = some [0, 2, 4, 0] := by decide +kernel
theorem k2_28 : xlk 2 28 = some [0, 4, 12, 1] := by decide +kernel
theorem k2_32 : xlk 2 32 = some [1, 2, 294] := by decide +kernel
theorem k2_38 : xlk 2 38 = some [1, 0, 19] := by decide +kernel
theorem k2_42 : xlk 2 42 = some [1, 1, 72] := by decide +kernel
theorem k2_46 : xlk 2 46 = some [1, 0, 20] := by decide +kernel
theorem k2_50 : xlk 2 50 = some [1, 1, 73] := by decide +kernel
theorem k2_54 : xlk 2 54 = some [1, 1, 75] := by decide +kernel
theorem k2_57 : xlk 2 57 = some [1, 1, 84] := by decide +kernel
theorem k2_60 : xlk 2 60 = some [1, 0, 27] := by decide +kernel
theorem k2_63 : xlk 2 63 = some [1, 0, 25] := by decide +kernel
theorem k2_67 : xlk 2 67 = some [1, 0, 22] := by decide +kernel
theorem k2_71 : xlk 2 71 = some [0, 4, 16, 1] := by decide +kernel
theorem k2_75 : xlk 2 75 = some [1, 1, 85] := by decide +kernel
theorem k2_79 : xlk 2 79 = some [1, 1, 86] := by decide +kernel
theorem k2_82 : xlk 2 82 = some [0, 2, 6, 0] := by decide +kernel
theorem k2_85 : xlk 2 85 = some [0, 2, 7, 0] := by decide +kernel
theorem k2_88 : xlk 2 88 = some [0, 2, 5, 0] := by decide +kernel
theorem k2_91 : xlk 2 91 = some [0, 2, 3, 0] := by decide +kernel
theorem k2_94 : xlk 2 94 = some [1, 1, 74] := by decide +kernel
theorem k2_97 : xlk 2 97 = some [1, 0, 21] := by decide +kernel
theorem k2_100 : xlk 2 100 = some [1, 2, 23] := by decide +kernel
theorem k2_103 : xlk 2 103 = some [1, 2, 24] := by decide +kernel
theorem k2_106 : xlk 2 106 = some [1, 0, 26] := by decide +kernel
theorem k2_109 : xlk 2 109 = some [1, 0, 28] := by decide +kernel
theorem k2_112 : xlk 2 112 = some [1, 1, 82] := by decide +kernel
theorem k2_115 : xlk 2 115 = some [0, 4, 5, 1] := by decide +kernel
theorem k2_118 : xlk 2 118 = some [0, 4, 10, 1] := by decide +kernel
theorem k2_121 : xlk 2 121 = some [1, 0, 38] := by decide +kernel
theorem k2_124 : xlk 2 124 = some [1, 2, 295] := by decide +kernel
theorem k2_130 : xlk 2 130 = some [1, 0, 32] := by decide +kernel
theorem k2_133 : xlk 2 133 = some [1, 0, 33] := by decide +kernel
theorem k2_137 : xlk 2 137 = some [1, 0, 34] := by decide +kernel
theorem k2_140 : xlk 2 140 = some [1, 0, 35] := by decide +kernel
theorem k2_144 : xlk 2 144 = some [1, 0, 36] := by decide +kernel
theorem k2_147 : xlk 2 147 = some [1, 0, 40] := by decide +kernel
theorem k2_151 : xlk 2 151 = some [12] := by decide +kernel
theorem k3_5 : xlk 3 5 = some [2] := by decide +kernel
theorem k3_11 : xlk 3 11 = some [0, 3, 0, 0] := by decide +kernel
theorem k3_15 : xlk 3 15 = some [0, 3, 2, 0] := by decide +kernel
theorem k3_19 : xlk 3 19 = some [0, 3, 3, 0] := by decide +kernel
theorem k3_22 : xlk 3 22 = some [0, 3, 4, 0] := by decide +kernel
theorem k3_25 : xlk 3 25 = some [0, 3, 6, 0] := by decide +kernel
theorem k3_28 : xlk 3 28 = some [0, 3, 9, 0] := by decide +kernel
theorem k3_32 : xlk 3 32 = some [0, 3, 8, 0] := by decide +kernel
theorem k3_36 : xlk 3 36 = some [0, 3, 5, 0] := by decide +kernel
theorem k3_39 : xlk 3 39 = some [0, 3, 7, 0] := by decide +kernel
theorem k3_42 : xlk 3 42 = some [0, 3, 11, 0] := by decide +kernel
theorem k3_45 : xlk 3 45 = some [0, 3, 13, 0] := by decide +kernel
theorem k3_48 : xlk 3 48 = some [0, 3, 14, 0] := by decide +kernel
theorem k3_51 : xlk 3 51 = some [13] := by decide +kernel
theorem k3_57 : xlk 3 57 = some [0, 3, 1, 0] := by decide +kernel
theorem k3_60 : xlk 3 60 = some [1, 0, 46] := by decide +kernel
theorem k3_64 : xlk 3 64 = some [1, 0, 55] := by decide +kernel
theorem k3_67 : xlk 3 67 = some [1, 0, 54] := by decide +kernel
theorem k3_70 : xlk 3 70 = some [0, 3, 10, 0] := by decide +kernel
theorem k3_73 : xlk 3 73 = some [1, 0, 47] := by decide +kernel
theorem k3_76 : xlk 3 76 = some [1, 0, 49] := by decide +kernel
theorem k3_79 : xlk 3 79 = some [1, 0, 51] := by decide +kernel
theorem k3_83 : xlk 3 83 = some [1, 0, 53] := by decide +kernel
theorem k3_86 : xlk 3 86 = some [1, 0, 48] := by decide +kernel
theorem k3_90 : xlk 3 90 = some [1, 2, 50] := by decide +kernel
theorem k3_93 : xlk 3 93 = some [0, 3, 12, 0] := by decide +kernel
theorem k3_96 : xlk 3 96 = some [1, 3, 145] := by decide +kernel
theorem k3_100 : xlk 3 100 = some [1, 0, 52] := by decide +kernel
theorem k3_103 : xlk 3 103 = some [1, 0, 57] := by decide +kernel
theorem k3_107 : xlk 3 107 = some [1, 0, 43] := by decide +kernel
theorem k3_110 : xlk 3 110 = some [1, 0, 44] := by decide +kernel
theorem k3_113 : xlk 3 113 = some [1, 0, 61] := by decide +kernel
theorem k3_117 : xlk 3 117 = some [1, 0, 60] := by decide +kernel
theorem k3_120 : xlk 3 120 = some [1, 0, 64] := by decide +kernel
theorem k3_124 : xlk 3 124 = some [1, 1, 116] := by decide +kernel
theorem k3_130 : xlk 3 130 = some [1, 0, 58] := by decide +kernel
theorem k3_134 : xlk 3 134 = some [1, 0, 59] := by decide +kernel
theorem k3_137 : xlk 3 137 = some [1, 1, 120] := by decide +kernel
theorem k4_3 : xlk 4 3 = some [2] := by decide +kernel
theorem k4_9 : xlk 4 9 = some [6, 1] := by decide +kernel
theorem k4_11 : xlk 4 11 = some [0, 4, 0, 0] := by decide +kernel
theorem k4_19 : xlk 4 19 = some [0, 4, 1, 0] := by decide +kernel
theorem k4_23 : xlk 4 23 = some [0, 4, 2, 0] := by decide +kernel
theorem k4_27 : xlk 4 27 = some [0, 4, 3, 0] := by decide +kernel
theorem k4_30 : xlk 4 30 = some [0, 4, 4, 0] := by decide +kernel
theorem k4_33 : xlk 4 33 = some [0, 4, 5, 0] := by decide +kernel
theorem k4_36 : xlk 4 36 = some [0, 4, 6, 0] := by decide +kernel
theorem k4_39 : xlk 4 39 = some [0, 4, 8, 0] := by decide +kernel
theorem k4_42 : xlk 4 42 = some [8] := by decide +kernel
theorem k4_44 : xlk 4 44 = some [0, 4, 9, 0] := by decide +kernel
theorem k4_47 : xlk 4 47 = some [0, 4, 10, 0] := by decide +kernel
theorem k4_50 : xlk 4 50 = some [0, 4, 11, 0] := by decide +kernel
theorem k4_53 : xlk 4 53 = some [0, 4, 12, 0] := by decide +kernel
theorem k4_56 : xlk 4 56 = some [0, 4, 13, 0] := by decide +kernel
theorem k4_59 : xlk 4 59 = some [1, 5, 12] := by decide +kernel
theorem k4_60 : xlk 4 60 = some [0, 8, 3, 1] := by decide +kernel
theorem k4_65 : xlk 4 65 = some [13] := by decide +kernel
theorem k4_71 : xlk 4 71 = some [1, 1, 125] := by decide +kernel
theorem k4_75 : xlk 4 75 = some [1, 1, 123] := by decide +kernel
theorem k4_78 : xlk 4 78 = some [0, 9, 2, 1] := by decide +kernel
theorem k4_81 : xlk 4 81 = some [1, 1, 133] := by decide +kernel
theorem k4_84 : xlk 4 84 = some [1, 1, 134] := by decide +kernel
theorem k4_88 : xlk 4 88 = some [1, 1, 135] := by decide +kernel
theorem k4_91 : xlk 4 91 = some [1, 1, 136] := by decide +kernel
theorem k4_94 : xlk 4 94 = some [0, 4, 14, 0] := by decide +kernel
theorem k4_96 : xlk 4 96 = some [1, 1, 137] := by decide +kernel
theorem k4_99 : xlk 4 99 = some [0, 4, 15, 0] := by decide +kernel
theorem k4_103 : xlk 4 103 = some [1, 1, 138] := by decide +kernel
theorem k4_106 : xlk 4 106 = some [0, 4, 16, 0] := by decide +kernel
theorem k4_109 : xlk 4 109 = some [1, 1, 139] := by decide +kernel
theorem k4_112 : xlk 4 112 = some [0, 4, 17, 0] := by decide +kernel
theorem k4_115 : xlk 4 115 = some [1, 0, 71] := by decide +kernel
theorem k4_119 : xlk 4 119 = some [1, 1, 13] := by decide +kernel
theorem k4_123 : xlk 4 123 = some [0, 1, 4, 1] := by decide +kernel
theorem k4_126 : xlk 4 126 = some [1, 3, 147] := by decide +kernel
theorem k4_132 : xlk 4 132 = some [1, 0, 74] := by decide +kernel
theorem k4_135 : xlk 4 135 = some [1, 2, 294] := by decide +kernel
theorem k4_140 : xlk 4 140 = some [1, 0, 78] := by decide +kernel
theorem k4_143 : xlk 4 143 = some [1, 2, 77] := by decide +kernel
theorem k4_147 : xlk 4 147 = some [1, 0, 87] := by decide +kernel
theorem k4_151 : xlk 4 151 = some [0, 4, 7, 0] := by decide +kernel
theorem k4_154 : xlk 4 154 = some [1, 0, 76] := by decide +kernel
theorem k4_158 : xlk 4 158 = some [1, 0, 79] := by decide +kernel
theorem k4_162 : xlk 4 162 = some [0, 1, 5, 1] := by decide +kernel
theorem k4_165 : xlk 4 165 = some [1, 0, 81] := by decide +kernel
theorem k4_168 : xlk 4 168 = some [1, 0, 82] := by decide +kernel
theorem k4_171 : xlk 4 171 = some [0, 1, 3, 1] := by decide +kernel
theorem k4_174 : xlk 4 174 = some [0, 1, 1, 1] := by decide +kernel
theorem k4_177 : xlk 4 177 = some [1, 1, 16] := by decide +kernel
theorem k4_180 : xlk 4 180 = some [0, 1, 2, 1] := by decide +kernel
theorem k4_183 : xlk 4 183 = some [1, 0, 80] := by decide +kernel
theorem k4_187 : xlk 4 187 = some [1, 0, 83] := by decide +kernel
theorem k5_3 : xlk 5 3 = some [2] := by decide +kernel
theorem k5_9 : xlk 5 9 = some [0, 5, 0, 0] := by decide +kernel
theorem k5_15 : xlk 5 15 = some [0, 5, 1, 0] := by decide +kernel
theorem k5_19 : xlk 5 19 = some [1, 3, 145] := by decide +kernel
theorem k6_3 : xlk 6 3 = some [2] := by decide +kernel
theorem k6_9 : xlk 6 9 = some [0, 6, 0, 0] := by decide +kernel
theorem k6_15 : xlk 6 15 = some [13] := by decide +kernel
theorem k6_21 : xlk 6 21 = some [0, 6, 1, 0] := by decide +kernel
theorem k6_25 : xlk 6 25 = some [0, 6, 3, 0] := by decide +kernel
theorem k6_28 : xlk 6 28 = some [0, 6, 5, 0] := by decide +kernel
theorem k6_31 : xlk 6 31 = some [1, 0, 99] := by decide +kernel
theorem k6_34 : xlk 6 34 = some [0, 6, 2, 0] := by decide +kernel
theorem k6_37 : xlk 6 37 = some [1, 3, 145] := by decide +kernel
theorem k6_41 : xlk 6 41 = some [1, 3, 146] := by decide +kernel
theorem k6_44 : xlk 6 44 = some [1, 2, 100] := by decide +kernel
theorem k6_47 : xlk 6 47 = some [0, 6, 4, 0] := by decide +kernel
theorem k6_50 : xlk 6 50 = some [4] := by decide +kernel
theorem k6_55 : xlk 6 55 = some [5] := by decide +kernel
theorem k6_59 : xlk 6 59 = some [1, 0, 103] := by decide +kernel
theorem k6_63 : xlk 6 63 = some [1, 0, 104] := by decide +kernel
theorem k6_66 : xlk 6 66 = some [1, 0, 106] := by decide +kernel
theorem k6_70 : xlk 6 70 = some [1, 0, 105] := by decide +kernel
theorem k6_74 : xlk 6 74 = some [1, 0, 102] := by decide +kernel
theorem k7_3 : xlk 7 3 = some [1, 5, 292] := by decide +kernel
theorem k7_11 : xlk 7 11 = some [9] := by decide +kernel
theorem k7_12 : xlk 7 12 = some [0, 7, 0, 0] := by decide +kernel
theorem k7_16 : xlk 7 16 = some [0, 7, 1, 0] := by decide +kernel
theorem k7_20 : xlk 7 20 = some [0, 7, 3, 0] := by decide +kernel
theorem k7_23 : xlk 7 23 = some [0, 7, 2, 0] := by decide +kernel
theorem k7_26 : xlk 7 26 = some [0, 7, 4, 0] := by decide +kernel
theorem k7_29 : xlk 7 29 = some [0, 7, 5, 0] := by decide +kernel
theorem k7_32 : xlk 7 32 = some [1, 0, 112] := by decide +kernel
theorem k7_36 : xlk 7 36 = some [1, 2, 113] := by decide +kernel
theorem k7_40 : xlk 7 40 = some [1, 0, 115] := by decide +kernel
theorem k7_43 : xlk 7 43 = some [0, 6, 4, 1] := by decide +kernel
theorem k7_48 : xlk 7 48 = some [1, 1, 105] := by decide +kernel
theorem k7_52 : xlk 7 52 = some [0, 6, 2, 1] := by decide +kernel
theorem k7_55 : xlk 7 55 = some [0, 6, 3, 1] := by decide +kernel
theorem k7_58 : xlk 7 58 = some [0, 6, 0, 1] := by decide +kernel
theorem k7_62 : xlk 7 62 = some [1, 1, 99] := by decide +kernel
theorem k7_65 : xlk 7 65 = some [11, 1] := by decide +kernel
theorem k7_67 : xlk 7 67 = some [1, 1, 102] := by decide +kernel
theorem k7_71 : xlk 7 71 = some [1, 1, 104] := by decide +kernel
theorem k7_75 : xlk 7 75 = some [1, 1, 106] := by decide +kernel
theorem k7_79 : xlk 7 79 = some [1, 2, 114] := by decide +kernel
theorem k7_83 : xlk 7 83 = some [1, 0, 117] := by decide +kernel
theorem k7_86 : xlk 7 86 = some [1, 0, 119] := by decide +kernel
theorem k7_89 : xlk 7 89 = some [1, 2, 294] := by decide +kernel
theorem k7_95 : xlk 7 95 = some [12] := by decide +kernel
theorem k7_101 : xlk 7 101 = some [1, 3, 145] := by decide +kernel
theorem k7_105 : xlk 7 105 = some [1, 2, 118] := by decide +kernel
theorem k7_109 : xlk 7 109 = some [13] := by decide +kernel
theorem k8_3 : xlk 8 3 = some [2] := by decide +kernel
theorem k8_9 : xlk 8 9 = some [0, 8, 0, 0] := by decide +kernel
theorem k8_15 : xlk 8 15 = some [0, 8, 1, 0] := by decide +kernel
theorem k8_19 : xlk 8 19 = some [0, 8, 2, 0] := by decide +kernel
theorem k8_22 : xlk 8 22 = some [0, 8, 3, 0] := by decide +kernel
theorem k8_26 : xlk 8 26 = some [1, 3, 145] := by decide +kernel
theorem k8_30 : xlk 8 30 = some [1, 0, 123] := by decide +kernel
theorem k8_34 : xlk 8 34 = some [1, 1, 116] := by decide +kernel
theorem k9_3 : xlk 9 3 = some [1, 5, 292] := by decide +kernel
theorem k9_11 : xlk 9 11 = some [0, 9, 0, 0] := by decide +kernel
theorem k9_15 : xlk 9 15 = some [0, 9, 1, 0] := by decide +kernel
theorem k9_18 : xlk 9 18 = some [1, 0, 127] := by decide +kernel
theorem k9_21 : xlk 9 21 = some [1, 2, 295] := by decide +kernel
theorem k9_27 : xlk 9 27 = some [0, 9, 2, 0] := by decide +kernel
theorem k9_31 : xlk 9 31 = some [1, 0, 130] := by decide +kernel
theorem k9_35 : xlk 9 35 = some [1, 0, 131] := by decide +kernel
theorem k9_38 : xlk 9 38 = some [1, 2, 132] := by decide +kernel
theorem k9_42 : xlk 9 42 = some [1, 1, 102] := by decide +kernel
theorem k9_48 : xlk 9 48 = some [1, 1, 105] := by decide +kernel
theorem k9_52 : xlk 9 52 = some [1, 1, 99] := by decide +kernel
theorem k9_55 : xlk 9 55 = some [11, 2] := by decide +kernel
theorem k9_57 : xlk 9 57 = some [11, 3] := by decide +kernel
theorem k9_59 : xlk 9 59 = some [11, 4] := by decide +kernel
theorem k9_61 : xlk 9 61 = some [11, 5] := by decide +kernel
theorem k9_63 : xlk 9 63 = some [11, 6] := by decide +kernel
theorem k9_65 : xlk 9 65 = some [11, 7] := by decide +kernel
theorem k9_67 : xlk 9 67 = some [0, 6, 4, 1] := by decide +kernel
theorem k9_70 : xlk 9 70 = some [1, 1, 107] := by decide +kernel
theorem k9_74 : xlk 9 74 = some [1, 1, 106] := by decide +kernel
theorem k9_78 : xlk 9 78 = some [1, 3, 147] := by decide +kernel
theorem k10_1 : xlk 10 1 = some [2] := by decide +kernel
theorem k10_7 : xlk 10 7 = some [6, 5] := by decide +kernel
theorem k10_9 : xlk 10 9 = some [1, 5, 91] := by decide +kernel
theorem k10_10 : xlk 10 10 = some [0, 10, 0, 0] := by decide +kernel
theorem k10_16 : xlk 10 16 = some [6, 6] := by decide +kernel
theorem k10_18 : xlk 10 18 = some [1, 5, 97] := by decide +kernel
theorem k10_19 : xlk 10 19 = some [0, 10, 1, 0] := by decide +kernel
theorem k10_23 : xlk 10 23 = some [6, 7] := by decide +kernel
theorem k10_25 : xlk 10 25 = some [1, 5, 109] := by decide +kernel
theorem k10_26 : xlk 10 26 = some [0, 10, 2, 0] := by decide +kernel
theorem k10_30 : xlk 10 30 = some [0, 10, 3, 0] := by decide +kernel
theorem k10_33 : xlk 10 33 = some [6, 9] := by decide +kernel
theorem k10_35 : xlk 10 35 = some [1, 5, 126] := by decide +kernel
theorem k10_36 : xlk 10 36 = some [0, 10, 4, 0] := by decide +kernel
theorem k10_40 : xlk 10 40 = some [0, 10, 5, 0] := by decide +kernel
theorem k10_43 : xlk 10 43 = some [6, 3] := by decide +kernel
theorem k10_45 : xlk 10 45 = some [0, 10, 6, 0] := by decide +kernel
theorem k10_49 : xlk 10 49 = some [1, 5, 41] := by decide +kernel
theorem k10_50 : xlk 10 50 = some [0, 10, 7, 0] := by decide +kernel
theorem k10_54 : xlk 10 54 = some [6, 8] := by decide +kernel
theorem k10_56 : xlk 10 56 = some [1, 5, 121] := by decide +kernel
theorem k10_57 : xlk 10 57 = some [0, 10, 8, 0] := by decide +kernel
theorem k10_61 : xlk 10 61 = some [0, 10, 9, 0] := by decide +kernel
theorem k10_64 : xlk 10 64 = some [0, 10, 10, 0] := by decide +kernel
theorem k10_67 : xlk 10 67 = some [0, 10, 12, 0] := by decide +kernel
theorem k10_71 : xlk 10 71 = some [6, 2] := by decide +kernel
theorem k10_73 : xlk 10 73 = some [1, 5, 17] := by decide +kernel
theorem k10_74 : xlk 10 74 = some [0, 10, 15, 0] := by decide +kernel
theorem k10_78 : xlk 10 78 = some [0, 2, 0, 1] := by decide +kernel
theorem k10_82 : xlk 10 82 = some [0, 10, 14, 0] := by decide +kernel
theorem k10_83 : xlk 10 83 = some [6, 0] := by decide +kernel
theorem k10_85 : xlk 10 85 = some [1, 5, 0] := by decide +kernel
theorem k10_86 : xlk 10 86 = some [0, 10, 16, 0] := by decide +kernel
theorem k10_92 : xlk 10 92 = some [0, 10, 17, 0] := by decide +kernel
theorem k10_96 : xlk 10 96 = some [0, 5, 1, 1] := by decide +kernel
theorem k10_100 : xlk 10 100 = some [1, 1, 92] := by decide +kernel
theorem k10_104 : xlk 10 104 = some [0, 5, 0, 1] := by decide +kernel
theorem k10_107 : xlk 10 107 = some [1, 1, 93] := by decide +kernel
theorem k10_111 : xlk 10 111 = some [1, 1, 98] := by decide +kernel
theorem k10_115 : xlk 10 115 = some [11, 0] := by decide +kernel
theorem k10_117 : xlk 10 117 = some [3, 293, 9999] := by decide +kernel
theorem k10_121 : xlk 10 121 = some [0, 6, 5, 1] := by decide +kernel
theorem k10_124 : xlk 10 124 = some [0, 10, 11, 0] := by decide +kernel
theorem k10_127 : xlk 10 127 = some [0, 6, 2, 1] := by decide +kernel
theorem k10_130 : xlk 10 130 = some [1, 0, 148] := by decide +kernel
theorem k10_133 : xlk 10 133 = some [11, 8] := by decide +kernel
theorem k10_135 : xlk 10 135 = some [3, 9999, 293] := by decide +kernel
theorem k10_136 : xlk 10 136 = some [1, 2, 147] := by decide +kernel
theorem k10_140 : xlk 10 140 = some [1, 1, 45] := by decide +kernel
theorem k10_143 : xlk 10 143 = some [0, 3, 10, 1] := by decide +kernel
theorem k10_144 : xlk 10 144 = some [1, 1, 42] := by decide +kernel
theorem k10_148 : xlk 10 148 = some [1, 1, 124] := by decide +kernel
theorem k10_151 : xlk 10 151 = some [1, 1, 122] := by decide +kernel
theorem k10_152 : xlk 10 152 = some [0, 8, 3, 1] := by decide +kernel
theorem k10_155 : xlk 10 155 = some [1, 0, 149] := by decide +kernel
theorem k10_159 : xlk 10 159 = some [0, 3, 9, 1] := by decide +kernel
theorem k10_163 : xlk 10 163 = some [0, 3, 8, 1] := by decide +kernel
theorem k10_166 : xlk 10 166 = some [1, 1, 94] := by decide +kernel
theorem k10_169 : xlk 10 169 = some [1, 1, 116] := by decide +kernel
theorem k10_173 : xlk 10 173 = some [1, 1, 120] := by decide +kernel
theorem k10_177 : xlk 10 177 = some [1, 1, 56] := by decide +kernel
theorem k10_181 : xlk 10 181 = some [1, 1, 62] := by decide +kernel
theorem k10_184 : xlk 10 184 = some [1, 1, 63] := by decide +kernel
theorem k10_188 : xlk 10 188 = some [0, 10, 13, 0] := by decide +kernel
theorem k10_194 : xlk 10 194 = some [1, 1, 1] := by decide +kernel
theorem k10_198 : xlk 10 198 = some [1, 1, 95] := by decide +kernel
theorem k10_202 : xlk 10 202 = some [1, 0, 163] := by decide +kernel
theorem k10_206 : xlk 10 206 = some [1, 1, 69] := by decide +kernel
theorem k10_210 : xlk 10 210 = some [1, 0, 164] := by decide +kernel
theorem k10_213 : xlk 10 213 = some [1, 0, 165] := by decide +kernel
theorem k10_216 : xlk 10 216 = some [0, 10, 18, 0] := by decide +kernel
theorem k10_219 : xlk 10 219 = some [1, 1, 133] := by decide +kernel
theorem k10_222 : xlk 10 222 = some [10] := by decide +kernel
theorem k10_224 : xlk 10 224 = some [1, 1, 65] := by decide +kernel
theorem k10_227 : xlk 10 227 = some [10] := by decide +kernel
theorem k10_229 : xlk 10 229 = some [1, 1, 137] := by decide +kernel
theorem k10_232 : xlk 10 232 = some [1, 2, 168] := by decide +kernel
theorem k10_236 : xlk 10 236 = some [1, 0, 170] := by decide +kernel
theorem k10_239 : xlk 10 239 = some [1, 0, 171] := by decide +kernel
theorem k10_242 : xlk 10 242 = some [1, 1, 140] := by decide +kernel
theorem k10_245 : xlk 10 245 = some [1, 1, 18] := by decide +kernel
theorem k10_249 : xlk 10 249 = some [1, 1, 29] := by decide +kernel
theorem k10_252 : xlk 10 252 = some [1, 0, 174] := by decide +kernel
theorem k10_255 : xlk 10 255 = some [1, 1, 30] := by decide +kernel
theorem k10_259 : xlk 10 259 = some [1, 1, 31] := by decide +kernel
theorem k10_262 : xlk 10 262 = some [1, 1, 38] := by decide +kernel
theorem k10_265 : xlk 10 265 = some [1, 1, 32] := by decide +kernel
theorem k10_268 : xlk 10 268 = some [1, 2, 188] := by decide +kernel
theorem k10_272 : xlk 10 272 = some [1, 1, 89] := by decide +kernel
theorem k10_276 : xlk 10 276 = some [1, 1, 37] := by decide +kernel
theorem k10_279 : xlk 10 279 = some [1, 1, 3] := by decide +kernel
theorem k10_283 : xlk 10 283 = some [1, 0, 178] := by decide +kernel
theorem k10_287 : xlk 10 287 = some [1, 1, 7] := by decide +kernel
theorem k10_291 : xlk 10 291 = some [1, 0, 180] := by decide +kernel
theorem k10_295 : xlk 10 295 = some [1, 0, 182] := by decide +kernel
theorem k10_298 : xlk 10 298 = some [1, 1, 39] := by decide +kernel
theorem k10_301 : xlk 10 301 = some [1, 1, 88] := by decide +kernel
theorem k10_304 : xlk 10 304 = some [1, 1, 70] := by decide +kernel
theorem k10_308 : xlk 10 308 = some [1, 1, 90] := by decide +kernel
theorem k10_311 : xlk 10 311 = some [1, 0, 185] := by decide +kernel
theorem k10_314 : xlk 10 314 = some [0, 9, 2, 1] := by decide +kernel
theorem k10_316 : xlk 10 316 = some [1, 1, 72] := by decide +kernel
theorem k10_319 : xlk 10 319 = some [1, 1, 73] := by decide +kernel
theorem k10_322 : xlk 10 322 = some [1, 1, 75] := by decide +kernel
theorem k10_326 : xlk 10 326 = some [1, 1, 84] := by decide +kernel
theorem k10_329 : xlk 10 329 = some [1, 1, 96] := by decide +kernel
theorem k10_332 : xlk 10 332 = some [1, 1, 85] := by decide +kernel
theorem k10_335 : xlk 10 335 = some [1, 1, 82] := by decide +kernel
theorem k10_338 : xlk 10 338 = some [0, 4, 16, 1] := by decide +kernel
theorem k10_341 : xlk 10 341 = some [1, 1, 86] := by decide +kernel
theorem k10_345 : xlk 10 345 = some [1, 1, 74] := by decide +kernel
theorem k10_348 : xlk 10 348 = some [9] := by decide +kernel
theorem k10_349 : xlk 10 349 = some [14] := by decide +kernel
theorem k10_355 : xlk 10 355 = some [0, 3, 7, 1] := by decide +kernel
theorem k10_358 : xlk 10 358 = some [1, 1, 10] := by decide +kernel
theorem k10_361 : xlk 10 361 = some [1, 1, 11] := by decide +kernel
theorem k11_1 : xlk 11 1 = some [0, 11, 0, 0] := by decide +kernel
theorem k11_7 : xlk 11 7 = some [0, 11, 2, 0] := by decide +kernel
theorem k11_10 : xlk 11 10 = some [1, 0, 191] := by decide +kernel
theorem k11_14 : xlk 11 14 = some [0, 11, 1, 0] := by decide +kernel
theorem k11_18 : xlk 11 18 = some [0, 11, 3, 0] := by decide +kernel
theorem k11_21 : xlk 11 21 = some [0, 11, 4, 0] := by decide +kernel
theorem k11_24 : xlk 11 24 = some [1, 0, 197] := by decide +kernel
theorem k11_28 : xlk 11 28 = some [0, 11, 6, 0] := by decide +kernel
theorem k11_31 : xlk 11 31 = some [0, 11, 7, 0] := by decide +kernel
theorem k11_34 : xlk 11 34 = some [0, 11, 5, 0] := by decide +kernel
theorem k11_37 : xlk 11 37 = some [1, 2, 198] := by decide +kernel
theorem k11_41 : xlk 11 41 = some [1, 2, 199] := by decide +kernel
theorem k11_44 : xlk 11 44 = some [0, 11, 11, 0] := by decide +kernel
theorem k11_48 : xlk 11 48 = some [0, 11, 8, 0] := by decide +kernel
theorem k11_51 : xlk 11 51 = some [0, 11, 9, 0] := by decide +kernel
theorem k11_54 : xlk 11 54 = some [0, 11, 10, 0] := by decide +kernel
theorem k11_57 : xlk 11 57 = some [1, 0, 203] := by decide +kernel
theorem k11_61 : xlk 11 61 = some [1, 0, 204] := by decide +kernel
theorem k11_65 : xlk 11 65 = some [1, 0, 196] := by decide +kernel
theorem k11_69 : xlk 11 69 = some [1, 0, 195] := by decide +kernel
theorem k11_72 : xlk 11 72 = some [0, 11, 20, 0] := by decide +kernel
theorem k11_75 : xlk 11 75 = some [9] := by decide +kernel
theorem k11_76 : xlk 11 76 = some [0, 11, 16, 0] := by decide +kernel
theorem k11_79 : xlk 11 79 = some [0, 11, 17, 0] := by decide +kernel
theorem k11_82 : xlk 11 82 = some [0, 11, 18, 0] := by decide +kernel
theorem k11_85 : xlk 11 85 = some [0, 11, 19, 0] := by decide +kernel
theorem k11_88 : xlk 11 88 = some [1, 0, 200] := by decide +kernel
theorem k11_91 : xlk 11 91 = some [0, 11, 12, 0] := by decide +kernel
theorem k11_94 : xlk 11 94 = some [0, 11, 13, 0] := by decide +kernel
theorem k11_97 : xlk 11 97 = some [0, 11, 14, 0] := by decide +kernel
theorem k11_100 : xlk 11 100 = some [0, 11, 15, 0] := by decide +kernel
theorem k11_103 : xlk 11 103 = some [0, 11, 21, 0] := by decide +kernel
theorem k11_107 : xlk 11 107 = some [0, 11, 22, 0] := by decide +kernel
theorem k11_110 : xlk 11 110 = some [0, 11, 23, 0] := by decide +kernel
theorem k11_113 : xlk 11 113 = some [0, 11, 24, 0] := by decide +kernel
theorem k11_116 : xlk 11 116 = some [0, 11, 25, 0] := by decide +kernel
theorem k11_119 : xlk 11 119 = some [0, 11, 26, 0] := by decide +kernel
theorem k11_122 : xlk 11 122 = some [10] := by decide +kernel
theorem k11_124 : xlk 11 124 = some [1, 0, 201] := by decide +kernel
theorem k11_128 : xlk 11 128 = some [1, 0, 202] := by decide +kernel
theorem k11_131 : xlk 11 131 = some [1, 0, 205] := by decide +kernel
theorem k11_134 : xlk 11 134 = some [10] := by decide +kernel
theorem k11_136 : xlk 11 136 = some [1, 0, 206] := by decide +kernel
theorem k11_140 : xlk 11 140 = some [10] := by decide +kernel
theorem k11_142 : xlk 11 142 = some [10] := by decide +kernel
theorem k11_144 : xlk 11 144 = some [10] := by decide +kernel
theorem k11_146 : xlk 11 146 = some [10] := by decide +kernel
theorem k11_148 : xlk 11 148 = some [10] := by decide +kernel
theorem k11_150 : xlk 11 150 = some [0, 11, 27, 0] := by decide +kernel
theorem k11_153 : xlk 11 153 = some [1, 0, 210] := by decide +kernel
theorem k11_156 : xlk 11 156 = some [1, 0, 211] := by decide +kernel
theorem k11_159 : xlk 11 159 = some [1, 0, 212] := by decide +kernel
theorem k11_163 : xlk 11 163 = some [1, 0, 208] := by decide +kernel
theorem k11_166 : xlk 11 166 = some [1, 0, 209] := by decide +kernel
theorem k11_169 : xlk 11 169 = some [1, 0, 214] := by decide +kernel
theorem k11_173 : xlk 11 173 = some [1, 0, 216] := by decide +kernel
theorem k11_176 : xlk 11 176 = some [0, 11, 28, 0] := by decide +kernel
theorem k11_179 : xlk 11 179 = some [1, 0, 217] := by decide +kernel
theorem k11_183 : xlk 11 183 = some [0, 11, 30, 0] := by decide +kernel
theorem k11_186 : xlk 11 186 = some [0, 11, 29, 0] := by decide +kernel
theorem k11_189 : xlk 11 189 = some [0, 11, 31, 0] := by decide +kernel
theorem k11_192 : xlk 11 192 = some [1, 0, 221] := by decide +kernel
theorem k11_195 : xlk 11 195 = some [0, 11, 39, 0] := by decide +kernel
theorem k11_198 : xlk 11 198 = some [0, 11, 40, 0] := by decide +kernel
theorem k11_201 : xlk 11 201 = some [1, 0, 220] := by decide +kernel
theorem k11_204 : xlk 11 204 = some [1, 0, 222] := by decide +kernel
theorem k11_207 : xlk 11 207 = some [0, 11, 32, 0] := by decide +kernel
theorem k11_210 : xlk 11 210 = some [0, 11, 33, 0] := by decide +kernel
theorem k11_213 : xlk 11 213 = some [0, 11, 34, 0] := by decide +kernel
theorem k11_216 : xlk 11 216 = some [0, 11, 35, 0] := by decide +kernel
theorem k11_219 : xlk 11 219 = some [0, 11, 36, 0] := by decide +kernel
theorem k11_222 : xlk 11 222 = some [0, 11, 37, 0] := by decide +kernel
theorem k11_225 : xlk 11 225 = some [0, 11, 38, 0] := by decide +kernel
theorem k11_228 : xlk 11 228 = some [1, 0, 223] := by decide +kernel
theorem k11_231 : xlk 11 231 = some [1, 0, 225] := by decide +kernel
theorem k11_234 : xlk 11 234 = some [1, 0, 229] := by decide +kernel
theorem k11_238 : xlk 11 238 = some [1, 0, 228] := by decide +kernel
theorem k11_241 : xlk 11 241 = some [0, 11, 41, 0] := by decide +kernel
theorem k11_244 : xlk 11 244 = some [1, 0, 231] := by decide +kernel
theorem k11_248 : xlk 11 248 = some [0, 11, 43, 0] := by decide +kernel
theorem k11_251 : xlk 11 251 = some [1, 0, 233] := by decide +kernel
theorem k11_254 : xlk 11 254 = some [0, 11, 44, 0] := by decide +kernel
theorem k11_257 : xlk 11 257 = some [0, 11, 42, 0] := by decide +kernel
theorem k11_260 : xlk 11 260 = some [0, 11, 46, 0] := by decide +kernel
theorem k11_263 : xlk 11 263 = some [0, 11, 50, 0] := by decide +kernel
theorem k11_266 : xlk 11 266 = some [0, 11, 48, 0] := by decide +kernel
theorem k11_269 : xlk 11 269 = some [1, 0, 236] := by decide +kernel
theorem k11_272 : xlk 11 272 = some [0, 11, 45, 0] := by decide +kernel
theorem k11_275 : xlk 11 275 = some [0, 11, 47, 0] := by decide +kernel
theorem k11_278 : xlk 11 278 = some [0, 11, 49, 0] := by decide +kernel
theorem k11_281 : xlk 11 281 = some [10] := by decide +kernel
theorem k11_283 : xlk 11 283 = some [10] := by decide +kernel
theorem k11_285 : xlk 11 285 = some [10] := by decide +kernel
theorem k11_287 : xlk 11 287 = some [1, 0, 237] := by decide +kernel
theorem k11_291 : xlk 11 291 = some [10] := by decide +kernel
theorem k11_293 : xlk 11 293 = some [10] := by decide +kernel
theorem k11_295 : xlk 11 295 = some [10] := by decide +kernel
theorem k11_297 : xlk 11 297 = some [10] := by decide +kernel
theorem k11_299 : xlk 11 299 = some [10] := by decide +kernel
theorem k11_301 : xlk 11 301 = some [10] := by decide +kernel
theorem k11_303 : xlk 11 303 = some [10] := by decide +kernel
theorem k11_305 : xlk 11 305 = some [10] := by decide +kernel
theorem k11_307 : xlk 11 307 = some [10] := by decide +kernel
theorem k11_309 : xlk 11 309 = some [10] := by decide +kernel
theorem k11_311 : xlk 11 311 = some [10] := by decide +kernel
theorem k11_313 : xlk 11 313 = some [10] := by decide +kernel
theorem k11_315 : xlk 11 315 = some [10] := by decide +kernel
theorem k11_317 : xlk 11 317 = some [10] := by decide +kernel
theorem k11_319 : xlk 11 319 = some [10] := by decide +kernel
theorem k11_321 : xlk 11 321 = some [10] := by decide +kernel
theorem k11_323 : xlk 11 323 = some [10] := by decide +kernel
theorem k11_325 : xlk 11 325 = some [2] := by decide +kernel
theorem k11_330 : xlk 11 330 = some [0, 11, 51, 0] := by decide +kernel
theorem k11_333 : xlk 11 333 = some [0, 11, 52, 0] := by decide +kernel
theorem k11_336 : xlk 11 336 = some [0, 11, 53, 0] := by decide +kernel
theorem k11_339 : xlk 11 339 = some [0, 11, 54, 0] := by decide +kernel
theorem k11_342 : xlk 11 342 = some [0, 11, 55, 0] := by decide +kernel
theorem k11_345 : xlk 11 345 = some [0, 11, 56, 0] := by decide +kernel
theorem k11_349 : xlk 11 349 = some [0, 11, 57, 0] := by decide +kernel
theorem k11_352 : xlk 11 352 = some [0, 11, 71, 0] := by decide +kernel
theorem k11_355 : xlk 11 355 = some [0, 11, 73, 0] := by decide +kernel
theorem k11_358 : xlk 11 358 = some [0, 11, 74, 0] := by decide +kernel
theorem k11_361 : xlk 11 361 = some [0, 11, 75, 0] := by decide +kernel
theorem k11_364 : xlk 11 364 = some [0, 11, 76, 0] := by decide +kernel
theorem k11_367 : xlk 11 367 = some [0, 11, 77, 0] := by decide +kernel
theorem k11_370 : xlk 11 370 = some [0, 11, 78, 0] := by decide +kernel
theorem k11_373 : xlk 11 373 = some [0, 11, 79, 0] := by decide +kernel
theorem k11_376 : xlk 11 376 = some [0, 11, 80, 0] := by decide +kernel
theorem k11_379 : xlk 11 379 = some [0, 11, 81, 0] := by decide +kernel
theorem k11_382 : xlk 11 382 = some [0, 11, 82, 0] := by decide +kernel
theorem k11_385 : xlk 11 385 = some [0, 11, 58, 0] := by decide +kernel
theorem k11_388 : xlk 11 388 = some [0, 11, 59, 0] := by decide +kernel
theorem k11_391 : xlk 11 391 = some [0, 11, 60, 0] := by decide +kernel
theorem k11_394 : xlk 11 394 = some [1, 0, 243] := by decide +kernel
theorem k11_398 : xlk 11 398 = some [1, 0, 241] := by decide +kernel
theorem k11_402 : xlk 11 402 = some [1, 0, 242] := by decide +kernel
theorem k11_405 : xlk 11 405 = some [0, 11, 61, 0] := by decide +kernel
theorem k11_408 : xlk 11 408 = some [0, 11, 62, 0] := by decide +kernel
theorem k11_411 : xlk 11 411 = some [0, 11, 70, 0] := by decide +kernel
theorem k11_415 : xlk 11 415 = some [1, 0, 246] := by decide +kernel
theorem k11_418 : xlk 11 418 = some [1, 0, 247] := by decide +kernel
theorem k11_421 : xlk 11 421 = some [0, 11, 63, 0] := by decide +kernel
theorem k11_424 : xlk 11 424 = some [0, 11, 64, 0] := by decide +kernel
theorem k11_427 : xlk 11 427 = some [0, 11, 65, 0] := by decide +kernel
theorem k11_430 : xlk 11 430 = some [0, 11, 66, 0] := by decide +kernel
theorem k11_433 : xlk 11 433 = some [0, 11, 68, 0] := by decide +kernel
theorem k11_436 : xlk 11 436 = some [0, 11, 69, 0] := by decide +kernel
theorem k11_439 : xlk 11 439 = some [1, 0, 249] := by decide +kernel
theorem k11_442 : xlk 11 442 = some [1, 2, 250] := by decide +kernel
theorem k11_445 : xlk 11 445 = some [0, 11, 67, 0] := by decide +kernel
theorem k11_448 : xlk 11 448 = some [1, 0, 251] := by decide +kernel
theorem k11_452 : xlk 11 452 = some [1, 0, 240] := by decide +kernel
theorem k11_455 : xlk 11 455 = some [0, 11, 72, 0] := by decide +kernel
theorem k11_458 : xlk 11 458 = some [1, 0, 244] := by decide +kernel
theorem k11_461 : xlk 11 461 = some [1, 0, 245] := by decide +kernel
theorem k11_465 : xlk 11 465 = some [1, 0, 248] := by decide +kernel
theorem k11_468 : xlk 11 468 = some [10] := by decide +kernel
theorem k11_470 : xlk 11 470 = some [10] := by decide +kernel
theorem k11_472 : xlk 11 472 = some [1, 2, 262] := by decide +kernel
theorem k11_475 : xlk 11 475 = some [1, 2, 263] := by decide +kernel
theorem k11_478 : xlk 11 478 = some [1, 2, 264] := by decide +kernel
theorem k11_481 : xlk 11 481 = some [1, 2, 259] := by decide +kernel
theorem k11_485 : xlk 11 485 = some [1, 0, 258] := by decide +kernel
theorem k11_488 : xlk 11 488 = some [1, 0, 260] := by decide +kernel
theorem k11_491 : xlk 11 491 = some [1, 0, 261] := by decide +kernel
theorem k11_494 : xlk 11 494 = some [1, 0, 265] := by decide +kernel
theorem k11_497 : xlk 11 497 = some [1, 0, 267] := by decide +kernel
theorem k11_500 : xlk 11 500 = some [1, 0, 268] := by decide +kernel
theorem k11_503 : xlk 11 503 = some [1, 0, 257] := by decide +kernel
theorem k11_506 : xlk 11 506 = some [1, 0, 266] := by decide +kernel
theorem k11_509 : xlk 11 509 = some [1, 0, 255] := by decide +kernel
theorem k11_512 : xlk 11 512 = some [1, 0, 256] := by decide +kernel
theorem k11_515 : xlk 11 515 = some [1, 2, 273] := by decide +kernel
theorem k11_518 : xlk 11 518 = some [1, 0, 272] := by decide +kernel
theorem k11_521 : xlk 11 521 = some [1, 2, 274] := by decide +kernel
theorem k11_524 : xlk 11 524 = some [1, 0, 276] := by decide +kernel
theorem k11_527 : xlk 11 527 = some [1, 0, 281] := by decide +kernel
theorem k11_530 : xlk 11 530 = some [1, 0, 282] := by decide +kernel
theorem k11_534 : xlk 11 534 = some [1, 2, 283] := by decide +kernel
theorem k11_537 : xlk 11 537 = some [1, 0, 280] := by decide +kernel
theorem k11_540 : xlk 11 540 = some [9] := by decide +kernel
theorem k11_541 : xlk 11 541 = some [1, 0, 279] := by decide +kernel
theorem k11_545 : xlk 11 545 = some [1, 0, 278] := by decide +kernel
theorem k11_548 : xlk 11 548 = some [1, 0, 286] := by decide +kernel
theorem k11_551 : xlk 11 551 = some [1, 0, 288] := by decide +kernel
theorem k11_554 : xlk 11 554 = some [1, 0, 289] := by decide +kernel
theorem k12_3 : xlk 12 3 = some [2] := by decide +kernel
theorem k12_9 : xlk 12 9 = some [3, 110, 128] := by decide +kernel
theorem k12_14 : xlk 12 14 = some [0, 6, 4, 1] := by decide +kernel
theorem k12_20 : xlk 12 20 = some [1, 1, 101] := by decide +kernel
theorem k12_24 : xlk 12 24 = some [3, 111, 129] := by decide +kernel
theorem k12_28 : xlk 12 28 = some [1, 1, 108] := by decide +kernel
theorem k13_265 : xlk 13 265 = some [9] := by decide +kernel
theorem k13_266 : xlk 13 266 = some [9] := by decide +kernel
theorem k13_267 : xlk 13 267 = some [9] := by decide +kernel
def xtg (ci k : Nat) : Nat := (xTags.getD ci []).getD k 0
/-- how many fields the objects of a class have -/
def xnf (ci : Nat) : Nat := (xTags.getD ci []).length
def xT0 : u_T := fun _ => ("", "", "", false)
def xcl (ci : Nat) : vw_C := vwCl.getD ci ("", xT0, 0)
def xfin (ci f : Nat) : Bool := ((xcl ci).2.1 f).2.2.2
