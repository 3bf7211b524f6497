/-! THE LAYOUT behind the law's three makings: cell 0 the RhymeRing, 187 the reference, 230 the row 'out' -/
def xSH : List (Nat × Nat) := [(10, 19), (5, 2), (21, 260), (6, 6), (21, 0), (7, 6), (20, 12), (20, 6), (7, 6), (20, 12), (20, 6), (9, 3), (20, 8), (20, 4), (9, 3), (20, 8), (20, 4), (25, 6), (3, 15), (21, 240), (20, 120), (20, 120), (20, 120), (20, 17), (3, 15), (21, 240), (20, 120), (20, 120), (20, 120), (20, 17), (3, 15), (21, 240), (20, 120), (20, 120), (20, 120), (20, 17), (3, 15), (21, 240), (20, 120), (20, 120), (20, 120), (20, 17), (3, 15), (21, 240), (20, 120), (20, 120), (20, 120), (20, 17), (3, 15), (21, 240), (20, 120), (20, 120), (20, 120), (20, 17), (3, 15), (21, 240), (20, 120), (20, 120), (20, 120), (20, 17), (8, 4), (21, 144), (20, 13), (20, 12), (8, 4), (21, 144), (20, 13), (20, 12), (8, 4), (21, 144), (20, 13), (20, 12), (21, 240), (2, 8), (4, 18), (26, 6), (20, 4), (20, 12), (20, 5), (20, 24), (20, 24), (27, 24), (20, 5), (20, 5), (20, 5), (20, 5), (20, 5), (20, 5), (20, 5), (20, 5), (20, 5), (20, 5), (20, 5), (20, 5), (20, 5), (20, 5), (20, 5), (20, 5), (20, 5), (20, 5), (20, 5), (20, 5), (20, 5), (20, 5), (20, 5), (20, 5), (1, 6), (20, 136), (20, 17), (20, 16), (1, 6), (20, 136), (20, 17), (20, 16), (1, 6), (20, 136), (20, 17), (20, 16), (1, 6), (20, 136), (20, 17), (20, 16), (1, 6), (20, 136), (20, 17), (20, 16), (1, 6), (20, 136), (20, 17), (20, 16), (20, 2048), (20, 2048), (20, 8), (0, 7), (21, 240), (21, 240), (27, 16), (20, 16), (20, 16), (20, 16), (20, 16), (20, 16), (20, 16), (20, 16), (20, 16), (20, 16), (20, 16), (20, 16), (20, 16), (20, 16), (20, 16), (20, 16), (20, 16), (27, 17), (20, 17), (20, 17), (20, 17), (20, 17), (20, 17), (20, 17), (20, 17), (20, 17), (20, 17), (20, 17), (20, 17), (20, 17), (20, 17), (20, 17), (20, 17), (20, 17), (20, 17), (20, 121), (27, 6), (20, 17), (20, 17), (20, 17), (20, 17), (20, 17), (20, 17), (27, 6), (20, 17), (20, 17), (20, 17), (20, 17), (20, 17), (20, 17), (20, 24), (11, 83), (22, 260), (20, 12), (20, 12), (20, 6), (20, 6), (20, 6), (20, 6), (22, 1904), (20, 12), (20, 5), (20, 854), (20, 854), (20, 854), (20, 119), (20, 112), (20, 7), (20, 6), (22, 480), (22, 480), (22, 480), (20, 7), (20, 7), (20, 4), (20, 4), (20, 4), (20, 732), (20, 102), (20, 12), (20, 24), (23, 102), (23, 6), (20, 24), (23, 16384), (20, 16384), (20, 124), (20, 124), (20, 289), (20, 289), (20, 102), (20, 102), (23, 16384), (23, 16384), (24, 1)]
def xRTl : List (Nat × List (Nat × Nat)) := [(0, [(0, 1), (1, 3), (6, 17), (12, 72), (14, 74), (15, 73), (16, 133), (17, 186)]), (1, [(0, 2)]), (5, [(1, 6), (3, 7)]), (8, [(1, 9), (3, 10)]), (11, [(0, 12), (1, 13)]), (14, [(0, 15), (1, 16)]), (18, [(0, 19), (2, 20), (3, 21), (4, 22), (6, 23)]), (24, [(0, 25), (2, 26), (3, 27), (4, 28), (6, 29)]), (30, [(0, 31), (2, 32), (3, 33), (4, 34), (6, 35)]), (36, [(0, 37), (2, 38), (3, 39), (4, 40), (6, 41)]), (42, [(0, 43), (2, 44), (3, 45), (4, 46), (6, 47)]), (48, [(0, 49), (2, 50), (3, 51), (4, 52), (6, 53)]), (54, [(0, 55), (2, 56), (3, 57), (4, 58), (6, 59)]), (60, [(0, 61), (1, 62), (2, 63)]), (64, [(0, 65), (1, 66), (2, 67)]), (68, [(0, 69), (1, 70), (2, 71)]), (73, [(0, 74), (1, 130), (2, 131), (4, 132)]), (74, [(0, 75), (1, 76), (3, 77), (4, 78), (6, 79), (8, 80), (9, 81)]), (75, [(0, 106), (1, 110), (2, 114), (3, 118), (4, 122), (5, 126)]), (81, [(0, 82), (1, 83), (2, 84), (3, 85), (4, 86), (5, 87), (6, 88), (7, 89), (8, 90), (9, 91), (10, 92), (11, 93), (12, 94), (13, 95), (14, 96), (15, 97), (16, 98), (17, 99), (18, 100), (19, 101), (20, 102), (21, 103), (22, 104), (23, 105)]), (106, [(0, 107), (1, 108), (2, 109)]), (110, [(0, 111), (1, 112), (2, 113)]), (114, [(0, 115), (1, 116), (2, 117)]), (118, [(0, 119), (1, 120), (2, 121)]), (122, [(0, 123), (1, 124), (2, 125)]), (126, [(0, 127), (1, 128), (2, 129)]), (133, [(0, 134), (1, 135), (2, 136), (3, 153), (4, 171), (5, 172), (6, 179)]), (136, [(0, 137), (1, 138), (2, 139), (3, 140), (4, 141), (5, 142), (6, 143), (7, 144), (8, 145), (9, 146), (10, 147), (11, 148), (12, 149), (13, 150), (14, 151), (15, 152)]), (153, [(0, 154), (1, 155), (2, 156), (3, 157), (4, 158), (5, 159), (6, 160), (7, 161), (8, 162), (9, 163), (10, 164), (11, 165), (12, 166), (13, 167), (14, 168), (15, 169), (16, 170)]), (172, [(0, 173), (1, 174), (2, 175), (3, 176), (4, 177), (5, 178)]), (179, [(0, 180), (1, 181), (2, 182), (3, 183), (4, 184), (5, 185)]), (187, [(1, 188), (21, 189), (22, 190), (23, 191), (24, 192), (25, 193), (26, 194), (27, 195), (28, 196), (29, 197), (32, 198), (33, 199), (34, 200), (35, 201), (36, 202), (37, 203), (38, 204), (41, 205), (42, 206), (44, 207), (45, 208), (46, 209), (47, 210), (48, 211), (51, 212), (52, 213), (53, 214), (54, 215), (55, 216), (56, 217), (57, 218), (71, 219), (73, 220), (74, 221), (75, 222), (76, 223), (77, 224), (78, 225), (79, 226), (80, 227), (81, 228), (82, 229)])]
/-- the references that never change -/
def xRT (a k : Nat) : Option Nat := ((xRTl.find? (fun e => e.1 == a)).bind (fun e => e.2.find? (fun q => q.1 == k))).map (fun q => q.2)
theorem sh_0 : xSH[0]? = some (10, 19) := rfl
theorem sh_1 : xSH[1]? = some (5, 2) := rfl
theorem sh_2 : xSH[2]? = some (21, 260) := rfl
theorem sh_3 : xSH[3]? = some (6, 6) := rfl
theorem sh_4 : xSH[4]? = some (21, 0) := rfl
theorem sh_5 : xSH[5]? = some (7, 6) := rfl
theorem sh_6 : xSH[6]? = some (20, 12) := rfl
theorem sh_7 : xSH[7]? = some (20, 6) := rfl
theorem sh_8 : xSH[8]? = some (7, 6) := rfl
theorem sh_9 : xSH[9]? = some (20, 12) := rfl
theorem sh_10 : xSH[10]? = some (20, 6) := rfl
theorem sh_11 : xSH[11]? = some (9, 3) := rfl
theorem sh_12 : xSH[12]? = some (20, 8) := rfl
theorem sh_13 : xSH[13]? = some (20, 4) := rfl
theorem sh_14 : xSH[14]? = some (9, 3) := rfl
theorem sh_15 : xSH[15]? = some (20, 8) := rfl
theorem sh_16 : xSH[16]? = some (20, 4) := rfl
theorem sh_17 : xSH[17]? = some (25, 6) := rfl
theorem sh_18 : xSH[18]? = some (3, 15) := rfl
theorem sh_19 : xSH[19]? = some (21, 240) := rfl
theorem sh_20 : xSH[20]? = some (20, 120) := rfl
theorem sh_21 : xSH[21]? = some (20, 120) := rfl
theorem sh_22 : xSH[22]? = some (20, 120) := rfl
theorem sh_23 : xSH[23]? = some (20, 17) := rfl
theorem sh_24 : xSH[24]? = some (3, 15) := rfl
theorem sh_25 : xSH[25]? = some (21, 240) := rfl
theorem sh_26 : xSH[26]? = some (20, 120) := rfl
theorem sh_27 : xSH[27]? = some (20, 120) := rfl
theorem sh_28 : xSH[28]? = some (20, 120) := rfl
theorem sh_29 : xSH[29]? = some (20, 17) := rfl
theorem sh_30 : xSH[30]? = some (3, 15) := rfl
theorem sh_31 : xSH[31]? = some (21, 240) := rfl
theorem sh_32 : xSH[32]? = some (20, 120) := rfl
theorem sh_33 : xSH[33]? = some (20, 120) := rfl
theorem sh_34 : xSH[34]? = some (20, 120) := rfl
theorem sh_35 : xSH[35]? = some (20, 17) := rfl
theorem sh_36 : xSH[36]? = some (3, 15) := rfl
theorem sh_37 : xSH[37]? = some (21, 240) := rfl
theorem sh_38 : xSH[38]? = some (20, 120) := rfl
theorem sh_39 : xSH[39]? = some (20, 120) := rfl
theorem sh_40 : xSH[40]? = some (20, 120) := rfl
theorem sh_41 : xSH[41]? = some (20, 17) := rfl
theorem sh_42 : xSH[42]? = some (3, 15) := rfl
theorem sh_43 : xSH[43]? = some (21, 240) := rfl
theorem sh_44 : xSH[44]? = some (20, 120) := rfl
theorem sh_45 : xSH[45]? = some (20, 120) := rfl
theorem sh_46 : xSH[46]? = some (20, 120) := rfl
theorem sh_47 : xSH[47]? = some (20, 17) := rfl
theorem sh_48 : xSH[48]? = some (3, 15) := rfl
theorem sh_49 : xSH[49]? = some (21, 240) := rfl
theorem sh_50 : xSH[50]? = some (20, 120) := rfl
theorem sh_51 : xSH[51]? = some (20, 120) := rfl
theorem sh_52 : xSH[52]? = some (20, 120) := rfl
theorem sh_53 : xSH[53]? = some (20, 17) := rfl
theorem sh_54 : xSH[54]? = some (3, 15) := rfl
theorem sh_55 : xSH[55]? = some (21, 240) := rfl
theorem sh_56 : xSH[56]? = some (20, 120) := rfl
theorem sh_57 : xSH[57]? = some (20, 120) := rfl
theorem sh_58 : xSH[58]? = some (20, 120) := rfl
theorem sh_59 : xSH[59]? = some (20, 17) := rfl
theorem sh_60 : xSH[60]? = some (8, 4) := rfl
theorem sh_61 : xSH[61]? = some (21, 144) := rfl
theorem sh_62 : xSH[62]? = some (20, 13) := rfl
theorem sh_63 : xSH[63]? = some (20, 12) := rfl
theorem sh_64 : xSH[64]? = some (8, 4) := rfl
theorem sh_65 : xSH[65]? = some (21, 144) := rfl
theorem sh_66 : xSH[66]? = some (20, 13) := rfl
theorem sh_67 : xSH[67]? = some (20, 12) := rfl
theorem sh_68 : xSH[68]? = some (8, 4) := rfl
theorem sh_69 : xSH[69]? = some (21, 144) := rfl
theorem sh_70 : xSH[70]? = some (20, 13) := rfl
theorem sh_71 : xSH[71]? = some (20, 12) := rfl
theorem sh_72 : xSH[72]? = some (21, 240) := rfl
theorem sh_73 : xSH[73]? = some (2, 8) := rfl
theorem sh_74 : xSH[74]? = some (4, 18) := rfl
theorem sh_75 : xSH[75]? = some (26, 6) := rfl
theorem sh_76 : xSH[76]? = some (20, 4) := rfl
theorem sh_77 : xSH[77]? = some (20, 12) := rfl
theorem sh_78 : xSH[78]? = some (20, 5) := rfl
theorem sh_79 : xSH[79]? = some (20, 24) := rfl
theorem sh_80 : xSH[80]? = some (20, 24) := rfl
theorem sh_81 : xSH[81]? = some (27, 24) := rfl
theorem sh_82 : xSH[82]? = some (20, 5) := rfl
theorem sh_83 : xSH[83]? = some (20, 5) := rfl
theorem sh_84 : xSH[84]? = some (20, 5) := rfl
theorem sh_85 : xSH[85]? = some (20, 5) := rfl
theorem sh_86 : xSH[86]? = some (20, 5) := rfl
theorem sh_87 : xSH[87]? = some (20, 5) := rfl
theorem sh_88 : xSH[88]? = some (20, 5) := rfl
theorem sh_89 : xSH[89]? = some (20, 5) := rfl
theorem sh_90 : xSH[90]? = some (20, 5) := rfl
theorem sh_91 : xSH[91]? = some (20, 5) := rfl
theorem sh_92 : xSH[92]? = some (20, 5) := rfl
theorem sh_93 : xSH[93]? = some (20, 5) := rfl
theorem sh_94 : xSH[94]? = some (20, 5) := rfl
theorem sh_95 : xSH[95]? = some (20, 5) := rfl
theorem sh_96 : xSH[96]? = some (20, 5) := rfl
theorem sh_97 : xSH[97]? = some (20, 5) := rfl
theorem sh_98 : xSH[98]? = some (20, 5) := rfl
theorem sh_99 : xSH[99]? = some (20, 5) := rfl
theorem sh_100 : xSH[100]? = some (20, 5) := rfl
theorem sh_101 : xSH[101]? = some (20, 5) := rfl
theorem sh_102 : xSH[102]? = some (20, 5) := rfl
theorem sh_103 : xSH[103]? = some (20, 5) := rfl
theorem sh_104 : xSH[104]? = some (20, 5) := rfl
theorem sh_105 : xSH[105]? = some (20, 5) := rfl
theorem sh_106 : xSH[106]? = some (1, 6) := rfl
theorem sh_107 : xSH[107]? = some (20, 136) := rfl
theorem sh_108 : xSH[108]? = some (20, 17) := rfl
theorem sh_109 : xSH[109]? = some (20, 16) := rfl
theorem sh_110 : xSH[110]? = some (1, 6) := rfl
theorem sh_111 : xSH[111]? = some (20, 136) := rfl
theorem sh_112 : xSH[112]? = some (20, 17) := rfl
theorem sh_113 : xSH[113]? = some (20, 16) := rfl
theorem sh_114 : xSH[114]? = some (1, 6) := rfl
theorem sh_115 : xSH[115]? = some (20, 136) := rfl
theorem sh_116 : xSH[116]? = some (20, 17) := rfl
theorem sh_117 : xSH[117]? = some (20, 16) := rfl
theorem sh_118 : xSH[118]? = some (1, 6) := rfl
theorem sh_119 : xSH[119]? = some (20, 136) := rfl
theorem sh_120 : xSH[120]? = some (20, 17) := rfl
theorem sh_121 : xSH[121]? = some (20, 16) := rfl
theorem sh_122 : xSH[122]? = some (1, 6) := rfl
theorem sh_123 : xSH[123]? = some (20, 136) := rfl
theorem sh_124 : xSH[124]? = some (20, 17) := rfl
theorem sh_125 : xSH[125]? = some (20, 16) := rfl
theorem sh_126 : xSH[126]? = some (1, 6) := rfl
theorem sh_127 : xSH[127]? = some (20, 136) := rfl
theorem sh_128 : xSH[128]? = some (20, 17) := rfl
theorem sh_129 : xSH[129]? = some (20, 16) := rfl
theorem sh_130 : xSH[130]? = some (20, 2048) := rfl
theorem sh_131 : xSH[131]? = some (20, 2048) := rfl
theorem sh_132 : xSH[132]? = some (20, 8) := rfl
theorem sh_133 : xSH[133]? = some (0, 7) := rfl
theorem sh_134 : xSH[134]? = some (21, 240) := rfl
theorem sh_135 : xSH[135]? = some (21, 240) := rfl
theorem sh_136 : xSH[136]? = some (27, 16) := rfl
theorem sh_137 : xSH[137]? = some (20, 16) := rfl
theorem sh_138 : xSH[138]? = some (20, 16) := rfl
theorem sh_139 : xSH[139]? = some (20, 16) := rfl
theorem sh_140 : xSH[140]? = some (20, 16) := rfl
theorem sh_141 : xSH[141]? = some (20, 16) := rfl
theorem sh_142 : xSH[142]? = some (20, 16) := rfl
theorem sh_143 : xSH[143]? = some (20, 16) := rfl
theorem sh_144 : xSH[144]? = some (20, 16) := rfl
theorem sh_145 : xSH[145]? = some (20, 16) := rfl
theorem sh_146 : xSH[146]? = some (20, 16) := rfl
theorem sh_147 : xSH[147]? = some (20, 16) := rfl
theorem sh_148 : xSH[148]? = some (20, 16) := rfl
theorem sh_149 : xSH[149]? = some (20, 16) := rfl
theorem sh_150 : xSH[150]? = some (20, 16) := rfl
theorem sh_151 : xSH[151]? = some (20, 16) := rfl
theorem sh_152 : xSH[152]? = some (20, 16) := rfl
theorem sh_153 : xSH[153]? = some (27, 17) := rfl
theorem sh_154 : xSH[154]? = some (20, 17) := rfl
theorem sh_155 : xSH[155]? = some (20, 17) := rfl
theorem sh_156 : xSH[156]? = some (20, 17) := rfl
theorem sh_157 : xSH[157]? = some (20, 17) := rfl
theorem sh_158 : xSH[158]? = some (20, 17) := rfl
theorem sh_159 : xSH[159]? = some (20, 17) := rfl
theorem sh_160 : xSH[160]? = some (20, 17) := rfl
theorem sh_161 : xSH[161]? = some (20, 17) := rfl
theorem sh_162 : xSH[162]? = some (20, 17) := rfl
theorem sh_163 : xSH[163]? = some (20, 17) := rfl
theorem sh_164 : xSH[164]? = some (20, 17) := rfl
theorem sh_165 : xSH[165]? = some (20, 17) := rfl
theorem sh_166 : xSH[166]? = some (20, 17) := rfl
theorem sh_167 : xSH[167]? = some (20, 17) := rfl
theorem sh_168 : xSH[168]? = some (20, 17) := rfl
theorem sh_169 : xSH[169]? = some (20, 17) := rfl
theorem sh_170 : xSH[170]? = some (20, 17) := rfl
theorem sh_171 : xSH[171]? = some (20, 121) := rfl
theorem sh_172 : xSH[172]? = some (27, 6) := rfl
theorem sh_173 : xSH[173]? = some (20, 17) := rfl
theorem sh_174 : xSH[174]? = some (20, 17) := rfl
theorem sh_175 : xSH[175]? = some (20, 17) := rfl
theorem sh_176 : xSH[176]? = some (20, 17) := rfl
theorem sh_177 : xSH[177]? = some (20, 17) := rfl
theorem sh_178 : xSH[178]? = some (20, 17) := rfl
theorem sh_179 : xSH[179]? = some (27, 6) := rfl
theorem sh_180 : xSH[180]? = some (20, 17) := rfl
theorem sh_181 : xSH[181]? = some (20, 17) := rfl
theorem sh_182 : xSH[182]? = some (20, 17) := rfl
theorem sh_183 : xSH[183]? = some (20, 17) := rfl
theorem sh_184 : xSH[184]? = some (20, 17) := rfl
theorem sh_185 : xSH[185]? = some (20, 17) := rfl
theorem sh_186 : xSH[186]? = some (20, 24) := rfl
theorem sh_187 : xSH[187]? = some (11, 83) := rfl
theorem sh_188 : xSH[188]? = some (22, 260) := rfl
theorem sh_189 : xSH[189]? = some (20, 12) := rfl
theorem sh_190 : xSH[190]? = some (20, 12) := rfl
theorem sh_191 : xSH[191]? = some (20, 6) := rfl
theorem sh_192 : xSH[192]? = some (20, 6) := rfl
theorem sh_193 : xSH[193]? = some (20, 6) := rfl
theorem sh_194 : xSH[194]? = some (20, 6) := rfl
theorem sh_195 : xSH[195]? = some (22, 1904) := rfl
theorem sh_196 : xSH[196]? = some (20, 12) := rfl
theorem sh_197 : xSH[197]? = some (20, 5) := rfl
theorem sh_198 : xSH[198]? = some (20, 854) := rfl
theorem sh_199 : xSH[199]? = some (20, 854) := rfl
theorem sh_200 : xSH[200]? = some (20, 854) := rfl
theorem sh_201 : xSH[201]? = some (20, 119) := rfl
theorem sh_202 : xSH[202]? = some (20, 112) := rfl
theorem sh_203 : xSH[203]? = some (20, 7) := rfl
theorem sh_204 : xSH[204]? = some (20, 6) := rfl
theorem sh_205 : xSH[205]? = some (22, 480) := rfl
theorem sh_206 : xSH[206]? = some (22, 480) := rfl
theorem sh_207 : xSH[207]? = some (22, 480) := rfl
theorem sh_208 : xSH[208]? = some (20, 7) := rfl
theorem sh_209 : xSH[209]? = some (20, 7) := rfl
theorem sh_210 : xSH[210]? = some (20, 4) := rfl
theorem sh_211 : xSH[211]? = some (20, 4) := rfl
theorem sh_212 : xSH[212]? = some (20, 4) := rfl
theorem sh_213 : xSH[213]? = some (20, 732) := rfl
theorem sh_214 : xSH[214]? = some (20, 102) := rfl
theorem sh_215 : xSH[215]? = some (20, 12) := rfl
theorem sh_216 : xSH[216]? = some (20, 24) := rfl
theorem sh_217 : xSH[217]? = some (23, 102) := rfl
theorem sh_218 : xSH[218]? = some (23, 6) := rfl
theorem sh_219 : xSH[219]? = some (20, 24) := rfl
theorem sh_220 : xSH[220]? = some (23, 16384) := rfl
theorem sh_221 : xSH[221]? = some (20, 16384) := rfl
theorem sh_222 : xSH[222]? = some (20, 124) := rfl
theorem sh_223 : xSH[223]? = some (20, 124) := rfl
theorem sh_224 : xSH[224]? = some (20, 289) := rfl
theorem sh_225 : xSH[225]? = some (20, 289) := rfl
theorem sh_226 : xSH[226]? = some (20, 102) := rfl
theorem sh_227 : xSH[227]? = some (20, 102) := rfl
theorem sh_228 : xSH[228]? = some (23, 16384) := rfl
theorem sh_229 : xSH[229]? = some (23, 16384) := rfl
theorem sh_230 : xSH[230]? = some (24, 1) := rfl
theorem r0_0 : xRT 0 0 = some 1 := by decide +kernel
theorem r0_1 : xRT 0 1 = some 3 := by decide +kernel
theorem r0_6 : xRT 0 6 = some 17 := by decide +kernel
theorem r0_12 : xRT 0 12 = some 72 := by decide +kernel
theorem r0_14 : xRT 0 14 = some 74 := by decide +kernel
theorem r0_15 : xRT 0 15 = some 73 := by decide +kernel
theorem r0_16 : xRT 0 16 = some 133 := by decide +kernel
theorem r0_17 : xRT 0 17 = some 186 := by decide +kernel
theorem r1_0 : xRT 1 0 = some 2 := by decide +kernel
theorem r5_1 : xRT 5 1 = some 6 := by decide +kernel
theorem r5_3 : xRT 5 3 = some 7 := by decide +kernel
theorem r8_1 : xRT 8 1 = some 9 := by decide +kernel
theorem r8_3 : xRT 8 3 = some 10 := by decide +kernel
theorem r11_0 : xRT 11 0 = some 12 := by decide +kernel
theorem r11_1 : xRT 11 1 = some 13 := by decide +kernel
theorem r14_0 : xRT 14 0 = some 15 := by decide +kernel
theorem r14_1 : xRT 14 1 = some 16 := by decide +kernel
theorem r18_0 : xRT 18 0 = some 19 := by decide +kernel
theorem r18_2 : xRT 18 2 = some 20 := by decide +kernel
theorem r18_3 : xRT 18 3 = some 21 := by decide +kernel
theorem r18_4 : xRT 18 4 = some 22 := by decide +kernel
theorem r18_6 : xRT 18 6 = some 23 := by decide +kernel
theorem r24_0 : xRT 24 0 = some 25 := by decide +kernel
theorem r24_2 : xRT 24 2 = some 26 := by decide +kernel
theorem r24_3 : xRT 24 3 = some 27 := by decide +kernel
theorem r24_4 : xRT 24 4 = some 28 := by decide +kernel
theorem r24_6 : xRT 24 6 = some 29 := by decide +kernel
theorem r30_0 : xRT 30 0 = some 31 := by decide +kernel
theorem r30_2 : xRT 30 2 = some 32 := by decide +kernel
theorem r30_3 : xRT 30 3 = some 33 := by decide +kernel
theorem r30_4 : xRT 30 4 = some 34 := by decide +kernel
theorem r30_6 : xRT 30 6 = some 35 := by decide +kernel
theorem r36_0 : xRT 36 0 = some 37 := by decide +kernel
theorem r36_2 : xRT 36 2 = some 38 := by decide +kernel
theorem r36_3 : xRT 36 3 = some 39 := by decide +kernel
theorem r36_4 : xRT 36 4 = some 40 := by decide +kernel
theorem r36_6 : xRT 36 6 = some 41 := by decide +kernel
theorem r42_0 : xRT 42 0 = some 43 := by decide +kernel
theorem r42_2 : xRT 42 2 = some 44 := by decide +kernel
theorem r42_3 : xRT 42 3 = some 45 := by decide +kernel
theorem r42_4 : xRT 42 4 = some 46 := by decide +kernel
theorem r42_6 : xRT 42 6 = some 47 := by decide +kernel
theorem r48_0 : xRT 48 0 = some 49 := by decide +kernel
theorem r48_2 : xRT 48 2 = some 50 := by decide +kernel
theorem r48_3 : xRT 48 3 = some 51 := by decide +kernel
theorem r48_4 : xRT 48 4 = some 52 := by decide +kernel
theorem r48_6 : xRT 48 6 = some 53 := by decide +kernel
theorem r54_0 : xRT 54 0 = some 55 := by decide +kernel
theorem r54_2 : xRT 54 2 = some 56 := by decide +kernel
theorem r54_3 : xRT 54 3 = some 57 := by decide +kernel
theorem r54_4 : xRT 54 4 = some 58 := by decide +kernel
theorem r54_6 : xRT 54 6 = some 59 := by decide +kernel
theorem r60_0 : xRT 60 0 = some 61 := by decide +kernel
theorem r60_1 : xRT 60 1 = some 62 := by decide +kernel
theorem r60_2 : xRT 60 2 = some 63 := by decide +kernel
theorem r64_0 : xRT 64 0 = some 65 := by decide +kernel
theorem r64_1 : xRT 64 1 = some 66 := by decide +kernel
theorem r64_2 : xRT 64 2 = some 67 := by decide +kernel
theorem r68_0 : xRT 68 0 = some 69 := by decide +kernel
theorem r68_1 : xRT 68 1 = some 70 := by decide +kernel
theorem r68_2 : xRT 68 2 = some 71 := by decide +kernel
theorem r73_0 : xRT 73 0 = some 74 := by decide +kernel
theorem r73_1 : xRT 73 1 = some 130 := by decide +kernel
theorem r73_2 : xRT 73 2 = some 131 := by decide +kernel
theorem r73_4 : xRT 73 4 = some 132 := by decide +kernel
theorem r74_0 : xRT 74 0 = some 75 := by decide +kernel
theorem r74_1 : xRT 74 1 = some 76 := by decide +kernel
theorem r74_3 : xRT 74 3 = some 77 := by decide +kernel
theorem r74_4 : xRT 74 4 = some 78 := by decide +kernel
theorem r74_6 : xRT 74 6 = some 79 := by decide +kernel
theorem r74_8 : xRT 74 8 = some 80 := by decide +kernel
theorem r74_9 : xRT 74 9 = some 81 := by decide +kernel
theorem r75_0 : xRT 75 0 = some 106 := by decide +kernel
theorem r75_1 : xRT 75 1 = some 110 := by decide +kernel
theorem r75_2 : xRT 75 2 = some 114 := by decide +kernel
theorem r75_3 : xRT 75 3 = some 118 := by decide +kernel
theorem r75_4 : xRT 75 4 = some 122 := by decide +kernel
theorem r75_5 : xRT 75 5 = some 126 := by decide +kernel
theorem r81_0 : xRT 81 0 = some 82 := by decide +kernel
theorem r81_1 : xRT 81 1 = some 83 := by decide +kernel
theorem r81_2 : xRT 81 2 = some 84 := by decide +kernel
theorem r81_3 : xRT 81 3 = some 85 := by decide +kernel
theorem r81_4 : xRT 81 4 = some 86 := by decide +kernel
theorem r81_5 : xRT 81 5 = some 87 := by decide +kernel
theorem r81_6 : xRT 81 6 = some 88 := by decide +kernel
theorem r81_7 : xRT 81 7 = some 89 := by decide +kernel
theorem r81_8 : xRT 81 8 = some 90 := by decide +kernel
theorem r81_9 : xRT 81 9 = some 91 := by decide +kernel
theorem r81_10 : xRT 81 10 = some 92 := by decide +kernel
theorem r81_11 : xRT 81 11 = some 93 := by decide +kernel
theorem r81_12 : xRT 81 12 = some 94 := by decide +kernel
theorem r81_13 : xRT 81 13 = some 95 := by decide +kernel
theorem r81_14 : xRT 81 14 = some 96 := by decide +kernel
theorem r81_15 : xRT 81 15 = some 97 := by decide +kernel
theorem r81_16 : xRT 81 16 = some 98 := by decide +kernel
theorem r81_17 : xRT 81 17 = some 99 := by decide +kernel
theorem r81_18 : xRT 81 18 = some 100 := by decide +kernel
theorem r81_19 : xRT 81 19 = some 101 := by decide +kernel
theorem r81_20 : xRT 81 20 = some 102 := by decide +kernel
theorem r81_21 : xRT 81 21 = some 103 := by decide +kernel
theorem r81_22 : xRT 81 22 = some 104 := by decide +kernel
theorem r81_23 : xRT 81 23 = some 105 := by decide +kernel
theorem r106_0 : xRT 106 0 = some 107 := by decide +kernel
theorem r106_1 : xRT 106 1 = some 108 := by decide +kernel
theorem r106_2 : xRT 106 2 = some 109 := by decide +kernel
theorem r110_0 : xRT 110 0 = some 111 := by decide +kernel
theorem r110_1 : xRT 110 1 = some 112 := by decide +kernel
theorem r110_2 : xRT 110 2 = some 113 := by decide +kernel
theorem r114_0 : xRT 114 0 = some 115 := by decide +kernel
theorem r114_1 : xRT 114 1 = some 116 := by decide +kernel
theorem r114_2 : xRT 114 2 = some 117 := by decide +kernel
theorem r118_0 : xRT 118 0 = some 119 := by decide +kernel
theorem r118_1 : xRT 118 1 = some 120 := by decide +kernel
theorem r118_2 : xRT 118 2 = some 121 := by decide +kernel
theorem r122_0 : xRT 122 0 = some 123 := by decide +kernel
theorem r122_1 : xRT 122 1 = some 124 := by decide +kernel
theorem r122_2 : xRT 122 2 = some 125 := by decide +kernel
theorem r126_0 : xRT 126 0 = some 127 := by decide +kernel
theorem r126_1 : xRT 126 1 = some 128 := by decide +kernel
theorem r126_2 : xRT 126 2 = some 129 := by decide +kernel
theorem r133_0 : xRT 133 0 = some 134 := by decide +kernel
theorem r133_1 : xRT 133 1 = some 135 := by decide +kernel
theorem r133_2 : xRT 133 2 = some 136 := by decide +kernel
theorem r133_3 : xRT 133 3 = some 153 := by decide +kernel
theorem r133_4 : xRT 133 4 = some 171 := by decide +kernel
theorem r133_5 : xRT 133 5 = some 172 := by decide +kernel
theorem r133_6 : xRT 133 6 = some 179 := by decide +kernel
theorem r136_0 : xRT 136 0 = some 137 := by decide +kernel
theorem r136_1 : xRT 136 1 = some 138 := by decide +kernel
theorem r136_2 : xRT 136 2 = some 139 := by decide +kernel
theorem r136_3 : xRT 136 3 = some 140 := by decide +kernel
theorem r136_4 : xRT 136 4 = some 141 := by decide +kernel
theorem r136_5 : xRT 136 5 = some 142 := by decide +kernel
theorem r136_6 : xRT 136 6 = some 143 := by decide +kernel
theorem r136_7 : xRT 136 7 = some 144 := by decide +kernel
theorem r136_8 : xRT 136 8 = some 145 := by decide +kernel
theorem r136_9 : xRT 136 9 = some 146 := by decide +kernel
theorem r136_10 : xRT 136 10 = some 147 := by decide +kernel
theorem r136_11 : xRT 136 11 = some 148 := by decide +kernel
theorem r136_12 : xRT 136 12 = some 149 := by decide +kernel
theorem r136_13 : xRT 136 13 = some 150 := by decide +kernel
theorem r136_14 : xRT 136 14 = some 151 := by decide +kernel
theorem r136_15 : xRT 136 15 = some 152 := by decide +kernel
theorem r153_0 : xRT 153 0 = some 154 := by decide +kernel
theorem r153_1 : xRT 153 1 = some 155 := by decide +kernel
theorem r153_2 : xRT 153 2 = some 156 := by decide +kernel
theorem r153_3 : xRT 153 3 = some 157 := by decide +kernel
theorem r153_4 : xRT 153 4 = some 158 := by decide +kernel
theorem r153_5 : xRT 153 5 = some 159 := by decide +kernel
theorem r153_6 : xRT 153 6 = some 160 := by decide +kernel
theorem r153_7 : xRT 153 7 = some 161 := by decide +kernel
theorem r153_8 : xRT 153 8 = some 162 := by decide +kernel
theorem r153_9 : xRT 153 9 = some 163 := by decide +kernel
theorem r153_10 : xRT 153 10 = some 164 := by decide +kernel
theorem r153_11 : xRT 153 11 = some 165 := by decide +kernel
theorem r153_12 : xRT 153 12 = some 166 := by decide +kernel
theorem r153_13 : xRT 153 13 = some 167 := by decide +kernel
theorem r153_14 : xRT 153 14 = some 168 := by decide +kernel
theorem r153_15 : xRT 153 15 = some 169 := by decide +kernel
theorem r153_16 : xRT 153 16 = some 170 := by decide +kernel
theorem r172_0 : xRT 172 0 = some 173 := by decide +kernel
theorem r172_1 : xRT 172 1 = some 174 := by decide +kernel
theorem r172_2 : xRT 172 2 = some 175 := by decide +kernel
theorem r172_3 : xRT 172 3 = some 176 := by decide +kernel
theorem r172_4 : xRT 172 4 = some 177 := by decide +kernel
theorem r172_5 : xRT 172 5 = some 178 := by decide +kernel
theorem r179_0 : xRT 179 0 = some 180 := by decide +kernel
theorem r179_1 : xRT 179 1 = some 181 := by decide +kernel
theorem r179_2 : xRT 179 2 = some 182 := by decide +kernel
theorem r179_3 : xRT 179 3 = some 183 := by decide +kernel
theorem r179_4 : xRT 179 4 = some 184 := by decide +kernel
theorem r179_5 : xRT 179 5 = some 185 := by decide +kernel
theorem r187_1 : xRT 187 1 = some 188 := by decide +kernel
theorem r187_21 : xRT 187 21 = some 189 := by decide +kernel
theorem r187_22 : xRT 187 22 = some 190 := by decide +kernel
theorem r187_23 : xRT 187 23 = some 191 := by decide +kernel
theorem r187_24 : xRT 187 24 = some 192 := by decide +kernel
theorem r187_25 : xRT 187 25 = some 193 := by decide +kernel
theorem r187_26 : xRT 187 26 = some 194 := by decide +kernel
theorem r187_27 : xRT 187 27 = some 195 := by decide +kernel
theorem r187_28 : xRT 187 28 = some 196 := by decide +kernel
theorem r187_29 : xRT 187 29 = some 197 := by decide +kernel
theorem r187_32 : xRT 187 32 = some 198 := by decide +kernel
theorem r187_33 : xRT 187 33 = some 199 := by decide +kernel
theorem r187_34 : xRT 187 34 = some 200 := by decide +kernel
theorem r187_35 : xRT 187 35 = some 201 := by decide +kernel
theorem r187_36 : xRT 187 36 = some 202 := by decide +kernel
theorem r187_37 : xRT 187 37 = some 203 := by decide +kernel
theorem r187_38 : xRT 187 38 = some 204 := by decide +kernel
theorem r187_41 : xRT 187 41 = some 205 := by decide +kernel
theorem r187_42 : xRT 187 42 = some 206 := by decide +kernel
theorem r187_44 : xRT 187 44 = some 207 := by decide +kernel
theorem r187_45 : xRT 187 45 = some 208 := by decide +kernel
theorem r187_46 : xRT 187 46 = some 209 := by decide +kernel
theorem r187_47 : xRT 187 47 = some 210 := by decide +kernel
theorem r187_48 : xRT 187 48 = some 211 := by decide +kernel
theorem r187_51 : xRT 187 51 = some 212 := by decide +kernel
theorem r187_52 : xRT 187 52 = some 213 := by decide +kernel
theorem r187_53 : xRT 187 53 = some 214 := by decide +kernel
theorem r187_54 : xRT 187 54 = some 215 := by decide +kernel
theorem r187_55 : xRT 187 55 = some 216 := by decide +kernel
theorem r187_56 : xRT 187 56 = some 217 := by decide +kernel
theorem r187_57 : xRT 187 57 = some 218 := by decide +kernel
theorem r187_71 : xRT 187 71 = some 219 := by decide +kernel
theorem r187_73 : xRT 187 73 = some 220 := by decide +kernel
theorem r187_74 : xRT 187 74 = some 221 := by decide +kernel
theorem r187_75 : xRT 187 75 = some 222 := by decide +kernel
theorem r187_76 : xRT 187 76 = some 223 := by decide +kernel
theorem r187_77 : xRT 187 77 = some 224 := by decide +kernel
theorem r187_78 : xRT 187 78 = some 225 := by decide +kernel
theorem r187_79 : xRT 187 79 = some 226 := by decide +kernel
theorem r187_80 : xRT 187 80 = some 227 := by decide +kernel
theorem r187_81 : xRT 187 81 = some 228 := by decide +kernel
theorem r187_82 : xRT 187 82 = some 229 := by decide +kernel
/-- a memory of that layout -/
def XC (S : xS) : Prop := S.1 = xSH ∧ ∀ a k b, xRT a k = some b → S.2.2.1 a k = some b
theorem xsh {S : xS} {a : Nat} {q : Nat × Nat} (h : XC S) (hq : xSH[a]? = some q) : S.1[a]? = some q := by rw [h.1]; exact hq
theorem xrr {S : xS} {a k b : Nat} (h : XC S) (hq : xRT a k = some b) : S.2.2.1 a k = some b := h.2 a k b hq
theorem XC.SI {S : xS} (h : XC S) (a k : Nat) (v : Int32) : XC (xSI S a k v) := h
theorem XC.SL {S : xS} (h : XC S) (a k : Nat) (v : Int64) : XC (xSL S a k v) := h
/-- only ints of the places P may differ -/
def xFr (P : Nat → Nat → Prop) (S S' : xS) : Prop := S'.1 = S.1 ∧ S'.2.2 = S.2.2 ∧ ∀ a k, ¬ P a k → S'.2.1 a k = S.2.1 a k
theorem xFr.rf {P : Nat → Nat → Prop} (S : xS) : xFr P S S := ⟨rfl, rfl, fun _ _ _ => rfl⟩
theorem xFr.tr {P Q : Nat → Nat → Prop} {S S1 S2 : xS} (h : xFr P S S1) (h1 : xFr Q S1 S2) : xFr (fun a k => P a k ∨ Q a k) S S2 :=
  ⟨h1.1.trans h.1, h1.2.1.trans h.2.1, fun a k hn => (h1.2.2 a k (fun q => hn (Or.inr q))).trans (h.2.2 a k (fun q => hn (Or.inl q)))⟩
theorem xFr.mono {P Q : Nat → Nat → Prop} {S S1 : xS} (h : xFr P S S1) (hq : ∀ a k, P a k → Q a k) : xFr Q S S1 := ⟨h.1, h.2.1, fun a k hn => h.2.2 a k (fun q => hn (hq a k q))⟩
theorem xFr.XC {P : Nat → Nat → Prop} {S S' : xS} (h : xFr P S S') (hX : XC S) : XC S' := ⟨h.1.trans hX.1, fun a k b hb => by rw [h.2.1]; exact hX.2 a k b hb⟩
theorem xFr.SI {P : Nat → Nat → Prop} {S S1 : xS} (h : xFr P S S1) {a k : Nat} {v : Int32} (hp : P a k) : xFr P S (xSI S1 a k v) :=
  ⟨h.1, h.2.1, fun b j hn => by
    show xu2 S1.2.1 a k v b j = _
    unfold xu2 va_up
    by_cases hb : b = a
    · rw [if_pos hb]
      by_cases hj : j = k
      · exact absurd hp (by rw [hb, hj] at hn; exact hn)
      · rw [if_neg hj, ← hb]; exact h.2.2 b j hn
    · rw [if_neg hb]; exact h.2.2 b j hn⟩
theorem xI_same (S : xS) (a k : Nat) (v : Int32) : (xSI S a k v).2.1 a k = v := by
  show xu2 S.2.1 a k v a k = v
  unfold xu2 va_up; rw [if_pos rfl, if_pos rfl]
theorem xI_ne (S : xS) {a k b j : Nat} (v : Int32) (h : b ≠ a ∨ j ≠ k) : (xSI S a k v).2.1 b j = S.2.1 b j := by
  show xu2 S.2.1 a k v b j = _
  unfold xu2 va_up
  by_cases hb : b = a
  · rw [if_pos hb]
    rcases h with h | h
    · exact absurd hb h
    · rw [if_neg h, hb]
  · rw [if_neg hb]
abbrev j_X0_init : Nat := 0
abbrev j_X0_likeLines : Nat := 1
abbrev j_X0_isLikeLine : Nat := 2
abbrev j_X0_between : Nat := 3
abbrev j_X0_weighLines : Nat := 4
abbrev j_X0_itemChanges : Nat := 5
abbrev j_X0_sumForward : Nat := 6
abbrev j_X0_weighParts : Nat := 7
abbrev j_X0_takeLeast : Nat := 8
abbrev j_X0_sumBackward : Nat := 9
abbrev j_X0_bestCut : Nat := 10
abbrev j_X0_mixtureCost : Nat := 11
abbrev j_X1_init : Nat := 12
abbrev j_X1_learn : Nat := 13
abbrev j_X1_learnLine : Nat := 14
abbrev j_X1_putGap : Nat := 15
abbrev j_X1_gapAt : Nat := 16
abbrev j_X2_init : Nat := 17
abbrev j_X2_leftBy : Nat := 18
abbrev j_X2_setOut : Nat := 19
abbrev j_X2_worthOf : Nat := 20
abbrev j_X2_endWorth : Nat := 21
abbrev j_X2_meets : Nat := 22
abbrev j_X2_key : Nat := 23
abbrev j_X2_isKey : Nat := 24
abbrev j_X2_worthAfter : Nat := 25
abbrev j_X2_isSettled : Nat := 26
abbrev j_X2_sees : Nat := 27
abbrev j_X2_better : Nat := 28
abbrev j_X2_firstAnswer : Nat := 29
abbrev j_X2_isSure : Nat := 30
abbrev j_X2_reckonShares : Nat := 31
abbrev j_X2_wholeShare : Nat := 32
abbrev j_X2_add : Nat := 33
abbrev j_X2_pass : Nat := 34
abbrev j_X2_giveTo : Nat := 35
abbrev j_X2_hitsBefore : Nat := 36
abbrev j_X2_areSharesEven : Nat := 37
abbrev j_X2_shareOf : Nat := 38
abbrev j_X2_follow : Nat := 39
abbrev j_X2_followFrom : Nat := 40
abbrev j_X3_init : Nat := 41
abbrev j_X3_measure : Nat := 42
abbrev j_X3_start : Nat := 43
abbrev j_X3_size : Nat := 44
abbrev j_X3_read : Nat := 45
abbrev j_X3_take : Nat := 46
abbrev j_X3_takeFirst : Nat := 47
abbrev j_X3_beginItem : Nat := 48
abbrev j_X3_takeItem : Nat := 49
abbrev j_X3_kindFrom : Nat := 50
abbrev j_X3_takeInWord : Nat := 51
abbrev j_X3_spellItem : Nat := 52
abbrev j_X3_takeBehind : Nat := 53
abbrev j_X3_endLine : Nat := 54
abbrev j_X3_refuse : Nat := 55
abbrev j_X3_total : Nat := 56
abbrev j_X3_firstItem : Nat := 57
abbrev j_X3_countOf : Nat := 58
abbrev j_X3_timesOf : Nat := 59
abbrev j_X3_kindOf : Nat := 60
abbrev j_X3_byteAt : Nat := 61
abbrev j_X3_hasLine : Nat := 62
abbrev j_X3_feetInto : Nat := 63
abbrev j_X3_hasAsk : Nat := 64
abbrev j_X3_hasNameOrAsk : Nat := 65
abbrev j_X3_itemsIn : Nat := 66
abbrev j_X3_isSameItem : Nat := 67
abbrev j_X4_init : Nat := 68
abbrev j_X4_gather : Nat := 69
abbrev j_X4_learn : Nat := 70
abbrev j_X4_chantOf : Nat := 71
abbrev j_X4_allHands : Nat := 72
abbrev j_X4_isOver : Nat := 73
abbrev j_X4_owners : Nat := 74
abbrev j_X4_reckon : Nat := 75
abbrev j_X4_lineUp : Nat := 76
abbrev j_X4_isIn : Nat := 77
abbrev j_X4_beside : Nat := 78
abbrev j_X4_sayAll : Nat := 79
abbrev j_X4_sayLine : Nat := 80
abbrev j_X4_handAt : Nat := 81
abbrev j_X4_ownerOf : Nat := 82
abbrev j_X4_beatsOfName : Nat := 83
abbrev j_X4_askerOf : Nat := 84
abbrev j_X4_handHit : Nat := 85
abbrev j_X4_nextBegin : Nat := 86
abbrev j_X4_nextIn : Nat := 87
abbrev j_X4_isTooGreat : Nat := 88
abbrev j_X4_rest : Nat := 89
abbrev j_X4_useOnly : Nat := 90
abbrev j_X6_init : Nat := 91
abbrev j_X6_put : Nat := 92
abbrev j_X6_take : Nat := 93
abbrev j_X6_isWord : Nat := 94
abbrev j_X6_isBelow : Nat := 95
abbrev j_X6_byteOr : Nat := 96
abbrev j_X7_init : Nat := 97
abbrev j_X7_open : Nat := 98
abbrev j_X7_step : Nat := 99
abbrev j_X7_kindOfRun : Nat := 100
abbrev j_X7_passRule : Nat := 101
abbrev j_X7_pick : Nat := 102
abbrev j_X7_spells : Nat := 103
abbrev j_X7_size : Nat := 104
abbrev j_X7_refuseHere : Nat := 105
abbrev j_X7_refuse : Nat := 106
abbrev j_X7_digit : Nat := 107
abbrev j_X7_passStop : Nat := 108
abbrev j_X8_init : Nat := 109
abbrev j_X8_reset : Nat := 110
abbrev j_X8_readRule : Nat := 111
abbrev j_X8_readVowels : Nat := 112
abbrev j_X8_readParts : Nat := 113
abbrev j_X8_packed : Nat := 114
abbrev j_X8_readStrong : Nat := 115
abbrev j_X8_beatsIn : Nat := 116
abbrev j_X8_vowelBeats : Nat := 117
abbrev j_X8_isAmong : Nat := 118
abbrev j_X8_mutedLetters : Nat := 119
abbrev j_X8_strongOf : Nat := 120
abbrev j_X9_init : Nat := 121
abbrev j_X9_measure : Nat := 122
abbrev j_X9_lettersOf : Nat := 123
abbrev j_X9_read : Nat := 124
abbrev j_X9_beatsOf : Nat := 125
abbrev j_X10_init : Nat := 126
abbrev j_X10_setUsual : Nat := 127
abbrev j_X10_reset : Nat := 128
abbrev j_X10_readRule : Nat := 129
abbrev j_X10_readLeft : Nat := 130
abbrev j_X10_readRhymes : Nat := 131
abbrev j_X10_choicesOf : Nat := 132
abbrev j_X10_rhymeAt : Nat := 133
abbrev j_X10_hasFists : Nat := 134
abbrev j_X10_leftMost : Nat := 135
abbrev j_X10_nextFrom : Nat := 136
abbrev j_X10_countsBeats : Nat := 137
abbrev j_X10_hitStays : Nat := 138
abbrev j_X10_turnsAlways : Nat := 139
abbrev j_X10_wantsLeft : Nat := 140
abbrev j_X11_init : Nat := 141
abbrev j_X11_feed : Nat := 142
abbrev j_X11_end : Nat := 143
abbrev j_X11_tongue : Nat := 144
abbrev j_X11_isSmall : Nat := 145
abbrev j_X11_isDigit : Nat := 146
abbrev j_X11_isSlot : Nat := 147
abbrev j_X11_measureAll : Nat := 148
abbrev j_X11_rhymeIn : Nat := 149
abbrev j_X11_yard : Nat := 150
abbrev j_X11_rhyme : Nat := 151
abbrev j_X11_fault : Nat := 152
abbrev j_X11_people : Nat := 153
abbrev j_X11_answers : Nat := 154
abbrev j_X11_forget : Nat := 155
abbrev j_X11_born : Nat := 156
abbrev j_X11_beats : Nat := 157
abbrev j_X11_strong : Nat := 158
abbrev j_X11_counted : Nat := 159
abbrev j_X11_feet : Nat := 160
abbrev j_X11_alike : Nat := 161
abbrev j_X11_play : Nat := 162
abbrev j_X11_areRhymesThere : Nat := 163
abbrev j_X11_learnRhymes : Nat := 164
abbrev j_X11_walk : Nat := 165
abbrev j_X11_hit : Nat := 166
abbrev j_X11_last : Nat := 167
abbrev j_X11_survivor : Nat := 168
abbrev j_X11_game : Nat := 169
abbrev j_X11_isGameReady : Nat := 170
abbrev j_X11_areFolk : Nat := 171
abbrev j_X11_says : Nat := 172
abbrev j_X11_sure : Nat := 173
abbrev j_X11_isPerson : Nat := 174
abbrev j_X11_mend : Nat := 175
abbrev j_X11_changes : Nat := 176
abbrev j_X11_parent : Nat := 177
abbrev j_X11_elderIn : Nat := 178
abbrev j_X11_mixed : Nat := 179
abbrev j_X11_mixture : Nat := 180
abbrev j_X11_holds : Nat := 181
abbrev j_X11_isRecord : Nat := 182
abbrev j_X11_explain : Nat := 183
abbrev j_X11_told : Nat := 184
abbrev j_X11_rhymeCount : Nat := 185
abbrev j_X11_octet : Nat := 186
abbrev j_X11_share : Nat := 187
abbrev j_X11_commonDivisor : Nat := 188
abbrev j_X12_thrown : Nat := 189
abbrev j_X12_feed : Nat := 190
abbrev j_X12_four : Nat := 191
abbrev j_X12_end : Nat := 192
abbrev j_X12_fault : Nat := 193
abbrev j_X12_tongue : Nat := 194
abbrev j_X12_taken : Nat := 195
abbrev j_X12_next : Nat := 196
abbrev j_X12_peek : Nat := 197
abbrev j_X12_isSmall : Nat := 198
abbrev j_X12_isDigit : Nat := 199
abbrev j_X12_tongueRule : Nat := 200
abbrev j_X12_isWord : Nat := 201
abbrev j_X12_once : Nat := 202
abbrev j_X12_wrong : Nat := 203
abbrev j_X12_cant : Nat := 204
abbrev j_X12_semi : Nat := 205
abbrev j_X12_words : Nat := 206
abbrev j_X12_beats : Nat := 207
abbrev j_X12_takeWord : Nat := 208
abbrev j_X12_beatsOf : Nat := 209
abbrev j_X12_isVowel : Nat := 210
abbrev j_X12_isPair : Nat := 211
abbrev j_X12_muteEnd : Nat := 212
abbrev j_X12_strong : Nat := 213
abbrev j_X12_strongOf : Nat := 214
abbrev j_X12_people : Nat := 215
abbrev j_X12_wordsOf : Nat := 216
abbrev j_X12_takeWords : Nat := 217
abbrev j_X12_answers : Nat := 218
abbrev j_X12_rhyme : Nat := 219
abbrev j_X12_line : Nat := 220
abbrev j_X12_isBeyond : Nat := 221
abbrev j_X12_bad : Nat := 222
abbrev j_X12_item : Nat := 223
abbrev j_X12_forget : Nat := 224
abbrev j_X12_has : Nat := 225
abbrev j_X12_born : Nat := 226
abbrev j_X12_counted : Nat := 227
abbrev j_X12_countedOf : Nat := 228
abbrev j_X12_counts : Nat := 229
abbrev j_X12_feet : Nat := 230
abbrev j_X12_feetOf : Nat := 231
abbrev j_X12_octet : Nat := 232
abbrev j_X12_throwsIf : Nat := 233
abbrev j_X12_alike : Nat := 234
abbrev j_X12_yard : Nat := 235
abbrev j_X12_yardRule : Nat := 236
abbrev j_X12_choice : Nat := 237
abbrev j_X12_init : Nat := 238
abbrev j_X12_play : Nat := 239
abbrev j_X12_prepareYard : Nat := 240
abbrev j_X12_use : Nat := 241
abbrev j_X12_prepare : Nat := 242
abbrev j_X12_weigh : Nat := 243
abbrev j_X12_isOverAtFirst : Nat := 244
abbrev j_X12_walk : Nat := 245
abbrev j_X12_say : Nat := 246
abbrev j_X12_personOf : Nat := 247
abbrev j_X12_finish : Nat := 248
abbrev j_X12_peopleIn : Nat := 249
abbrev j_X12_many : Nat := 250
abbrev j_X12_behind : Nat := 251
abbrev j_X12_hit : Nat := 252
abbrev j_X12_last : Nat := 253
abbrev j_X12_game : Nat := 254
abbrev j_X12_mayPlay : Nat := 255
abbrev j_X12_solve : Nat := 256
abbrev j_X12_mark : Nat := 257
abbrev j_X12_begin : Nat := 258
abbrev j_X12_stateOf : Nat := 259
abbrev j_X12_markFrom : Nat := 260
abbrev j_X12_walkState : Nat := 261
abbrev j_X12_maskOf : Nat := 262
abbrev j_X12_startOf : Nat := 263
abbrev j_X12_wayOf : Nat := 264
abbrev j_X12_finishState : Nat := 265
abbrev j_X12_answerIn : Nat := 266
abbrev j_X12_leftBy : Nat := 267
abbrev j_X12_isMet : Nat := 268
abbrev j_X12_says : Nat := 269
abbrev j_X12_sure : Nat := 270
abbrev j_X12_share : Nat := 271
abbrev j_X12_waysOf : Nat := 272
abbrev j_X12_power : Nat := 273
abbrev j_X12_common : Nat := 274
abbrev j_X12_mend : Nat := 275
abbrev j_X12_isEven : Nat := 276
abbrev j_X12_changes : Nat := 277
abbrev j_X12_changesOf : Nat := 278
abbrev j_X12_lead : Nat := 279
abbrev j_X12_lineTo : Nat := 280
abbrev j_X12_itemsOf : Nat := 281
abbrev j_X12_isSame : Nat := 282
abbrev j_X12_least : Nat := 283
abbrev j_X12_parent : Nat := 284
abbrev j_X12_mixed : Nat := 285
abbrev j_X12_leastOf : Nat := 286
abbrev j_X12_holds : Nat := 287
abbrev j_X12_isRecord : Nat := 288
abbrev j_X12_holdsTo : Nat := 289
abbrev j_X12_explain : Nat := 290
abbrev j_X12_told : Nat := 291
abbrev j_X5_init : Nat := 292
abbrev j_X5_read : Nat := 293
abbrev j_J6_bitCount_0f7a4 : Nat := 294
abbrev j_J7_fill_53178 : Nat := 295
