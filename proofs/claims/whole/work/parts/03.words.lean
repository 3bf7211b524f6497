/-! THE TABLES' WORDS, by their places -/
def xAL : List Cond := lw_tbl.filter goodWord
def xNest (w : Cond) : Bool := match w with
  | .fieldLinkNest _ _ _ _ _ _ => true
  | .methodLinkNest _ _ _ _ => true
  | .declares _ => true
  | _ => false
def xNW : List Cond := lw_tbl.filter xNest
def xtb (k : Nat) : List Cond := match k with
  | 0 => k2_sels lw_privs
  | 1 => tables_1_1
  | 2 => tables_1_2
  | 3 => tables_1_3
  | 4 => tables_1_4
  | 5 => tables_1_5
  | 6 => tables_1_6
  | 7 => tables_1_7
  | 8 => tables_1_8
  | 9 => tables_1_9
  | _ => []
theorem xtb_in (k : Nat) : ∀ w ∈ xtb k, w ∈ lw_tbl := by
  intro w hw
  have h1 : ∀ w ∈ tables_1, w ∈ lw_tbl := fun w h => List.mem_append_right _ h
  unfold xtb at hw
  split at hw
  · exact List.mem_append_left _ hw
  · exact h1 w (List.mem_append_left _ hw)
  · exact h1 w (List.mem_append_right _ (List.mem_append_left _ hw))
  · exact h1 w (List.mem_append_right _ (List.mem_append_right _ (List.mem_append_left _ hw)))
  · exact h1 w (List.mem_append_right _ (List.mem_append_right _ (List.mem_append_right _ (List.mem_append_left _ hw))))
  · exact h1 w (List.mem_append_right _ (List.mem_append_right _ (List.mem_append_right _ (List.mem_append_right _ (List.mem_append_left _ hw)))))
  · exact h1 w (List.mem_append_right _ (List.mem_append_right _ (List.mem_append_right _ (List.mem_append_right _ (List.mem_append_right _ (List.mem_append_left _ hw))))))
  · exact h1 w (List.mem_append_right _ (List.mem_append_right _ (List.mem_append_right _ (List.mem_append_right _ (List.mem_append_right _ (List.mem_append_right _ (List.mem_append_left _ hw)))))))
  · exact h1 w (List.mem_append_right _ (List.mem_append_right _ (List.mem_append_right _ (List.mem_append_right _ (List.mem_append_right _ (List.mem_append_right _ (List.mem_append_right _ (List.mem_append_left _ hw))))))))
  · exact h1 w (List.mem_append_right _ (List.mem_append_right _ (List.mem_append_right _ (List.mem_append_right _ (List.mem_append_right _ (List.mem_append_right _ (List.mem_append_right _ (List.mem_append_right _ hw))))))))
  · cases hw
def xat (p : Nat) : Option Cond := (xtb (p / 1000))[p % 1000]?
theorem xat_in {p : Nat} {w : Cond} (h : xat p = some w) : w ∈ lw_tbl := xtb_in _ w (List.mem_of_getElem? h)

def xMP : List (Nat × Nat × Nat × Nat) := [(2112, 2111, 1013, 99999), (4109, 4108, 1013, 48), (4114, 4113, 1013, 49), (5202, 5201, 1013, 112), (5206, 5205, 1013, 113), (5210, 5209, 1013, 114), (5223, 5222, 1013, 117), (6000, 5239, 1013, 119), (6005, 6004, 1013, 120), (6009, 6008, 1013, 121), (6017, 6016, 1013, 123), (6021, 6020, 1013, 124), (1236, 1235, 1012, 99999), (4184, 4183, 1012, 64), (4190, 4189, 1012, 65), (4196, 4195, 1012, 66), (5001, 5000, 1012, 76), (1221, 1220, 1010, 99999), (5086, 5085, 1010, 91), (5090, 5089, 1010, 92), (5095, 5094, 1010, 93), (5101, 5100, 1010, 94), (5105, 5104, 1010, 95), (5108, 5107, 1010, 99999), (5111, 5110, 1010, 99999), (5116, 5115, 1010, 96), (5123, 5122, 1010, 97), (5128, 5127, 1010, 98), (5132, 5131, 1010, 99), (5140, 5139, 1010, 100), (5152, 5151, 1010, 102), (5164, 5163, 1010, 104), (5169, 5168, 1010, 105), (5173, 5172, 1010, 106), (5177, 5176, 1010, 107), (5181, 5180, 1010, 108), (5185, 5184, 1010, 109), (5190, 5189, 1010, 110), (5194, 5193, 1010, 111), (6034, 6033, 1010, 126), (6038, 6037, 1010, 127), (1142, 1141, 1008, 99999), (3190, 3189, 1008, 24), (3194, 3193, 1008, 25), (3198, 3197, 1008, 26), (3216, 3215, 1008, 27), (3221, 3220, 1008, 28), (3225, 3224, 1008, 29), (3229, 3228, 1008, 30), (3233, 3232, 1008, 31), (3236, 3235, 1008, 99999), (4001, 4000, 1008, 32), (4005, 4004, 1008, 33), (4009, 4008, 1008, 34), (4013, 4012, 1008, 35), (4017, 4016, 1008, 36), (4068, 4067, 1008, 40), (4072, 4071, 1008, 41), (4076, 4075, 1008, 42), (4080, 4079, 1008, 43), (4084, 4083, 1008, 44), (4088, 4087, 1008, 45), (4096, 4095, 1008, 46), (4100, 4099, 1008, 47), (4201, 4200, 1008, 67), (5052, 5051, 1008, 86), (5215, 5214, 1008, 115), (5219, 5218, 1008, 116), (1227, 1226, 1011, 99999), (4136, 4135, 1011, 53), (4175, 4174, 1011, 62), (4179, 4178, 1011, 63), (4209, 4208, 1011, 69), (4213, 4212, 1011, 70), (4217, 4216, 1011, 71), (4222, 4221, 1011, 72), (4226, 4225, 1011, 73), (4229, 4228, 1011, 99999), (4233, 4232, 1011, 74), (4237, 4236, 1011, 75), (5005, 5004, 1011, 77), (5009, 5008, 1011, 78), (5013, 5012, 1011, 79), (5017, 5016, 1011, 80), (5021, 5020, 1011, 81), (5029, 5028, 1011, 83), (5034, 5033, 1011, 84), (5038, 5037, 1011, 85), (5074, 5073, 1011, 88), (5160, 5159, 1011, 103), (6047, 6046, 1011, 128), (1037, 1036, 1002, 99999), (2202, 2201, 1002, 1), (2214, 2213, 1002, 2), (4050, 4049, 1002, 38), (4124, 4123, 1002, 50), (5025, 5024, 1002, 82), (1053, 1052, 1003, 99999), (2218, 2217, 1003, 3), (2225, 2224, 1003, 4), (2234, 2233, 1003, 99999), (3014, 3013, 1003, 5), (3018, 3017, 1003, 6), (3070, 3069, 1003, 7), (3074, 3073, 1003, 8), (3078, 3077, 1003, 9), (3082, 3081, 1003, 10), (3120, 3119, 1003, 14), (3143, 3142, 1003, 16), (1086, 1085, 1005, 99999), (3007, 3006, 1005, 99999), (3088, 3087, 1005, 99999), (3092, 3091, 1005, 11), (3097, 3096, 1005, 99999), (3102, 3101, 1005, 99999), (3106, 3105, 1005, 12), (3159, 3158, 1005, 20), (3163, 3162, 1005, 21), (3167, 3166, 1005, 99999), (3171, 3170, 1005, 22), (4060, 4059, 1005, 39), (1200, 1199, 1009, 99999), (3151, 3150, 1009, 18), (3155, 3154, 1009, 19), (4029, 4028, 1009, 37), (4141, 4140, 1009, 54), (1116, 1115, 1006, 99999), (1121, 1120, 1006, 0), (3010, 3009, 1006, 99999), (3111, 3110, 1006, 99999), (3115, 3114, 1006, 13), (3126, 3125, 1006, 15), (3132, 3131, 1006, 99999), (4132, 4131, 1006, 52), (4147, 4146, 1006, 55), (4151, 4150, 1006, 56), (4155, 4154, 1006, 57), (4159, 4158, 1006, 58), (4163, 4162, 1006, 59), (4167, 4166, 1006, 60), (5082, 5081, 1006, 90), (1029, 1028, 1001, 99999), (2198, 2196, 1001, 2197), (2206, 2204, 1001, 2205), (2210, 2208, 1001, 2209), (2228, 2227, 1001, 99999), (2231, 2230, 1001, 99999), (3129, 3128, 1001, 99999), (3147, 3146, 1001, 17), (3185, 3184, 1001, 23), (3204, 3202, 1001, 3203), (3212, 3210, 1001, 3211), (4021, 4019, 1001, 4020), (4025, 4023, 1001, 4024), (4034, 4032, 1001, 4033), (4038, 4036, 1001, 4037), (4042, 4040, 1001, 4041), (4046, 4044, 1001, 4045), (4056, 4054, 1001, 4055), (4064, 4062, 1001, 4063), (4092, 4090, 1001, 4091), (4105, 4103, 1001, 4104), (4120, 4118, 1001, 4119), (4128, 4127, 1001, 51), (4171, 4170, 1001, 61), (4205, 4204, 1001, 68), (5043, 5041, 1001, 5042), (5047, 5045, 1001, 5046), (5058, 5057, 1001, 99999), (5066, 5064, 1001, 5065), (5070, 5069, 1001, 87), (5078, 5077, 1001, 89), (5136, 5134, 1001, 5135), (5144, 5142, 1001, 5143), (5148, 5147, 1001, 101), (5156, 5154, 1001, 5155), (5198, 5196, 1001, 5197), (5228, 5226, 1001, 5227), (5232, 5231, 1001, 118), (5236, 5234, 1001, 5235), (6013, 6012, 1001, 122), (6026, 6024, 1001, 6025), (6030, 6029, 1001, 125), (6043, 6041, 1001, 6042), (6051, 6049, 1001, 6050), (6055, 6054, 1001, 129), (6063, 6061, 1001, 6062), (6131, 6129, 1001, 6130), (6136, 6135, 1001, 99999), (6140, 6138, 1014, 6139), (6144, 6142, 1014, 6143), (6149, 6147, 1014, 131), (6153, 6151, 1014, 6152), (6157, 6155, 1014, 6156), (6161, 6159, 1014, 6160), (6165, 6164, 1014, 132), (6170, 6169, 1014, 133), (6174, 6173, 1014, 134), (6177, 6176, 1014, 99999), (6180, 6179, 1014, 99999), (6184, 6183, 1014, 135), (6189, 6188, 1014, 136), (6193, 6192, 1014, 137), (6197, 6196, 1014, 138), (6201, 6200, 1014, 139), (6205, 6204, 1014, 140), (6210, 6209, 1014, 141), (6219, 6217, 1014, 6218), (6223, 6222, 1014, 142), (6227, 6226, 1014, 143), (6231, 6230, 1014, 144), (6235, 6234, 1014, 145), (6239, 6238, 1014, 146), (7003, 7001, 1014, 7002), (7007, 7006, 1014, 147), (7011, 7009, 1014, 7010), (7015, 7014, 1014, 148), (7019, 7018, 1014, 149), (7023, 7021, 1014, 7022), (7027, 7025, 1014, 7026), (7031, 7030, 1014, 150), (7035, 7034, 1014, 151), (7039, 7038, 1014, 152), (7043, 7042, 1014, 153), (7047, 7045, 1014, 7046), (7051, 7050, 1014, 154), (7055, 7053, 1014, 7054), (7059, 7057, 1014, 7058), (7063, 7062, 1014, 155), (7067, 7066, 1014, 156), (7071, 7069, 1014, 7070), (7075, 7074, 1014, 157), (7079, 7077, 1014, 7078), (7083, 7082, 1014, 158), (7087, 7085, 1014, 7086), (7091, 7089, 1014, 7090), (7095, 7094, 1014, 159), (7102, 7101, 1014, 160), (7123, 7122, 1014, 99999), (8139, 8137, 1014, 8138), (8143, 8142, 1014, 161), (8147, 8146, 1014, 162), (8151, 8150, 1014, 163), (8155, 8154, 1014, 164), (8159, 8158, 1014, 165), (8163, 8162, 1014, 166), (8167, 8166, 1014, 167), (8171, 8170, 1014, 168), (8175, 8174, 1014, 169), (8179, 8178, 1014, 170), (8182, 8181, 1014, 99999), (8186, 8185, 1014, 171), (8190, 8188, 1014, 8189), (8194, 8192, 1014, 8193), (8200, 8198, 1014, 8199), (8204, 8203, 1014, 172), (8208, 8207, 1014, 173), (8212, 8211, 1014, 174), (8216, 8215, 1014, 175), (8219, 8218, 1014, 99999), (8223, 8222, 1014, 176), (8227, 8226, 1014, 177), (8230, 8229, 1014, 99999), (8233, 8232, 1014, 99999), (8236, 8235, 1014, 99999), (9000, 8239, 1014, 178), (9004, 9003, 1014, 179), (9008, 9007, 1014, 180), (9012, 9011, 1014, 181), (9016, 9014, 1014, 9015), (9020, 9018, 1014, 9019), (9024, 9022, 1014, 9023), (9028, 9027, 1014, 182), (9031, 9030, 1014, 99999), (9034, 9033, 1014, 99999), (9038, 9036, 1014, 9037), (9042, 9041, 1014, 183), (9046, 9044, 1014, 9045), (9050, 9049, 1014, 184), (9054, 9053, 1014, 185), (9058, 9057, 1014, 186), (9062, 9061, 1014, 187), (9066, 9065, 1014, 188), (9069, 9068, 1014, 99999), (9074, 9072, 1014, 9073), (9078, 9076, 1014, 9077), (9082, 9081, 1014, 189), (9086, 9084, 1014, 9085), (9090, 9089, 1014, 190), (9094, 9093, 1014, 191), (9098, 9096, 1014, 9097), (9102, 9100, 1014, 9101), (1089, 1088, 1004, 99999), (3001, 3000, 1004, 99999), (3175, 3174, 1020, 99999), (1124, 1123, 1007, 99999)]
def xchkM (j : Nat) (p : Nat × Nat × Nat × Nat) : Bool := match xMI j with
  | (o, n, ml, y, code, ret, ini, stt) => (if stt then decide (xat p.2.1 = some (.static y)) else decide (xat p.2.1 = some (.instanceMethod y))) && decide (xat p.2.2.1 = some (.initialized y.cls)) && (stt || ini || p.2.2.2 == 99999 || decide (xat p.2.2.2 = some (.selects y.cls y y))) && decide (y.cls = xNm o) && decide (y.cls ≠ "java/lang/invoke/MethodHandle") && decide (y.cls ≠ "java/lang/invoke/VarHandle") && decide ((parseMethodDescriptor y.desc).map (fun d => d.parameters.length) = some (if stt then n else n - 1)) && decide (ml ≤ 40) && (!ini || decide (y.name = "<init>")) && (!ini || decide (ret = none)) && plainName y.cls && decide (stt = true ∨ 1 ≤ n)

def xcw (j : Nat) : Cond := match xMI j with
  | (_, _, ml, y, code, ret, _, _) => .code y code ml ret
set_option maxRecDepth 100000 in
theorem wc_0 : xat 2112 = some (xcw 0) := rfl
set_option maxRecDepth 100000 in
theorem wc_1 : xat 4109 = some (xcw 1) := rfl
set_option maxRecDepth 100000 in
theorem wc_2 : xat 4114 = some (xcw 2) := rfl
set_option maxRecDepth 100000 in
theorem wc_3 : xat 5202 = some (xcw 3) := rfl
set_option maxRecDepth 100000 in
theorem wc_4 : xat 5206 = some (xcw 4) := rfl
set_option maxRecDepth 100000 in
theorem wc_5 : xat 5210 = some (xcw 5) := rfl
set_option maxRecDepth 100000 in
theorem wc_6 : xat 5223 = some (xcw 6) := rfl
set_option maxRecDepth 100000 in
theorem wc_7 : xat 6000 = some (xcw 7) := rfl
set_option maxRecDepth 100000 in
theorem wc_8 : xat 6005 = some (xcw 8) := rfl
set_option maxRecDepth 100000 in
theorem wc_9 : xat 6009 = some (xcw 9) := rfl
set_option maxRecDepth 100000 in
theorem wc_10 : xat 6017 = some (xcw 10) := rfl
set_option maxRecDepth 100000 in
theorem wc_11 : xat 6021 = some (xcw 11) := rfl
set_option maxRecDepth 100000 in
theorem wc_12 : xat 1236 = some (xcw 12) := rfl
set_option maxRecDepth 100000 in
theorem wc_13 : xat 4184 = some (xcw 13) := rfl
set_option maxRecDepth 100000 in
theorem wc_14 : xat 4190 = some (xcw 14) := rfl
set_option maxRecDepth 100000 in
theorem wc_15 : xat 4196 = some (xcw 15) := rfl
set_option maxRecDepth 100000 in
theorem wc_16 : xat 5001 = some (xcw 16) := rfl
set_option maxRecDepth 100000 in
theorem wc_17 : xat 1221 = some (xcw 17) := rfl
set_option maxRecDepth 100000 in
theorem wc_18 : xat 5086 = some (xcw 18) := rfl
set_option maxRecDepth 100000 in
theorem wc_19 : xat 5090 = some (xcw 19) := rfl
set_option maxRecDepth 100000 in
theorem wc_20 : xat 5095 = some (xcw 20) := rfl
set_option maxRecDepth 100000 in
theorem wc_21 : xat 5101 = some (xcw 21) := rfl
set_option maxRecDepth 100000 in
theorem wc_22 : xat 5105 = some (xcw 22) := rfl
set_option maxRecDepth 100000 in
theorem wc_23 : xat 5108 = some (xcw 23) := rfl
set_option maxRecDepth 100000 in
theorem wc_24 : xat 5111 = some (xcw 24) := rfl
set_option maxRecDepth 100000 in
theorem wc_25 : xat 5116 = some (xcw 25) := rfl
set_option maxRecDepth 100000 in
theorem wc_26 : xat 5123 = some (xcw 26) := rfl
set_option maxRecDepth 100000 in
theorem wc_27 : xat 5128 = some (xcw 27) := rfl
set_option maxRecDepth 100000 in
theorem wc_28 : xat 5132 = some (xcw 28) := rfl
set_option maxRecDepth 100000 in
theorem wc_29 : xat 5140 = some (xcw 29) := rfl
set_option maxRecDepth 100000 in
theorem wc_30 : xat 5152 = some (xcw 30) := rfl
set_option maxRecDepth 100000 in
theorem wc_31 : xat 5164 = some (xcw 31) := rfl
set_option maxRecDepth 100000 in
theorem wc_32 : xat 5169 = some (xcw 32) := rfl
set_option maxRecDepth 100000 in
theorem wc_33 : xat 5173 = some (xcw 33) := rfl
set_option maxRecDepth 100000 in
theorem wc_34 : xat 5177 = some (xcw 34) := rfl
set_option maxRecDepth 100000 in
theorem wc_35 : xat 5181 = some (xcw 35) := rfl
set_option maxRecDepth 100000 in
theorem wc_36 : xat 5185 = some (xcw 36) := rfl
set_option maxRecDepth 100000 in
theorem wc_37 : xat 5190 = some (xcw 37) := rfl
set_option maxRecDepth 100000 in
theorem wc_38 : xat 5194 = some (xcw 38) := rfl
set_option maxRecDepth 100000 in
theorem wc_39 : xat 6034 = some (xcw 39) := rfl
set_option maxRecDepth 100000 in
theorem wc_40 : xat 6038 = some (xcw 40) := rfl
set_option maxRecDepth 100000 in
theorem wc_41 : xat 1142 = some (xcw 41) := rfl
set_option maxRecDepth 100000 in
theorem wc_42 : xat 3190 = some (xcw 42) := rfl
set_option maxRecDepth 100000 in
theorem wc_43 : xat 3194 = some (xcw 43) := rfl
set_option maxRecDepth 100000 in
theorem wc_44 : xat 3198 = some (xcw 44) := rfl
set_option maxRecDepth 100000 in
theorem wc_45 : xat 3216 = some (xcw 45) := rfl
set_option maxRecDepth 100000 in
theorem wc_46 : xat 3221 = some (xcw 46) := rfl
set_option maxRecDepth 100000 in
theorem wc_47 : xat 3225 = some (xcw 47) := rfl
set_option maxRecDepth 100000 in
theorem wc_48 : xat 3229 = some (xcw 48) := rfl
set_option maxRecDepth 100000 in
theorem wc_49 : xat 3233 = some (xcw 49) := rfl
set_option maxRecDepth 100000 in
theorem wc_50 : xat 3236 = some (xcw 50) := rfl
set_option maxRecDepth 100000 in
theorem wc_51 : xat 4001 = some (xcw 51) := rfl
set_option maxRecDepth 100000 in
theorem wc_52 : xat 4005 = some (xcw 52) := rfl
set_option maxRecDepth 100000 in
theorem wc_53 : xat 4009 = some (xcw 53) := rfl
set_option maxRecDepth 100000 in
theorem wc_54 : xat 4013 = some (xcw 54) := rfl
set_option maxRecDepth 100000 in
theorem wc_55 : xat 4017 = some (xcw 55) := rfl
set_option maxRecDepth 100000 in
theorem wc_56 : xat 4068 = some (xcw 56) := rfl
set_option maxRecDepth 100000 in
theorem wc_57 : xat 4072 = some (xcw 57) := rfl
set_option maxRecDepth 100000 in
theorem wc_58 : xat 4076 = some (xcw 58) := rfl
set_option maxRecDepth 100000 in
theorem wc_59 : xat 4080 = some (xcw 59) := rfl
set_option maxRecDepth 100000 in
theorem wc_60 : xat 4084 = some (xcw 60) := rfl
set_option maxRecDepth 100000 in
theorem wc_61 : xat 4088 = some (xcw 61) := rfl
set_option maxRecDepth 100000 in
theorem wc_62 : xat 4096 = some (xcw 62) := rfl
set_option maxRecDepth 100000 in
theorem wc_63 : xat 4100 = some (xcw 63) := rfl
set_option maxRecDepth 100000 in
theorem wc_64 : xat 4201 = some (xcw 64) := rfl
set_option maxRecDepth 100000 in
theorem wc_65 : xat 5052 = some (xcw 65) := rfl
set_option maxRecDepth 100000 in
theorem wc_66 : xat 5215 = some (xcw 66) := rfl
set_option maxRecDepth 100000 in
theorem wc_67 : xat 5219 = some (xcw 67) := rfl
set_option maxRecDepth 100000 in
theorem wc_68 : xat 1227 = some (xcw 68) := rfl
set_option maxRecDepth 100000 in
theorem wc_69 : xat 4136 = some (xcw 69) := rfl
set_option maxRecDepth 100000 in
theorem wc_70 : xat 4175 = some (xcw 70) := rfl
set_option maxRecDepth 100000 in
theorem wc_71 : xat 4179 = some (xcw 71) := rfl
set_option maxRecDepth 100000 in
theorem wc_72 : xat 4209 = some (xcw 72) := rfl
set_option maxRecDepth 100000 in
theorem wc_73 : xat 4213 = some (xcw 73) := rfl
set_option maxRecDepth 100000 in
theorem wc_74 : xat 4217 = some (xcw 74) := rfl
set_option maxRecDepth 100000 in
theorem wc_75 : xat 4222 = some (xcw 75) := rfl
set_option maxRecDepth 100000 in
theorem wc_76 : xat 4226 = some (xcw 76) := rfl
set_option maxRecDepth 100000 in
theorem wc_77 : xat 4229 = some (xcw 77) := rfl
set_option maxRecDepth 100000 in
theorem wc_78 : xat 4233 = some (xcw 78) := rfl
set_option maxRecDepth 100000 in
theorem wc_79 : xat 4237 = some (xcw 79) := rfl
set_option maxRecDepth 100000 in
theorem wc_80 : xat 5005 = some (xcw 80) := rfl
set_option maxRecDepth 100000 in
theorem wc_81 : xat 5009 = some (xcw 81) := rfl
set_option maxRecDepth 100000 in
theorem wc_82 : xat 5013 = some (xcw 82) := rfl
set_option maxRecDepth 100000 in
theorem wc_83 : xat 5017 = some (xcw 83) := rfl
set_option maxRecDepth 100000 in
theorem wc_84 : xat 5021 = some (xcw 84) := rfl
set_option maxRecDepth 100000 in
theorem wc_85 : xat 5029 = some (xcw 85) := rfl
set_option maxRecDepth 100000 in
theorem wc_86 : xat 5034 = some (xcw 86) := rfl
set_option maxRecDepth 100000 in
theorem wc_87 : xat 5038 = some (xcw 87) := rfl
set_option maxRecDepth 100000 in
theorem wc_88 : xat 5074 = some (xcw 88) := rfl
set_option maxRecDepth 100000 in
theorem wc_89 : xat 5160 = some (xcw 89) := rfl
set_option maxRecDepth 100000 in
theorem wc_90 : xat 6047 = some (xcw 90) := rfl
set_option maxRecDepth 100000 in
theorem wc_91 : xat 1037 = some (xcw 91) := rfl
set_option maxRecDepth 100000 in
theorem wc_92 : xat 2202 = some (xcw 92) := rfl
set_option maxRecDepth 100000 in
theorem wc_93 : xat 2214 = some (xcw 93) := rfl
set_option maxRecDepth 100000 in
theorem wc_94 : xat 4050 = some (xcw 94) := rfl
set_option maxRecDepth 100000 in
theorem wc_95 : xat 4124 = some (xcw 95) := rfl
set_option maxRecDepth 100000 in
theorem wc_96 : xat 5025 = some (xcw 96) := rfl
set_option maxRecDepth 100000 in
theorem wc_97 : xat 1053 = some (xcw 97) := rfl
set_option maxRecDepth 100000 in
theorem wc_98 : xat 2218 = some (xcw 98) := rfl
set_option maxRecDepth 100000 in
theorem wc_99 : xat 2225 = some (xcw 99) := rfl
set_option maxRecDepth 100000 in
theorem wc_100 : xat 2234 = some (xcw 100) := rfl
set_option maxRecDepth 100000 in
theorem wc_101 : xat 3014 = some (xcw 101) := rfl
set_option maxRecDepth 100000 in
theorem wc_102 : xat 3018 = some (xcw 102) := rfl
set_option maxRecDepth 100000 in
theorem wc_103 : xat 3070 = some (xcw 103) := rfl
set_option maxRecDepth 100000 in
theorem wc_104 : xat 3074 = some (xcw 104) := rfl
set_option maxRecDepth 100000 in
theorem wc_105 : xat 3078 = some (xcw 105) := rfl
set_option maxRecDepth 100000 in
theorem wc_106 : xat 3082 = some (xcw 106) := rfl
set_option maxRecDepth 100000 in
theorem wc_107 : xat 3120 = some (xcw 107) := rfl
set_option maxRecDepth 100000 in
theorem wc_108 : xat 3143 = some (xcw 108) := rfl
set_option maxRecDepth 100000 in
theorem wc_109 : xat 1086 = some (xcw 109) := rfl
set_option maxRecDepth 100000 in
theorem wc_110 : xat 3007 = some (xcw 110) := rfl
set_option maxRecDepth 100000 in
theorem wc_111 : xat 3088 = some (xcw 111) := rfl
set_option maxRecDepth 100000 in
theorem wc_112 : xat 3092 = some (xcw 112) := rfl
set_option maxRecDepth 100000 in
theorem wc_113 : xat 3097 = some (xcw 113) := rfl
set_option maxRecDepth 100000 in
theorem wc_114 : xat 3102 = some (xcw 114) := rfl
set_option maxRecDepth 100000 in
theorem wc_115 : xat 3106 = some (xcw 115) := rfl
set_option maxRecDepth 100000 in
theorem wc_116 : xat 3159 = some (xcw 116) := rfl
set_option maxRecDepth 100000 in
theorem wc_117 : xat 3163 = some (xcw 117) := rfl
set_option maxRecDepth 100000 in
theorem wc_118 : xat 3167 = some (xcw 118) := rfl
set_option maxRecDepth 100000 in
theorem wc_119 : xat 3171 = some (xcw 119) := rfl
set_option maxRecDepth 100000 in
theorem wc_120 : xat 4060 = some (xcw 120) := rfl
set_option maxRecDepth 100000 in
theorem wc_121 : xat 1200 = some (xcw 121) := rfl
set_option maxRecDepth 100000 in
theorem wc_122 : xat 3151 = some (xcw 122) := rfl
set_option maxRecDepth 100000 in
theorem wc_123 : xat 3155 = some (xcw 123) := rfl
set_option maxRecDepth 100000 in
theorem wc_124 : xat 4029 = some (xcw 124) := rfl
set_option maxRecDepth 100000 in
theorem wc_125 : xat 4141 = some (xcw 125) := rfl
set_option maxRecDepth 100000 in
theorem wc_126 : xat 1116 = some (xcw 126) := rfl
set_option maxRecDepth 100000 in
theorem wc_127 : xat 1121 = some (xcw 127) := rfl
set_option maxRecDepth 100000 in
theorem wc_128 : xat 3010 = some (xcw 128) := rfl
set_option maxRecDepth 100000 in
theorem wc_129 : xat 3111 = some (xcw 129) := rfl
set_option maxRecDepth 100000 in
theorem wc_130 : xat 3115 = some (xcw 130) := rfl
set_option maxRecDepth 100000 in
theorem wc_131 : xat 3126 = some (xcw 131) := rfl
set_option maxRecDepth 100000 in
theorem wc_132 : xat 3132 = some (xcw 132) := rfl
set_option maxRecDepth 100000 in
theorem wc_133 : xat 4132 = some (xcw 133) := rfl
set_option maxRecDepth 100000 in
theorem wc_134 : xat 4147 = some (xcw 134) := rfl
set_option maxRecDepth 100000 in
theorem wc_135 : xat 4151 = some (xcw 135) := rfl
set_option maxRecDepth 100000 in
theorem wc_136 : xat 4155 = some (xcw 136) := rfl
set_option maxRecDepth 100000 in
theorem wc_137 : xat 4159 = some (xcw 137) := rfl
set_option maxRecDepth 100000 in
theorem wc_138 : xat 4163 = some (xcw 138) := rfl
set_option maxRecDepth 100000 in
theorem wc_139 : xat 4167 = some (xcw 139) := rfl
set_option maxRecDepth 100000 in
theorem wc_140 : xat 5082 = some (xcw 140) := rfl
set_option maxRecDepth 100000 in
theorem wc_141 : xat 1029 = some (xcw 141) := rfl
set_option maxRecDepth 100000 in
theorem wc_142 : xat 2198 = some (xcw 142) := rfl
set_option maxRecDepth 100000 in
theorem wc_143 : xat 2206 = some (xcw 143) := rfl
set_option maxRecDepth 100000 in
theorem wc_144 : xat 2210 = some (xcw 144) := rfl
set_option maxRecDepth 100000 in
theorem wc_145 : xat 2228 = some (xcw 145) := rfl
set_option maxRecDepth 100000 in
theorem wc_146 : xat 2231 = some (xcw 146) := rfl
set_option maxRecDepth 100000 in
theorem wc_147 : xat 3129 = some (xcw 147) := rfl
set_option maxRecDepth 100000 in
theorem wc_148 : xat 3147 = some (xcw 148) := rfl
set_option maxRecDepth 100000 in
theorem wc_149 : xat 3185 = some (xcw 149) := rfl
set_option maxRecDepth 100000 in
theorem wc_150 : xat 3204 = some (xcw 150) := rfl
set_option maxRecDepth 100000 in
theorem wc_151 : xat 3212 = some (xcw 151) := rfl
set_option maxRecDepth 100000 in
theorem wc_152 : xat 4021 = some (xcw 152) := rfl
set_option maxRecDepth 100000 in
theorem wc_153 : xat 4025 = some (xcw 153) := rfl
set_option maxRecDepth 100000 in
theorem wc_154 : xat 4034 = some (xcw 154) := rfl
set_option maxRecDepth 100000 in
theorem wc_155 : xat 4038 = some (xcw 155) := rfl
set_option maxRecDepth 100000 in
theorem wc_156 : xat 4042 = some (xcw 156) := rfl
set_option maxRecDepth 100000 in
theorem wc_157 : xat 4046 = some (xcw 157) := rfl
set_option maxRecDepth 100000 in
theorem wc_158 : xat 4056 = some (xcw 158) := rfl
set_option maxRecDepth 100000 in
theorem wc_159 : xat 4064 = some (xcw 159) := rfl
set_option maxRecDepth 100000 in
theorem wc_160 : xat 4092 = some (xcw 160) := rfl
set_option maxRecDepth 100000 in
theorem wc_161 : xat 4105 = some (xcw 161) := rfl
set_option maxRecDepth 100000 in
theorem wc_162 : xat 4120 = some (xcw 162) := rfl
set_option maxRecDepth 100000 in
theorem wc_163 : xat 4128 = some (xcw 163) := rfl
set_option maxRecDepth 100000 in
theorem wc_164 : xat 4171 = some (xcw 164) := rfl
set_option maxRecDepth 100000 in
theorem wc_165 : xat 4205 = some (xcw 165) := rfl
set_option maxRecDepth 100000 in
theorem wc_166 : xat 5043 = some (xcw 166) := rfl
set_option maxRecDepth 100000 in
theorem wc_167 : xat 5047 = some (xcw 167) := rfl
set_option maxRecDepth 100000 in
theorem wc_168 : xat 5058 = some (xcw 168) := rfl
set_option maxRecDepth 100000 in
theorem wc_169 : xat 5066 = some (xcw 169) := rfl
set_option maxRecDepth 100000 in
theorem wc_170 : xat 5070 = some (xcw 170) := rfl
set_option maxRecDepth 100000 in
theorem wc_171 : xat 5078 = some (xcw 171) := rfl
set_option maxRecDepth 100000 in
theorem wc_172 : xat 5136 = some (xcw 172) := rfl
set_option maxRecDepth 100000 in
theorem wc_173 : xat 5144 = some (xcw 173) := rfl
set_option maxRecDepth 100000 in
theorem wc_174 : xat 5148 = some (xcw 174) := rfl
set_option maxRecDepth 100000 in
theorem wc_175 : xat 5156 = some (xcw 175) := rfl
set_option maxRecDepth 100000 in
theorem wc_176 : xat 5198 = some (xcw 176) := rfl
set_option maxRecDepth 100000 in
theorem wc_177 : xat 5228 = some (xcw 177) := rfl
set_option maxRecDepth 100000 in
theorem wc_178 : xat 5232 = some (xcw 178) := rfl
set_option maxRecDepth 100000 in
theorem wc_179 : xat 5236 = some (xcw 179) := rfl
set_option maxRecDepth 100000 in
theorem wc_180 : xat 6013 = some (xcw 180) := rfl
set_option maxRecDepth 100000 in
theorem wc_181 : xat 6026 = some (xcw 181) := rfl
set_option maxRecDepth 100000 in
theorem wc_182 : xat 6030 = some (xcw 182) := rfl
set_option maxRecDepth 100000 in
theorem wc_183 : xat 6043 = some (xcw 183) := rfl
set_option maxRecDepth 100000 in
theorem wc_184 : xat 6051 = some (xcw 184) := rfl
set_option maxRecDepth 100000 in
theorem wc_185 : xat 6055 = some (xcw 185) := rfl
set_option maxRecDepth 100000 in
theorem wc_186 : xat 6063 = some (xcw 186) := rfl
set_option maxRecDepth 100000 in
theorem wc_187 : xat 6131 = some (xcw 187) := rfl
set_option maxRecDepth 100000 in
theorem wc_188 : xat 6136 = some (xcw 188) := rfl
set_option maxRecDepth 100000 in
theorem wc_189 : xat 6140 = some (xcw 189) := rfl
set_option maxRecDepth 100000 in
theorem wc_190 : xat 6144 = some (xcw 190) := rfl
set_option maxRecDepth 100000 in
theorem wc_191 : xat 6149 = some (xcw 191) := rfl
set_option maxRecDepth 100000 in
theorem wc_192 : xat 6153 = some (xcw 192) := rfl
set_option maxRecDepth 100000 in
theorem wc_193 : xat 6157 = some (xcw 193) := rfl
set_option maxRecDepth 100000 in
theorem wc_194 : xat 6161 = some (xcw 194) := rfl
set_option maxRecDepth 100000 in
theorem wc_195 : xat 6165 = some (xcw 195) := rfl
set_option maxRecDepth 100000 in
theorem wc_196 : xat 6170 = some (xcw 196) := rfl
set_option maxRecDepth 100000 in
theorem wc_197 : xat 6174 = some (xcw 197) := rfl
set_option maxRecDepth 100000 in
theorem wc_198 : xat 6177 = some (xcw 198) := rfl
set_option maxRecDepth 100000 in
theorem wc_199 : xat 6180 = some (xcw 199) := rfl
set_option maxRecDepth 100000 in
theorem wc_200 : xat 6184 = some (xcw 200) := rfl
set_option maxRecDepth 100000 in
theorem wc_201 : xat 6189 = some (xcw 201) := rfl
set_option maxRecDepth 100000 in
theorem wc_202 : xat 6193 = some (xcw 202) := rfl
set_option maxRecDepth 100000 in
theorem wc_203 : xat 6197 = some (xcw 203) := rfl
set_option maxRecDepth 100000 in
theorem wc_204 : xat 6201 = some (xcw 204) := rfl
set_option maxRecDepth 100000 in
theorem wc_205 : xat 6205 = some (xcw 205) := rfl
set_option maxRecDepth 100000 in
theorem wc_206 : xat 6210 = some (xcw 206) := rfl
set_option maxRecDepth 100000 in
theorem wc_207 : xat 6219 = some (xcw 207) := rfl
set_option maxRecDepth 100000 in
theorem wc_208 : xat 6223 = some (xcw 208) := rfl
set_option maxRecDepth 100000 in
theorem wc_209 : xat 6227 = some (xcw 209) := rfl
set_option maxRecDepth 100000 in
theorem wc_210 : xat 6231 = some (xcw 210) := rfl
set_option maxRecDepth 100000 in
theorem wc_211 : xat 6235 = some (xcw 211) := rfl
set_option maxRecDepth 100000 in
theorem wc_212 : xat 6239 = some (xcw 212) := rfl
set_option maxRecDepth 100000 in
theorem wc_213 : xat 7003 = some (xcw 213) := rfl
set_option maxRecDepth 100000 in
theorem wc_214 : xat 7007 = some (xcw 214) := rfl
set_option maxRecDepth 100000 in
theorem wc_215 : xat 7011 = some (xcw 215) := rfl
set_option maxRecDepth 100000 in
theorem wc_216 : xat 7015 = some (xcw 216) := rfl
set_option maxRecDepth 100000 in
theorem wc_217 : xat 7019 = some (xcw 217) := rfl
set_option maxRecDepth 100000 in
theorem wc_218 : xat 7023 = some (xcw 218) := rfl
set_option maxRecDepth 100000 in
theorem wc_219 : xat 7027 = some (xcw 219) := rfl
set_option maxRecDepth 100000 in
theorem wc_220 : xat 7031 = some (xcw 220) := rfl
set_option maxRecDepth 100000 in
theorem wc_221 : xat 7035 = some (xcw 221) := rfl
set_option maxRecDepth 100000 in
theorem wc_222 : xat 7039 = some (xcw 222) := rfl
set_option maxRecDepth 100000 in
theorem wc_223 : xat 7043 = some (xcw 223) := rfl
set_option maxRecDepth 100000 in
theorem wc_224 : xat 7047 = some (xcw 224) := rfl
set_option maxRecDepth 100000 in
theorem wc_225 : xat 7051 = some (xcw 225) := rfl
set_option maxRecDepth 100000 in
theorem wc_226 : xat 7055 = some (xcw 226) := rfl
set_option maxRecDepth 100000 in
theorem wc_227 : xat 7059 = some (xcw 227) := rfl
set_option maxRecDepth 100000 in
theorem wc_228 : xat 7063 = some (xcw 228) := rfl
set_option maxRecDepth 100000 in
theorem wc_229 : xat 7067 = some (xcw 229) := rfl
set_option maxRecDepth 100000 in
theorem wc_230 : xat 7071 = some (xcw 230) := rfl
set_option maxRecDepth 100000 in
theorem wc_231 : xat 7075 = some (xcw 231) := rfl
set_option maxRecDepth 100000 in
theorem wc_232 : xat 7079 = some (xcw 232) := rfl
set_option maxRecDepth 100000 in
theorem wc_233 : xat 7083 = some (xcw 233) := rfl
set_option maxRecDepth 100000 in
theorem wc_234 : xat 7087 = some (xcw 234) := rfl
set_option maxRecDepth 100000 in
theorem wc_235 : xat 7091 = some (xcw 235) := rfl
set_option maxRecDepth 100000 in
theorem wc_236 : xat 7095 = some (xcw 236) := rfl
set_option maxRecDepth 100000 in
theorem wc_237 : xat 7102 = some (xcw 237) := rfl
set_option maxRecDepth 100000 in
theorem wc_238 : xat 7123 = some (xcw 238) := rfl
set_option maxRecDepth 100000 in
theorem wc_239 : xat 8139 = some (xcw 239) := rfl
set_option maxRecDepth 100000 in
theorem wc_240 : xat 8143 = some (xcw 240) := rfl
set_option maxRecDepth 100000 in
theorem wc_241 : xat 8147 = some (xcw 241) := rfl
set_option maxRecDepth 100000 in
theorem wc_242 : xat 8151 = some (xcw 242) := rfl
set_option maxRecDepth 100000 in
theorem wc_243 : xat 8155 = some (xcw 243) := rfl
set_option maxRecDepth 100000 in
theorem wc_244 : xat 8159 = some (xcw 244) := rfl
set_option maxRecDepth 100000 in
theorem wc_245 : xat 8163 = some (xcw 245) := rfl
set_option maxRecDepth 100000 in
theorem wc_246 : xat 8167 = some (xcw 246) := rfl
set_option maxRecDepth 100000 in
theorem wc_247 : xat 8171 = some (xcw 247) := rfl
set_option maxRecDepth 100000 in
theorem wc_248 : xat 8175 = some (xcw 248) := rfl
set_option maxRecDepth 100000 in
theorem wc_249 : xat 8179 = some (xcw 249) := rfl
set_option maxRecDepth 100000 in
theorem wc_250 : xat 8182 = some (xcw 250) := rfl
set_option maxRecDepth 100000 in
theorem wc_251 : xat 8186 = some (xcw 251) := rfl
set_option maxRecDepth 100000 in
theorem wc_252 : xat 8190 = some (xcw 252) := rfl
set_option maxRecDepth 100000 in
theorem wc_253 : xat 8194 = some (xcw 253) := rfl
set_option maxRecDepth 100000 in
theorem wc_254 : xat 8200 = some (xcw 254) := rfl
set_option maxRecDepth 100000 in
theorem wc_255 : xat 8204 = some (xcw 255) := rfl
set_option maxRecDepth 100000 in
theorem wc_256 : xat 8208 = some (xcw 256) := rfl
set_option maxRecDepth 100000 in
theorem wc_257 : xat 8212 = some (xcw 257) := rfl
set_option maxRecDepth 100000 in
theorem wc_258 : xat 8216 = some (xcw 258) := rfl
set_option maxRecDepth 100000 in
theorem wc_259 : xat 8219 = some (xcw 259) := rfl
set_option maxRecDepth 100000 in
theorem wc_260 : xat 8223 = some (xcw 260) := rfl
set_option maxRecDepth 100000 in
theorem wc_261 : xat 8227 = some (xcw 261) := rfl
set_option maxRecDepth 100000 in
theorem wc_262 : xat 8230 = some (xcw 262) := rfl
set_option maxRecDepth 100000 in
theorem wc_263 : xat 8233 = some (xcw 263) := rfl
set_option maxRecDepth 100000 in
theorem wc_264 : xat 8236 = some (xcw 264) := rfl
set_option maxRecDepth 100000 in
theorem wc_265 : xat 9000 = some (xcw 265) := rfl
set_option maxRecDepth 100000 in
theorem wc_266 : xat 9004 = some (xcw 266) := rfl
set_option maxRecDepth 100000 in
theorem wc_267 : xat 9008 = some (xcw 267) := rfl
set_option maxRecDepth 100000 in
theorem wc_268 : xat 9012 = some (xcw 268) := rfl
set_option maxRecDepth 100000 in
theorem wc_269 : xat 9016 = some (xcw 269) := rfl
set_option maxRecDepth 100000 in
theorem wc_270 : xat 9020 = some (xcw 270) := rfl
set_option maxRecDepth 100000 in
theorem wc_271 : xat 9024 = some (xcw 271) := rfl
set_option maxRecDepth 100000 in
theorem wc_272 : xat 9028 = some (xcw 272) := rfl
set_option maxRecDepth 100000 in
theorem wc_273 : xat 9031 = some (xcw 273) := rfl
set_option maxRecDepth 100000 in
theorem wc_274 : xat 9034 = some (xcw 274) := rfl
set_option maxRecDepth 100000 in
theorem wc_275 : xat 9038 = some (xcw 275) := rfl
set_option maxRecDepth 100000 in
theorem wc_276 : xat 9042 = some (xcw 276) := rfl
set_option maxRecDepth 100000 in
theorem wc_277 : xat 9046 = some (xcw 277) := rfl
set_option maxRecDepth 100000 in
theorem wc_278 : xat 9050 = some (xcw 278) := rfl
set_option maxRecDepth 100000 in
theorem wc_279 : xat 9054 = some (xcw 279) := rfl
set_option maxRecDepth 100000 in
theorem wc_280 : xat 9058 = some (xcw 280) := rfl
set_option maxRecDepth 100000 in
theorem wc_281 : xat 9062 = some (xcw 281) := rfl
set_option maxRecDepth 100000 in
theorem wc_282 : xat 9066 = some (xcw 282) := rfl
set_option maxRecDepth 100000 in
theorem wc_283 : xat 9069 = some (xcw 283) := rfl
set_option maxRecDepth 100000 in
theorem wc_284 : xat 9074 = some (xcw 284) := rfl
set_option maxRecDepth 100000 in
theorem wc_285 : xat 9078 = some (xcw 285) := rfl
set_option maxRecDepth 100000 in
theorem wc_286 : xat 9082 = some (xcw 286) := rfl
set_option maxRecDepth 100000 in
theorem wc_287 : xat 9086 = some (xcw 287) := rfl
set_option maxRecDepth 100000 in
theorem wc_288 : xat 9090 = some (xcw 288) := rfl
set_option maxRecDepth 100000 in
theorem wc_289 : xat 9094 = some (xcw 289) := rfl
set_option maxRecDepth 100000 in
theorem wc_290 : xat 9098 = some (xcw 290) := rfl
set_option maxRecDepth 100000 in
theorem wc_291 : xat 9102 = some (xcw 291) := rfl
set_option maxRecDepth 100000 in
theorem wc_292 : xat 1089 = some (xcw 292) := rfl
set_option maxRecDepth 100000 in
theorem wc_293 : xat 3001 = some (xcw 293) := rfl
set_option maxRecDepth 100000 in
theorem wc_294 : xat 3175 = some (xcw 294) := rfl
set_option maxRecDepth 100000 in
theorem wc_295 : xat 1124 = some (xcw 295) := rfl
theorem wm_0 : xchkM 0 (2112, 2111, 1013, 99999) = true := by decide +kernel
theorem wm_1 : xchkM 1 (4109, 4108, 1013, 48) = true := by decide +kernel
theorem wm_2 : xchkM 2 (4114, 4113, 1013, 49) = true := by decide +kernel
theorem wm_3 : xchkM 3 (5202, 5201, 1013, 112) = true := by decide +kernel
theorem wm_4 : xchkM 4 (5206, 5205, 1013, 113) = true := by decide +kernel
theorem wm_5 : xchkM 5 (5210, 5209, 1013, 114) = true := by decide +kernel
theorem wm_6 : xchkM 6 (5223, 5222, 1013, 117) = true := by decide +kernel
theorem wm_7 : xchkM 7 (6000, 5239, 1013, 119) = true := by decide +kernel
theorem wm_8 : xchkM 8 (6005, 6004, 1013, 120) = true := by decide +kernel
theorem wm_9 : xchkM 9 (6009, 6008, 1013, 121) = true := by decide +kernel
theorem wm_10 : xchkM 10 (6017, 6016, 1013, 123) = true := by decide +kernel
theorem wm_11 : xchkM 11 (6021, 6020, 1013, 124) = true := by decide +kernel
theorem wm_12 : xchkM 12 (1236, 1235, 1012, 99999) = true := by decide +kernel
theorem wm_13 : xchkM 13 (4184, 4183, 1012, 64) = true := by decide +kernel
theorem wm_14 : xchkM 14 (4190, 4189, 1012, 65) = true := by decide +kernel
theorem wm_15 : xchkM 15 (4196, 4195, 1012, 66) = true := by decide +kernel
theorem wm_16 : xchkM 16 (5001, 5000, 1012, 76) = true := by decide +kernel
theorem wm_17 : xchkM 17 (1221, 1220, 1010, 99999) = true := by decide +kernel
theorem wm_18 : xchkM 18 (5086, 5085, 1010, 91) = true := by decide +kernel
theorem wm_19 : xchkM 19 (5090, 5089, 1010, 92) = true := by decide +kernel
theorem wm_20 : xchkM 20 (5095, 5094, 1010, 93) = true := by decide +kernel
theorem wm_21 : xchkM 21 (5101, 5100, 1010, 94) = true := by decide +kernel
theorem wm_22 : xchkM 22 (5105, 5104, 1010, 95) = true := by decide +kernel
theorem wm_23 : xchkM 23 (5108, 5107, 1010, 99999) = true := by decide +kernel
theorem wm_24 : xchkM 24 (5111, 5110, 1010, 99999) = true := by decide +kernel
theorem wm_25 : xchkM 25 (5116, 5115, 1010, 96) = true := by decide +kernel
theorem wm_26 : xchkM 26 (5123, 5122, 1010, 97) = true := by decide +kernel
theorem wm_27 : xchkM 27 (5128, 5127, 1010, 98) = true := by decide +kernel
theorem wm_28 : xchkM 28 (5132, 5131, 1010, 99) = true := by decide +kernel
theorem wm_29 : xchkM 29 (5140, 5139, 1010, 100) = true := by decide +kernel
theorem wm_30 : xchkM 30 (5152, 5151, 1010, 102) = true := by decide +kernel
theorem wm_31 : xchkM 31 (5164, 5163, 1010, 104) = true := by decide +kernel
theorem wm_32 : xchkM 32 (5169, 5168, 1010, 105) = true := by decide +kernel
theorem wm_33 : xchkM 33 (5173, 5172, 1010, 106) = true := by decide +kernel
theorem wm_34 : xchkM 34 (5177, 5176, 1010, 107) = true := by decide +kernel
theorem wm_35 : xchkM 35 (5181, 5180, 1010, 108) = true := by decide +kernel
theorem wm_36 : xchkM 36 (5185, 5184, 1010, 109) = true := by decide +kernel
theorem wm_37 : xchkM 37 (5190, 5189, 1010, 110) = true := by decide +kernel
theorem wm_38 : xchkM 38 (5194, 5193, 1010, 111) = true := by decide +kernel
theorem wm_39 : xchkM 39 (6034, 6033, 1010, 126) = true := by decide +kernel
theorem wm_40 : xchkM 40 (6038, 6037, 1010, 127) = true := by decide +kernel
theorem wm_41 : xchkM 41 (1142, 1141, 1008, 99999) = true := by decide +kernel
theorem wm_42 : xchkM 42 (3190, 3189, 1008, 24) = true := by decide +kernel
theorem wm_43 : xchkM 43 (3194, 3193, 1008, 25) = true := by decide +kernel
theorem wm_44 : xchkM 44 (3198, 3197, 1008, 26) = true := by decide +kernel
theorem wm_45 : xchkM 45 (3216, 3215, 1008, 27) = true := by decide +kernel
theorem wm_46 : xchkM 46 (3221, 3220, 1008, 28) = true := by decide +kernel
theorem wm_47 : xchkM 47 (3225, 3224, 1008, 29) = true := by decide +kernel
theorem wm_48 : xchkM 48 (3229, 3228, 1008, 30) = true := by decide +kernel
theorem wm_49 : xchkM 49 (3233, 3232, 1008, 31) = true := by decide +kernel
theorem wm_50 : xchkM 50 (3236, 3235, 1008, 99999) = true := by decide +kernel
theorem wm_51 : xchkM 51 (4001, 4000, 1008, 32) = true := by decide +kernel
theorem wm_52 : xchkM 52 (4005, 4004, 1008, 33) = true := by decide +kernel
theorem wm_53 : xchkM 53 (4009, 4008, 1008, 34) = true := by decide +kernel
theorem wm_54 : xchkM 54 (4013, 4012, 1008, 35) = true := by decide +kernel
theorem wm_55 : xchkM 55 (4017, 4016, 1008, 36) = true := by decide +kernel
theorem wm_56 : xchkM 56 (4068, 4067, 1008, 40) = true := by decide +kernel
theorem wm_57 : xchkM 57 (4072, 4071, 1008, 41) = true := by decide +kernel
theorem wm_58 : xchkM 58 (4076, 4075, 1008, 42) = true := by decide +kernel
theorem wm_59 : xchkM 59 (4080, 4079, 1008, 43) = true := by decide +kernel
theorem wm_60 : xchkM 60 (4084, 4083, 1008, 44) = true := by decide +kernel
theorem wm_61 : xchkM 61 (4088, 4087, 1008, 45) = true := by decide +kernel
theorem wm_62 : xchkM 62 (4096, 4095, 1008, 46) = true := by decide +kernel
theorem wm_63 : xchkM 63 (4100, 4099, 1008, 47) = true := by decide +kernel
theorem wm_64 : xchkM 64 (4201, 4200, 1008, 67) = true := by decide +kernel
theorem wm_65 : xchkM 65 (5052, 5051, 1008, 86) = true := by decide +kernel
theorem wm_66 : xchkM 66 (5215, 5214, 1008, 115) = true := by decide +kernel
theorem wm_67 : xchkM 67 (5219, 5218, 1008, 116) = true := by decide +kernel
theorem wm_68 : xchkM 68 (1227, 1226, 1011, 99999) = true := by decide +kernel
theorem wm_69 : xchkM 69 (4136, 4135, 1011, 53) = true := by decide +kernel
theorem wm_70 : xchkM 70 (4175, 4174, 1011, 62) = true := by decide +kernel
theorem wm_71 : xchkM 71 (4179, 4178, 1011, 63) = true := by decide +kernel
theorem wm_72 : xchkM 72 (4209, 4208, 1011, 69) = true := by decide +kernel
theorem wm_73 : xchkM 73 (4213, 4212, 1011, 70) = true := by decide +kernel
theorem wm_74 : xchkM 74 (4217, 4216, 1011, 71) = true := by decide +kernel
theorem wm_75 : xchkM 75 (4222, 4221, 1011, 72) = true := by decide +kernel
theorem wm_76 : xchkM 76 (4226, 4225, 1011, 73) = true := by decide +kernel
theorem wm_77 : xchkM 77 (4229, 4228, 1011, 99999) = true := by decide +kernel
theorem wm_78 : xchkM 78 (4233, 4232, 1011, 74) = true := by decide +kernel
theorem wm_79 : xchkM 79 (4237, 4236, 1011, 75) = true := by decide +kernel
theorem wm_80 : xchkM 80 (5005, 5004, 1011, 77) = true := by decide +kernel
theorem wm_81 : xchkM 81 (5009, 5008, 1011, 78) = true := by decide +kernel
theorem wm_82 : xchkM 82 (5013, 5012, 1011, 79) = true := by decide +kernel
theorem wm_83 : xchkM 83 (5017, 5016, 1011, 80) = true := by decide +kernel
theorem wm_84 : xchkM 84 (5021, 5020, 1011, 81) = true := by decide +kernel
theorem wm_85 : xchkM 85 (5029, 5028, 1011, 83) = true := by decide +kernel
theorem wm_86 : xchkM 86 (5034, 5033, 1011, 84) = true := by decide +kernel
theorem wm_87 : xchkM 87 (5038, 5037, 1011, 85) = true := by decide +kernel
theorem wm_88 : xchkM 88 (5074, 5073, 1011, 88) = true := by decide +kernel
theorem wm_89 : xchkM 89 (5160, 5159, 1011, 103) = true := by decide +kernel
theorem wm_90 : xchkM 90 (6047, 6046, 1011, 128) = true := by decide +kernel
theorem wm_91 : xchkM 91 (1037, 1036, 1002, 99999) = true := by decide +kernel
theorem wm_92 : xchkM 92 (2202, 2201, 1002, 1) = true := by decide +kernel
theorem wm_93 : xchkM 93 (2214, 2213, 1002, 2) = true := by decide +kernel
theorem wm_94 : xchkM 94 (4050, 4049, 1002, 38) = true := by decide +kernel
theorem wm_95 : xchkM 95 (4124, 4123, 1002, 50) = true := by decide +kernel
theorem wm_96 : xchkM 96 (5025, 5024, 1002, 82) = true := by decide +kernel
theorem wm_97 : xchkM 97 (1053, 1052, 1003, 99999) = true := by decide +kernel
theorem wm_98 : xchkM 98 (2218, 2217, 1003, 3) = true := by decide +kernel
theorem wm_99 : xchkM 99 (2225, 2224, 1003, 4) = true := by decide +kernel
theorem wm_100 : xchkM 100 (2234, 2233, 1003, 99999) = true := by decide +kernel
theorem wm_101 : xchkM 101 (3014, 3013, 1003, 5) = true := by decide +kernel
theorem wm_102 : xchkM 102 (3018, 3017, 1003, 6) = true := by decide +kernel
theorem wm_103 : xchkM 103 (3070, 3069, 1003, 7) = true := by decide +kernel
theorem wm_104 : xchkM 104 (3074, 3073, 1003, 8) = true := by decide +kernel
theorem wm_105 : xchkM 105 (3078, 3077, 1003, 9) = true := by decide +kernel
theorem wm_106 : xchkM 106 (3082, 3081, 1003, 10) = true := by decide +kernel
theorem wm_107 : xchkM 107 (3120, 3119, 1003, 14) = true := by decide +kernel
theorem wm_108 : xchkM 108 (3143, 3142, 1003, 16) = true := by decide +kernel
theorem wm_109 : xchkM 109 (1086, 1085, 1005, 99999) = true := by decide +kernel
theorem wm_110 : xchkM 110 (3007, 3006, 1005, 99999) = true := by decide +kernel
theorem wm_111 : xchkM 111 (3088, 3087, 1005, 99999) = true := by decide +kernel
theorem wm_112 : xchkM 112 (3092, 3091, 1005, 11) = true := by decide +kernel
theorem wm_113 : xchkM 113 (3097, 3096, 1005, 99999) = true := by decide +kernel
theorem wm_114 : xchkM 114 (3102, 3101, 1005, 99999) = true := by decide +kernel
theorem wm_115 : xchkM 115 (3106, 3105, 1005, 12) = true := by decide +kernel
theorem wm_116 : xchkM 116 (3159, 3158, 1005, 20) = true := by decide +kernel
theorem wm_117 : xchkM 117 (3163, 3162, 1005, 21) = true := by decide +kernel
theorem wm_118 : xchkM 118 (3167, 3166, 1005, 99999) = true := by decide +kernel
theorem wm_119 : xchkM 119 (3171, 3170, 1005, 22) = true := by decide +kernel
theorem wm_120 : xchkM 120 (4060, 4059, 1005, 39) = true := by decide +kernel
theorem wm_121 : xchkM 121 (1200, 1199, 1009, 99999) = true := by decide +kernel
theorem wm_122 : xchkM 122 (3151, 3150, 1009, 18) = true := by decide +kernel
theorem wm_123 : xchkM 123 (3155, 3154, 1009, 19) = true := by decide +kernel
theorem wm_124 : xchkM 124 (4029, 4028, 1009, 37) = true := by decide +kernel
theorem wm_125 : xchkM 125 (4141, 4140, 1009, 54) = true := by decide +kernel
theorem wm_126 : xchkM 126 (1116, 1115, 1006, 99999) = true := by decide +kernel
theorem wm_127 : xchkM 127 (1121, 1120, 1006, 0) = true := by decide +kernel
theorem wm_128 : xchkM 128 (3010, 3009, 1006, 99999) = true := by decide +kernel
theorem wm_129 : xchkM 129 (3111, 3110, 1006, 99999) = true := by decide +kernel
theorem wm_130 : xchkM 130 (3115, 3114, 1006, 13) = true := by decide +kernel
theorem wm_131 : xchkM 131 (3126, 3125, 1006, 15) = true := by decide +kernel
theorem wm_132 : xchkM 132 (3132, 3131, 1006, 99999) = true := by decide +kernel
theorem wm_133 : xchkM 133 (4132, 4131, 1006, 52) = true := by decide +kernel
theorem wm_134 : xchkM 134 (4147, 4146, 1006, 55) = true := by decide +kernel
theorem wm_135 : xchkM 135 (4151, 4150, 1006, 56) = true := by decide +kernel
theorem wm_136 : xchkM 136 (4155, 4154, 1006, 57) = true := by decide +kernel
theorem wm_137 : xchkM 137 (4159, 4158, 1006, 58) = true := by decide +kernel
theorem wm_138 : xchkM 138 (4163, 4162, 1006, 59) = true := by decide +kernel
theorem wm_139 : xchkM 139 (4167, 4166, 1006, 60) = true := by decide +kernel
theorem wm_140 : xchkM 140 (5082, 5081, 1006, 90) = true := by decide +kernel
theorem wm_141 : xchkM 141 (1029, 1028, 1001, 99999) = true := by decide +kernel
theorem wm_142 : xchkM 142 (2198, 2196, 1001, 2197) = true := by decide +kernel
theorem wm_143 : xchkM 143 (2206, 2204, 1001, 2205) = true := by decide +kernel
theorem wm_144 : xchkM 144 (2210, 2208, 1001, 2209) = true := by decide +kernel
theorem wm_145 : xchkM 145 (2228, 2227, 1001, 99999) = true := by decide +kernel
theorem wm_146 : xchkM 146 (2231, 2230, 1001, 99999) = true := by decide +kernel
theorem wm_147 : xchkM 147 (3129, 3128, 1001, 99999) = true := by decide +kernel
theorem wm_148 : xchkM 148 (3147, 3146, 1001, 17) = true := by decide +kernel
theorem wm_149 : xchkM 149 (3185, 3184, 1001, 23) = true := by decide +kernel
theorem wm_150 : xchkM 150 (3204, 3202, 1001, 3203) = true := by decide +kernel
theorem wm_151 : xchkM 151 (3212, 3210, 1001, 3211) = true := by decide +kernel
theorem wm_152 : xchkM 152 (4021, 4019, 1001, 4020) = true := by decide +kernel
theorem wm_153 : xchkM 153 (4025, 4023, 1001, 4024) = true := by decide +kernel
theorem wm_154 : xchkM 154 (4034, 4032, 1001, 4033) = true := by decide +kernel
theorem wm_155 : xchkM 155 (4038, 4036, 1001, 4037) = true := by decide +kernel
theorem wm_156 : xchkM 156 (4042, 4040, 1001, 4041) = true := by decide +kernel
theorem wm_157 : xchkM 157 (4046, 4044, 1001, 4045) = true := by decide +kernel
theorem wm_158 : xchkM 158 (4056, 4054, 1001, 4055) = true := by decide +kernel
theorem wm_159 : xchkM 159 (4064, 4062, 1001, 4063) = true := by decide +kernel
theorem wm_160 : xchkM 160 (4092, 4090, 1001, 4091) = true := by decide +kernel
theorem wm_161 : xchkM 161 (4105, 4103, 1001, 4104) = true := by decide +kernel
theorem wm_162 : xchkM 162 (4120, 4118, 1001, 4119) = true := by decide +kernel
theorem wm_163 : xchkM 163 (4128, 4127, 1001, 51) = true := by decide +kernel
theorem wm_164 : xchkM 164 (4171, 4170, 1001, 61) = true := by decide +kernel
theorem wm_165 : xchkM 165 (4205, 4204, 1001, 68) = true := by decide +kernel
theorem wm_166 : xchkM 166 (5043, 5041, 1001, 5042) = true := by decide +kernel
theorem wm_167 : xchkM 167 (5047, 5045, 1001, 5046) = true := by decide +kernel
theorem wm_168 : xchkM 168 (5058, 5057, 1001, 99999) = true := by decide +kernel
theorem wm_169 : xchkM 169 (5066, 5064, 1001, 5065) = true := by decide +kernel
theorem wm_170 : xchkM 170 (5070, 5069, 1001, 87) = true := by decide +kernel
theorem wm_171 : xchkM 171 (5078, 5077, 1001, 89) = true := by decide +kernel
theorem wm_172 : xchkM 172 (5136, 5134, 1001, 5135) = true := by decide +kernel
theorem wm_173 : xchkM 173 (5144, 5142, 1001, 5143) = true := by decide +kernel
theorem wm_174 : xchkM 174 (5148, 5147, 1001, 101) = true := by decide +kernel
theorem wm_175 : xchkM 175 (5156, 5154, 1001, 5155) = true := by decide +kernel
theorem wm_176 : xchkM 176 (5198, 5196, 1001, 5197) = true := by decide +kernel
theorem wm_177 : xchkM 177 (5228, 5226, 1001, 5227) = true := by decide +kernel
theorem wm_178 : xchkM 178 (5232, 5231, 1001, 118) = true := by decide +kernel
theorem wm_179 : xchkM 179 (5236, 5234, 1001, 5235) = true := by decide +kernel
theorem wm_180 : xchkM 180 (6013, 6012, 1001, 122) = true := by decide +kernel
theorem wm_181 : xchkM 181 (6026, 6024, 1001, 6025) = true := by decide +kernel
theorem wm_182 : xchkM 182 (6030, 6029, 1001, 125) = true := by decide +kernel
theorem wm_183 : xchkM 183 (6043, 6041, 1001, 6042) = true := by decide +kernel
theorem wm_184 : xchkM 184 (6051, 6049, 1001, 6050) = true := by decide +kernel
theorem wm_185 : xchkM 185 (6055, 6054, 1001, 129) = true := by decide +kernel
theorem wm_186 : xchkM 186 (6063, 6061, 1001, 6062) = true := by decide +kernel
theorem wm_187 : xchkM 187 (6131, 6129, 1001, 6130) = true := by decide +kernel
theorem wm_188 : xchkM 188 (6136, 6135, 1001, 99999) = true := by decide +kernel
theorem wm_189 : xchkM 189 (6140, 6138, 1014, 6139) = true := by decide +kernel
theorem wm_190 : xchkM 190 (6144, 6142, 1014, 6143) = true := by decide +kernel
theorem wm_191 : xchkM 191 (6149, 6147, 1014, 131) = true := by decide +kernel
theorem wm_192 : xchkM 192 (6153, 6151, 1014, 6152) = true := by decide +kernel
theorem wm_193 : xchkM 193 (6157, 6155, 1014, 6156) = true := by decide +kernel
theorem wm_194 : xchkM 194 (6161, 6159, 1014, 6160) = true := by decide +kernel
theorem wm_195 : xchkM 195 (6165, 6164, 1014, 132) = true := by decide +kernel
theorem wm_196 : xchkM 196 (6170, 6169, 1014, 133) = true := by decide +kernel
theorem wm_197 : xchkM 197 (6174, 6173, 1014, 134) = true := by decide +kernel
theorem wm_198 : xchkM 198 (6177, 6176, 1014, 99999) = true := by decide +kernel
theorem wm_199 : xchkM 199 (6180, 6179, 1014, 99999) = true := by decide +kernel
theorem wm_200 : xchkM 200 (6184, 6183, 1014, 135) = true := by decide +kernel
theorem wm_201 : xchkM 201 (6189, 6188, 1014, 136) = true := by decide +kernel
theorem wm_202 : xchkM 202 (6193, 6192, 1014, 137) = true := by decide +kernel
theorem wm_203 : xchkM 203 (6197, 6196, 1014, 138) = true := by decide +kernel
theorem wm_204 : xchkM 204 (6201, 6200, 1014, 139) = true := by decide +kernel
theorem wm_205 : xchkM 205 (6205, 6204, 1014, 140) = true := by decide +kernel
theorem wm_206 : xchkM 206 (6210, 6209, 1014, 141) = true := by decide +kernel
theorem wm_207 : xchkM 207 (6219, 6217, 1014, 6218) = true := by decide +kernel
theorem wm_208 : xchkM 208 (6223, 6222, 1014, 142) = true := by decide +kernel
theorem wm_209 : xchkM 209 (6227, 6226, 1014, 143) = true := by decide +kernel
theorem wm_210 : xchkM 210 (6231, 6230, 1014, 144) = true := by decide +kernel
theorem wm_211 : xchkM 211 (6235, 6234, 1014, 145) = true := by decide +kernel
theorem wm_212 : xchkM 212 (6239, 6238, 1014, 146) = true := by decide +kernel
theorem wm_213 : xchkM 213 (7003, 7001, 1014, 7002) = true := by decide +kernel
theorem wm_214 : xchkM 214 (7007, 7006, 1014, 147) = true := by decide +kernel
theorem wm_215 : xchkM 215 (7011, 7009, 1014, 7010) = true := by decide +kernel
theorem wm_216 : xchkM 216 (7015, 7014, 1014, 148) = true := by decide +kernel
theorem wm_217 : xchkM 217 (7019, 7018, 1014, 149) = true := by decide +kernel
theorem wm_218 : xchkM 218 (7023, 7021, 1014, 7022) = true := by decide +kernel
theorem wm_219 : xchkM 219 (7027, 7025, 1014, 7026) = true := by decide +kernel
theorem wm_220 : xchkM 220 (7031, 7030, 1014, 150) = true := by decide +kernel
theorem wm_221 : xchkM 221 (7035, 7034, 1014, 151) = true := by decide +kernel
theorem wm_222 : xchkM 222 (7039, 7038, 1014, 152) = true := by decide +kernel
theorem wm_223 : xchkM 223 (7043, 7042, 1014, 153) = true := by decide +kernel
theorem wm_224 : xchkM 224 (7047, 7045, 1014, 7046) = true := by decide +kernel
theorem wm_225 : xchkM 225 (7051, 7050, 1014, 154) = true := by decide +kernel
theorem wm_226 : xchkM 226 (7055, 7053, 1014, 7054) = true := by decide +kernel
theorem wm_227 : xchkM 227 (7059, 7057, 1014, 7058) = true := by decide +kernel
theorem wm_228 : xchkM 228 (7063, 7062, 1014, 155) = true := by decide +kernel
theorem wm_229 : xchkM 229 (7067, 7066, 1014, 156) = true := by decide +kernel
theorem wm_230 : xchkM 230 (7071, 7069, 1014, 7070) = true := by decide +kernel
theorem wm_231 : xchkM 231 (7075, 7074, 1014, 157) = true := by decide +kernel
theorem wm_232 : xchkM 232 (7079, 7077, 1014, 7078) = true := by decide +kernel
theorem wm_233 : xchkM 233 (7083, 7082, 1014, 158) = true := by decide +kernel
theorem wm_234 : xchkM 234 (7087, 7085, 1014, 7086) = true := by decide +kernel
theorem wm_235 : xchkM 235 (7091, 7089, 1014, 7090) = true := by decide +kernel
theorem wm_236 : xchkM 236 (7095, 7094, 1014, 159) = true := by decide +kernel
theorem wm_237 : xchkM 237 (7102, 7101, 1014, 160) = true := by decide +kernel
theorem wm_238 : xchkM 238 (7123, 7122, 1014, 99999) = true := by decide +kernel
theorem wm_239 : xchkM 239 (8139, 8137, 1014, 8138) = true := by decide +kernel
theorem wm_240 : xchkM 240 (8143, 8142, 1014, 161) = true := by decide +kernel
theorem wm_241 : xchkM 241 (8147, 8146, 1014, 162) = true := by decide +kernel
theorem wm_242 : xchkM 242 (8151, 8150, 1014, 163) = true := by decide +kernel
theorem wm_243 : xchkM 243 (8155, 8154, 1014, 164) = true := by decide +kernel
theorem wm_244 : xchkM 244 (8159, 8158, 1014, 165) = true := by decide +kernel
theorem wm_245 : xchkM 245 (8163, 8162, 1014, 166) = true := by decide +kernel
theorem wm_246 : xchkM 246 (8167, 8166, 1014, 167) = true := by decide +kernel
theorem wm_247 : xchkM 247 (8171, 8170, 1014, 168) = true := by decide +kernel
theorem wm_248 : xchkM 248 (8175, 8174, 1014, 169) = true := by decide +kernel
theorem wm_249 : xchkM 249 (8179, 8178, 1014, 170) = true := by decide +kernel
theorem wm_250 : xchkM 250 (8182, 8181, 1014, 99999) = true := by decide +kernel
theorem wm_251 : xchkM 251 (8186, 8185, 1014, 171) = true := by decide +kernel
theorem wm_252 : xchkM 252 (8190, 8188, 1014, 8189) = true := by decide +kernel
theorem wm_253 : xchkM 253 (8194, 8192, 1014, 8193) = true := by decide +kernel
theorem wm_254 : xchkM 254 (8200, 8198, 1014, 8199) = true := by decide +kernel
theorem wm_255 : xchkM 255 (8204, 8203, 1014, 172) = true := by decide +kernel
theorem wm_256 : xchkM 256 (8208, 8207, 1014, 173) = true := by decide +kernel
theorem wm_257 : xchkM 257 (8212, 8211, 1014, 174) = true := by decide +kernel
theorem wm_258 : xchkM 258 (8216, 8215, 1014, 175) = true := by decide +kernel
theorem wm_259 : xchkM 259 (8219, 8218, 1014, 99999) = true := by decide +kernel
theorem wm_260 : xchkM 260 (8223, 8222, 1014, 176) = true := by decide +kernel
theorem wm_261 : xchkM 261 (8227, 8226, 1014, 177) = true := by decide +kernel
theorem wm_262 : xchkM 262 (8230, 8229, 1014, 99999) = true := by decide +kernel
theorem wm_263 : xchkM 263 (8233, 8232, 1014, 99999) = true := by decide +kernel
theorem wm_264 : xchkM 264 (8236, 8235, 1014, 99999) = true := by decide +kernel
theorem wm_265 : xchkM 265 (9000, 8239, 1014, 178) = true := by decide +kernel
theorem wm_266 : xchkM 266 (9004, 9003, 1014, 179) = true := by decide +kernel
theorem wm_267 : xchkM 267 (9008, 9007, 1014, 180) = true := by decide +kernel
theorem wm_268 : xchkM 268 (9012, 9011, 1014, 181) = true := by decide +kernel
theorem wm_269 : xchkM 269 (9016, 9014, 1014, 9015) = true := by decide +kernel
theorem wm_270 : xchkM 270 (9020, 9018, 1014, 9019) = true := by decide +kernel
theorem wm_271 : xchkM 271 (9024, 9022, 1014, 9023) = true := by decide +kernel
theorem wm_272 : xchkM 272 (9028, 9027, 1014, 182) = true := by decide +kernel
theorem wm_273 : xchkM 273 (9031, 9030, 1014, 99999) = true := by decide +kernel
theorem wm_274 : xchkM 274 (9034, 9033, 1014, 99999) = true := by decide +kernel
theorem wm_275 : xchkM 275 (9038, 9036, 1014, 9037) = true := by decide +kernel
theorem wm_276 : xchkM 276 (9042, 9041, 1014, 183) = true := by decide +kernel
theorem wm_277 : xchkM 277 (9046, 9044, 1014, 9045) = true := by decide +kernel
theorem wm_278 : xchkM 278 (9050, 9049, 1014, 184) = true := by decide +kernel
theorem wm_279 : xchkM 279 (9054, 9053, 1014, 185) = true := by decide +kernel
theorem wm_280 : xchkM 280 (9058, 9057, 1014, 186) = true := by decide +kernel
theorem wm_281 : xchkM 281 (9062, 9061, 1014, 187) = true := by decide +kernel
theorem wm_282 : xchkM 282 (9066, 9065, 1014, 188) = true := by decide +kernel
theorem wm_283 : xchkM 283 (9069, 9068, 1014, 99999) = true := by decide +kernel
theorem wm_284 : xchkM 284 (9074, 9072, 1014, 9073) = true := by decide +kernel
theorem wm_285 : xchkM 285 (9078, 9076, 1014, 9077) = true := by decide +kernel
theorem wm_286 : xchkM 286 (9082, 9081, 1014, 189) = true := by decide +kernel
theorem wm_287 : xchkM 287 (9086, 9084, 1014, 9085) = true := by decide +kernel
theorem wm_288 : xchkM 288 (9090, 9089, 1014, 190) = true := by decide +kernel
theorem wm_289 : xchkM 289 (9094, 9093, 1014, 191) = true := by decide +kernel
theorem wm_290 : xchkM 290 (9098, 9096, 1014, 9097) = true := by decide +kernel
theorem wm_291 : xchkM 291 (9102, 9100, 1014, 9101) = true := by decide +kernel
theorem wm_292 : xchkM 292 (1089, 1088, 1004, 99999) = true := by decide +kernel
theorem wm_293 : xchkM 293 (3001, 3000, 1004, 99999) = true := by decide +kernel
theorem wm_294 : xchkM 294 (3175, 3174, 1020, 99999) = true := by decide +kernel
theorem wm_295 : xchkM 295 (1124, 1123, 1007, 99999) = true := by decide +kernel
def xMQ_0 : List (Nat × Nat × Nat × Nat × Nat) := [(0, 2112, 2111, 1013, 99999), (1, 4109, 4108, 1013, 48), (2, 4114, 4113, 1013, 49), (3, 5202, 5201, 1013, 112), (4, 5206, 5205, 1013, 113), (5, 5210, 5209, 1013, 114), (6, 5223, 5222, 1013, 117), (7, 6000, 5239, 1013, 119), (8, 6005, 6004, 1013, 120), (9, 6009, 6008, 1013, 121), (10, 6017, 6016, 1013, 123), (11, 6021, 6020, 1013, 124), (12, 1236, 1235, 1012, 99999), (13, 4184, 4183, 1012, 64), (14, 4190, 4189, 1012, 65), (15, 4196, 4195, 1012, 66), (16, 5001, 5000, 1012, 76), (17, 1221, 1220, 1010, 99999), (18, 5086, 5085, 1010, 91), (19, 5090, 5089, 1010, 92)]
theorem xMQ_0_ok : ∀ q ∈ xMQ_0, xchkM q.1 q.2 = true := List.forall_mem_cons.mpr ⟨wm_0, List.forall_mem_cons.mpr ⟨wm_1, List.forall_mem_cons.mpr ⟨wm_2, List.forall_mem_cons.mpr ⟨wm_3, List.forall_mem_cons.mpr ⟨wm_4, List.forall_mem_cons.mpr ⟨wm_5, List.forall_mem_cons.mpr ⟨wm_6, List.forall_mem_cons.mpr ⟨wm_7, List.forall_mem_cons.mpr ⟨wm_8, List.forall_mem_cons.mpr ⟨wm_9, List.forall_mem_cons.mpr ⟨wm_10, List.forall_mem_cons.mpr ⟨wm_11, List.forall_mem_cons.mpr ⟨wm_12, List.forall_mem_cons.mpr ⟨wm_13, List.forall_mem_cons.mpr ⟨wm_14, List.forall_mem_cons.mpr ⟨wm_15, List.forall_mem_cons.mpr ⟨wm_16, List.forall_mem_cons.mpr ⟨wm_17, List.forall_mem_cons.mpr ⟨wm_18, List.forall_mem_cons.mpr ⟨wm_19, fun _ h => absurd h List.not_mem_nil⟩⟩⟩⟩⟩⟩⟩⟩⟩⟩⟩⟩⟩⟩⟩⟩⟩⟩⟩⟩
theorem xMQ_0_cd : ∀ q ∈ xMQ_0, xat q.2.1 = some (xcw q.1) := List.forall_mem_cons.mpr ⟨wc_0, List.forall_mem_cons.mpr ⟨wc_1, List.forall_mem_cons.mpr ⟨wc_2, List.forall_mem_cons.mpr ⟨wc_3, List.forall_mem_cons.mpr ⟨wc_4, List.forall_mem_cons.mpr ⟨wc_5, List.forall_mem_cons.mpr ⟨wc_6, List.forall_mem_cons.mpr ⟨wc_7, List.forall_mem_cons.mpr ⟨wc_8, List.forall_mem_cons.mpr ⟨wc_9, List.forall_mem_cons.mpr ⟨wc_10, List.forall_mem_cons.mpr ⟨wc_11, List.forall_mem_cons.mpr ⟨wc_12, List.forall_mem_cons.mpr ⟨wc_13, List.forall_mem_cons.mpr ⟨wc_14, List.forall_mem_cons.mpr ⟨wc_15, List.forall_mem_cons.mpr ⟨wc_16, List.forall_mem_cons.mpr ⟨wc_17, List.forall_mem_cons.mpr ⟨wc_18, List.forall_mem_cons.mpr ⟨wc_19, fun _ h => absurd h List.not_mem_nil⟩⟩⟩⟩⟩⟩⟩⟩⟩⟩⟩⟩⟩⟩⟩⟩⟩⟩⟩⟩
def xMQ_1 : List (Nat × Nat × Nat × Nat × Nat) := [(20, 5095, 5094, 1010, 93), (21, 5101, 5100, 1010, 94), (22, 5105, 5104, 1010, 95), (23, 5108, 5107, 1010, 99999), (24, 5111, 5110, 1010, 99999), (25, 5116, 5115, 1010, 96), (26, 5123, 5122, 1010, 97), (27, 5128, 5127, 1010, 98), (28, 5132, 5131, 1010, 99), (29, 5140, 5139, 1010, 100), (30, 5152, 5151, 1010, 102), (31, 5164, 5163, 1010, 104), (32, 5169, 5168, 1010, 105), (33, 5173, 5172, 1010, 106), (34, 5177, 5176, 1010, 107), (35, 5181, 5180, 1010, 108), (36, 5185, 5184, 1010, 109), (37, 5190, 5189, 1010, 110), (38, 5194, 5193, 1010, 111), (39, 6034, 6033, 1010, 126)]
theorem xMQ_1_ok : ∀ q ∈ xMQ_1, xchkM q.1 q.2 = true := List.forall_mem_cons.mpr ⟨wm_20, List.forall_mem_cons.mpr ⟨wm_21, List.forall_mem_cons.mpr ⟨wm_22, List.forall_mem_cons.mpr ⟨wm_23, List.forall_mem_cons.mpr ⟨wm_24, List.forall_mem_cons.mpr ⟨wm_25, List.forall_mem_cons.mpr ⟨wm_26, List.forall_mem_cons.mpr ⟨wm_27, List.forall_mem_cons.mpr ⟨wm_28, List.forall_mem_cons.mpr ⟨wm_29, List.forall_mem_cons.mpr ⟨wm_30, List.forall_mem_cons.mpr ⟨wm_31, List.forall_mem_cons.mpr ⟨wm_32, List.forall_mem_cons.mpr ⟨wm_33, List.forall_mem_cons.mpr ⟨wm_34, List.forall_mem_cons.mpr ⟨wm_35, List.forall_mem_cons.mpr ⟨wm_36, List.forall_mem_cons.mpr ⟨wm_37, List.forall_mem_cons.mpr ⟨wm_38, List.forall_mem_cons.mpr ⟨wm_39, fun _ h => absurd h List.not_mem_nil⟩⟩⟩⟩⟩⟩⟩⟩⟩⟩⟩⟩⟩⟩⟩⟩⟩⟩⟩⟩
theorem xMQ_1_cd : ∀ q ∈ xMQ_1, xat q.2.1 = some (xcw q.1) := List.forall_mem_cons.mpr ⟨wc_20, List.forall_mem_cons.mpr ⟨wc_21, List.forall_mem_cons.mpr ⟨wc_22, List.forall_mem_cons.mpr ⟨wc_23, List.forall_mem_cons.mpr ⟨wc_24, List.forall_mem_cons.mpr ⟨wc_25, List.forall_mem_cons.mpr ⟨wc_26, List.forall_mem_cons.mpr ⟨wc_27, List.forall_mem_cons.mpr ⟨wc_28, List.forall_mem_cons.mpr ⟨wc_29, List.forall_mem_cons.mpr ⟨wc_30, List.forall_mem_cons.mpr ⟨wc_31, List.forall_mem_cons.mpr ⟨wc_32, List.forall_mem_cons.mpr ⟨wc_33, List.forall_mem_cons.mpr ⟨wc_34, List.forall_mem_cons.mpr ⟨wc_35, List.forall_mem_cons.mpr ⟨wc_36, List.forall_mem_cons.mpr ⟨wc_37, List.forall_mem_cons.mpr ⟨wc_38, List.forall_mem_cons.mpr ⟨wc_39, fun _ h => absurd h List.not_mem_nil⟩⟩⟩⟩⟩⟩⟩⟩⟩⟩⟩⟩⟩⟩⟩⟩⟩⟩⟩⟩
def xMQ_2 : List (Nat × Nat × Nat × Nat × Nat) := [(40, 6038, 6037, 1010, 127), (41, 1142, 1141, 1008, 99999), (42, 3190, 3189, 1008, 24), (43, 3194, 3193, 1008, 25), (44, 3198, 3197, 1008, 26), (45, 3216, 3215, 1008, 27), (46, 3221, 3220, 1008, 28), (47, 3225, 3224, 1008, 29), (48, 3229, 3228, 1008, 30), (49, 3233, 3232, 1008, 31), (50, 3236, 3235, 1008, 99999), (51, 4001, 4000, 1008, 32), (52, 4005, 4004, 1008, 33), (53, 4009, 4008, 1008, 34), (54, 4013, 4012, 1008, 35), (55, 4017, 4016, 1008, 36), (56, 4068, 4067, 1008, 40), (57, 4072, 4071, 1008, 41), (58, 4076, 4075, 1008, 42), (59, 4080, 4079, 1008, 43)]
theorem xMQ_2_ok : ∀ q ∈ xMQ_2, xchkM q.1 q.2 = true := List.forall_mem_cons.mpr ⟨wm_40, List.forall_mem_cons.mpr ⟨wm_41, List.forall_mem_cons.mpr ⟨wm_42, List.forall_mem_cons.mpr ⟨wm_43, List.forall_mem_cons.mpr ⟨wm_44, List.forall_mem_cons.mpr ⟨wm_45, List.forall_mem_cons.mpr ⟨wm_46, List.forall_mem_cons.mpr ⟨wm_47, List.forall_mem_cons.mpr ⟨wm_48, List.forall_mem_cons.mpr ⟨wm_49, List.forall_mem_cons.mpr ⟨wm_50, List.forall_mem_cons.mpr ⟨wm_51, List.forall_mem_cons.mpr ⟨wm_52, List.forall_mem_cons.mpr ⟨wm_53, List.forall_mem_cons.mpr ⟨wm_54, List.forall_mem_cons.mpr ⟨wm_55, List.forall_mem_cons.mpr ⟨wm_56, List.forall_mem_cons.mpr ⟨wm_57, List.forall_mem_cons.mpr ⟨wm_58, List.forall_mem_cons.mpr ⟨wm_59, fun _ h => absurd h List.not_mem_nil⟩⟩⟩⟩⟩⟩⟩⟩⟩⟩⟩⟩⟩⟩⟩⟩⟩⟩⟩⟩
theorem xMQ_2_cd : ∀ q ∈ xMQ_2, xat q.2.1 = some (xcw q.1) := List.forall_mem_cons.mpr ⟨wc_40, List.forall_mem_cons.mpr ⟨wc_41, List.forall_mem_cons.mpr ⟨wc_42, List.forall_mem_cons.mpr ⟨wc_43, List.forall_mem_cons.mpr ⟨wc_44, List.forall_mem_cons.mpr ⟨wc_45, List.forall_mem_cons.mpr ⟨wc_46, List.forall_mem_cons.mpr ⟨wc_47, List.forall_mem_cons.mpr ⟨wc_48, List.forall_mem_cons.mpr ⟨wc_49, List.forall_mem_cons.mpr ⟨wc_50, List.forall_mem_cons.mpr ⟨wc_51, List.forall_mem_cons.mpr ⟨wc_52, List.forall_mem_cons.mpr ⟨wc_53, List.forall_mem_cons.mpr ⟨wc_54, List.forall_mem_cons.mpr ⟨wc_55, List.forall_mem_cons.mpr ⟨wc_56, List.forall_mem_cons.mpr ⟨wc_57, List.forall_mem_cons.mpr ⟨wc_58, List.forall_mem_cons.mpr ⟨wc_59, fun _ h => absurd h List.not_mem_nil⟩⟩⟩⟩⟩⟩⟩⟩⟩⟩⟩⟩⟩⟩⟩⟩⟩⟩⟩⟩
def xMQ_3 : List (Nat × Nat × Nat × Nat × Nat) := [(60, 4084, 4083, 1008, 44), (61, 4088, 4087, 1008, 45), (62, 4096, 4095, 1008, 46), (63, 4100, 4099, 1008, 47), (64, 4201, 4200, 1008, 67), (65, 5052, 5051, 1008, 86), (66, 5215, 5214, 1008, 115), (67, 5219, 5218, 1008, 116), (68, 1227, 1226, 1011, 99999), (69, 4136, 4135, 1011, 53), (70, 4175, 4174, 1011, 62), (71, 4179, 4178, 1011, 63), (72, 4209, 4208, 1011, 69), (73, 4213, 4212, 1011, 70), (74, 4217, 4216, 1011, 71), (75, 4222, 4221, 1011, 72), (76, 4226, 4225, 1011, 73), (77, 4229, 4228, 1011, 99999), (78, 4233, 4232, 1011, 74), (79, 4237, 4236, 1011, 75)]
theorem xMQ_3_ok : ∀ q ∈ xMQ_3, xchkM q.1 q.2 = true := List.forall_mem_cons.mpr ⟨wm_60, List.forall_mem_cons.mpr ⟨wm_61, List.forall_mem_cons.mpr ⟨wm_62, List.forall_mem_cons.mpr ⟨wm_63, List.forall_mem_cons.mpr ⟨wm_64, List.forall_mem_cons.mpr ⟨wm_65, List.forall_mem_cons.mpr ⟨wm_66, List.forall_mem_cons.mpr ⟨wm_67, List.forall_mem_cons.mpr ⟨wm_68, List.forall_mem_cons.mpr ⟨wm_69, List.forall_mem_cons.mpr ⟨wm_70, List.forall_mem_cons.mpr ⟨wm_71, List.forall_mem_cons.mpr ⟨wm_72, List.forall_mem_cons.mpr ⟨wm_73, List.forall_mem_cons.mpr ⟨wm_74, List.forall_mem_cons.mpr ⟨wm_75, List.forall_mem_cons.mpr ⟨wm_76, List.forall_mem_cons.mpr ⟨wm_77, List.forall_mem_cons.mpr ⟨wm_78, List.forall_mem_cons.mpr ⟨wm_79, fun _ h => absurd h List.not_mem_nil⟩⟩⟩⟩⟩⟩⟩⟩⟩⟩⟩⟩⟩⟩⟩⟩⟩⟩⟩⟩
theorem xMQ_3_cd : ∀ q ∈ xMQ_3, xat q.2.1 = some (xcw q.1) := List.forall_mem_cons.mpr ⟨wc_60, List.forall_mem_cons.mpr ⟨wc_61, List.forall_mem_cons.mpr ⟨wc_62, List.forall_mem_cons.mpr ⟨wc_63, List.forall_mem_cons.mpr ⟨wc_64, List.forall_mem_cons.mpr ⟨wc_65, List.forall_mem_cons.mpr ⟨wc_66, List.forall_mem_cons.mpr ⟨wc_67, List.forall_mem_cons.mpr ⟨wc_68, List.forall_mem_cons.mpr ⟨wc_69, List.forall_mem_cons.mpr ⟨wc_70, List.forall_mem_cons.mpr ⟨wc_71, List.forall_mem_cons.mpr ⟨wc_72, List.forall_mem_cons.mpr ⟨wc_73, List.forall_mem_cons.mpr ⟨wc_74, List.forall_mem_cons.mpr ⟨wc_75, List.forall_mem_cons.mpr ⟨wc_76, List.forall_mem_cons.mpr ⟨wc_77, List.forall_mem_cons.mpr ⟨wc_78, List.forall_mem_cons.mpr ⟨wc_79, fun _ h => absurd h List.not_mem_nil⟩⟩⟩⟩⟩⟩⟩⟩⟩⟩⟩⟩⟩⟩⟩⟩⟩⟩⟩⟩
def xMQ_4 : List (Nat × Nat × Nat × Nat × Nat) := [(80, 5005, 5004, 1011, 77), (81, 5009, 5008, 1011, 78), (82, 5013, 5012, 1011, 79), (83, 5017, 5016, 1011, 80), (84, 5021, 5020, 1011, 81), (85, 5029, 5028, 1011, 83), (86, 5034, 5033, 1011, 84), (87, 5038, 5037, 1011, 85), (88, 5074, 5073, 1011, 88), (89, 5160, 5159, 1011, 103), (90, 6047, 6046, 1011, 128), (91, 1037, 1036, 1002, 99999), (92, 2202, 2201, 1002, 1), (93, 2214, 2213, 1002, 2), (94, 4050, 4049, 1002, 38), (95, 4124, 4123, 1002, 50), (96, 5025, 5024, 1002, 82), (97, 1053, 1052, 1003, 99999), (98, 2218, 2217, 1003, 3), (99, 2225, 2224, 1003, 4)]
theorem xMQ_4_ok : ∀ q ∈ xMQ_4, xchkM q.1 q.2 = true := List.forall_mem_cons.mpr ⟨wm_80, List.forall_mem_cons.mpr ⟨wm_81, List.forall_mem_cons.mpr ⟨wm_82, List.forall_mem_cons.mpr ⟨wm_83, List.forall_mem_cons.mpr ⟨wm_84, List.forall_mem_cons.mpr ⟨wm_85, List.forall_mem_cons.mpr ⟨wm_86, List.forall_mem_cons.mpr ⟨wm_87, List.forall_mem_cons.mpr ⟨wm_88, List.forall_mem_cons.mpr ⟨wm_89, List.forall_mem_cons.mpr ⟨wm_90, List.forall_mem_cons.mpr ⟨wm_91, List.forall_mem_cons.mpr ⟨wm_92, List.forall_mem_cons.mpr ⟨wm_93, List.forall_mem_cons.mpr ⟨wm_94, List.forall_mem_cons.mpr ⟨wm_95, List.forall_mem_cons.mpr ⟨wm_96, List.forall_mem_cons.mpr ⟨wm_97, List.forall_mem_cons.mpr ⟨wm_98, List.forall_mem_cons.mpr ⟨wm_99, fun _ h => absurd h List.not_mem_nil⟩⟩⟩⟩⟩⟩⟩⟩⟩⟩⟩⟩⟩⟩⟩⟩⟩⟩⟩⟩
theorem xMQ_4_cd : ∀ q ∈ xMQ_4, xat q.2.1 = some (xcw q.1) := List.forall_mem_cons.mpr ⟨wc_80, List.forall_mem_cons.mpr ⟨wc_81, List.forall_mem_cons.mpr ⟨wc_82, List.forall_mem_cons.mpr ⟨wc_83, List.forall_mem_cons.mpr ⟨wc_84, List.forall_mem_cons.mpr ⟨wc_85, List.forall_mem_cons.mpr ⟨wc_86, List.forall_mem_cons.mpr ⟨wc_87, List.forall_mem_cons.mpr ⟨wc_88, List.forall_mem_cons.mpr ⟨wc_89, List.forall_mem_cons.mpr ⟨wc_90, List.forall_mem_cons.mpr ⟨wc_91, List.forall_mem_cons.mpr ⟨wc_92, List.forall_mem_cons.mpr ⟨wc_93, List.forall_mem_cons.mpr ⟨wc_94, List.forall_mem_cons.mpr ⟨wc_95, List.forall_mem_cons.mpr ⟨wc_96, List.forall_mem_cons.mpr ⟨wc_97, List.forall_mem_cons.mpr ⟨wc_98, List.forall_mem_cons.mpr ⟨wc_99, fun _ h => absurd h List.not_mem_nil⟩⟩⟩⟩⟩⟩⟩⟩⟩⟩⟩⟩⟩⟩⟩⟩⟩⟩⟩⟩
def xMQ_5 : List (Nat × Nat × Nat × Nat × Nat) := [(100, 2234, 2233, 1003, 99999), (101, 3014, 3013, 1003, 5), (102, 3018, 3017, 1003, 6), (103, 3070, 3069, 1003, 7), (104, 3074, 3073, 1003, 8), (105, 3078, 3077, 1003, 9), (106, 3082, 3081, 1003, 10), (107, 3120, 3119, 1003, 14), (108, 3143, 3142, 1003, 16), (109, 1086, 1085, 1005, 99999), (110, 3007, 3006, 1005, 99999), (111, 3088, 3087, 1005, 99999), (112, 3092, 3091, 1005, 11), (113, 3097, 3096, 1005, 99999), (114, 3102, 3101, 1005, 99999), (115, 3106, 3105, 1005, 12), (116, 3159, 3158, 1005, 20), (117, 3163, 3162, 1005, 21), (118, 3167, 3166, 1005, 99999), (119, 3171, 3170, 1005, 22)]
theorem xMQ_5_ok : ∀ q ∈ xMQ_5, xchkM q.1 q.2 = true := List.forall_mem_cons.mpr ⟨wm_100, List.forall_mem_cons.mpr ⟨wm_101, List.forall_mem_cons.mpr ⟨wm_102, List.forall_mem_cons.mpr ⟨wm_103, List.forall_mem_cons.mpr ⟨wm_104, List.forall_mem_cons.mpr ⟨wm_105, List.forall_mem_cons.mpr ⟨wm_106, List.forall_mem_cons.mpr ⟨wm_107, List.forall_mem_cons.mpr ⟨wm_108, List.forall_mem_cons.mpr ⟨wm_109, List.forall_mem_cons.mpr ⟨wm_110, List.forall_mem_cons.mpr ⟨wm_111, List.forall_mem_cons.mpr ⟨wm_112, List.forall_mem_cons.mpr ⟨wm_113, List.forall_mem_cons.mpr ⟨wm_114, List.forall_mem_cons.mpr ⟨wm_115, List.forall_mem_cons.mpr ⟨wm_116, List.forall_mem_cons.mpr ⟨wm_117, List.forall_mem_cons.mpr ⟨wm_118, List.forall_mem_cons.mpr ⟨wm_119, fun _ h => absurd h List.not_mem_nil⟩⟩⟩⟩⟩⟩⟩⟩⟩⟩⟩⟩⟩⟩⟩⟩⟩⟩⟩⟩
theorem xMQ_5_cd : ∀ q ∈ xMQ_5, xat q.2.1 = some (xcw q.1) := List.forall_mem_cons.mpr ⟨wc_100, List.forall_mem_cons.mpr ⟨wc_101, List.forall_mem_cons.mpr ⟨wc_102, List.forall_mem_cons.mpr ⟨wc_103, List.forall_mem_cons.mpr ⟨wc_104, List.forall_mem_cons.mpr ⟨wc_105, List.forall_mem_cons.mpr ⟨wc_106, List.forall_mem_cons.mpr ⟨wc_107, List.forall_mem_cons.mpr ⟨wc_108, List.forall_mem_cons.mpr ⟨wc_109, List.forall_mem_cons.mpr ⟨wc_110, List.forall_mem_cons.mpr ⟨wc_111, List.forall_mem_cons.mpr ⟨wc_112, List.forall_mem_cons.mpr ⟨wc_113, List.forall_mem_cons.mpr ⟨wc_114, List.forall_mem_cons.mpr ⟨wc_115, List.forall_mem_cons.mpr ⟨wc_116, List.forall_mem_cons.mpr ⟨wc_117, List.forall_mem_cons.mpr ⟨wc_118, List.forall_mem_cons.mpr ⟨wc_119, fun _ h => absurd h List.not_mem_nil⟩⟩⟩⟩⟩⟩⟩⟩⟩⟩⟩⟩⟩⟩⟩⟩⟩⟩⟩⟩
def xMQ_6 : List (Nat × Nat × Nat × Nat × Nat) := [(120, 4060, 4059, 1005, 39), (121, 1200, 1199, 1009, 99999), (122, 3151, 3150, 1009, 18), (123, 3155, 3154, 1009, 19), (124, 4029, 4028, 1009, 37), (125, 4141, 4140, 1009, 54), (126, 1116, 1115, 1006, 99999), (127, 1121, 1120, 1006, 0), (128, 3010, 3009, 1006, 99999), (129, 3111, 3110, 1006, 99999), (130, 3115, 3114, 1006, 13), (131, 3126, 3125, 1006, 15), (132, 3132, 3131, 1006, 99999), (133, 4132, 4131, 1006, 52), (134, 4147, 4146, 1006, 55), (135, 4151, 4150, 1006, 56), (136, 4155, 4154, 1006, 57), (137, 4159, 4158, 1006, 58), (138, 4163, 4162, 1006, 59), (139, 4167, 4166, 1006, 60)]
theorem xMQ_6_ok : ∀ q ∈ xMQ_6, xchkM q.1 q.2 = true := List.forall_mem_cons.mpr ⟨wm_120, List.forall_mem_cons.mpr ⟨wm_121, List.forall_mem_cons.mpr ⟨wm_122, List.forall_mem_cons.mpr ⟨wm_123, List.forall_mem_cons.mpr ⟨wm_124, List.forall_mem_cons.mpr ⟨wm_125, List.forall_mem_cons.mpr ⟨wm_126, List.forall_mem_cons.mpr ⟨wm_127, List.forall_mem_cons.mpr ⟨wm_128, List.forall_mem_cons.mpr ⟨wm_129, List.forall_mem_cons.mpr ⟨wm_130, List.forall_mem_cons.mpr ⟨wm_131, List.forall_mem_cons.mpr ⟨wm_132, List.forall_mem_cons.mpr ⟨wm_133, List.forall_mem_cons.mpr ⟨wm_134, List.forall_mem_cons.mpr ⟨wm_135, List.forall_mem_cons.mpr ⟨wm_136, List.forall_mem_cons.mpr ⟨wm_137, List.forall_mem_cons.mpr ⟨wm_138, List.forall_mem_cons.mpr ⟨wm_139, fun _ h => absurd h List.not_mem_nil⟩⟩⟩⟩⟩⟩⟩⟩⟩⟩⟩⟩⟩⟩⟩⟩⟩⟩⟩⟩
theorem xMQ_6_cd : ∀ q ∈ xMQ_6, xat q.2.1 = some (xcw q.1) := List.forall_mem_cons.mpr ⟨wc_120, List.forall_mem_cons.mpr ⟨wc_121, List.forall_mem_cons.mpr ⟨wc_122, List.forall_mem_cons.mpr ⟨wc_123, List.forall_mem_cons.mpr ⟨wc_124, List.forall_mem_cons.mpr ⟨wc_125, List.forall_mem_cons.mpr ⟨wc_126, List.forall_mem_cons.mpr ⟨wc_127, List.forall_mem_cons.mpr ⟨wc_128, List.forall_mem_cons.mpr ⟨wc_129, List.forall_mem_cons.mpr ⟨wc_130, List.forall_mem_cons.mpr ⟨wc_131, List.forall_mem_cons.mpr ⟨wc_132, List.forall_mem_cons.mpr ⟨wc_133, List.forall_mem_cons.mpr ⟨wc_134, List.forall_mem_cons.mpr ⟨wc_135, List.forall_mem_cons.mpr ⟨wc_136, List.forall_mem_cons.mpr ⟨wc_137, List.forall_mem_cons.mpr ⟨wc_138, List.forall_mem_cons.mpr ⟨wc_139, fun _ h => absurd h List.not_mem_nil⟩⟩⟩⟩⟩⟩⟩⟩⟩⟩⟩⟩⟩⟩⟩⟩⟩⟩⟩⟩
def xMQ_7 : List (Nat × Nat × Nat × Nat × Nat) := [(140, 5082, 5081, 1006, 90), (141, 1029, 1028, 1001, 99999), (142, 2198, 2196, 1001, 2197), (143, 2206, 2204, 1001, 2205), (144, 2210, 2208, 1001, 2209), (145, 2228, 2227, 1001, 99999), (146, 2231, 2230, 1001, 99999), (147, 3129, 3128, 1001, 99999), (148, 3147, 3146, 1001, 17), (149, 3185, 3184, 1001, 23), (150, 3204, 3202, 1001, 3203), (151, 3212, 3210, 1001, 3211), (152, 4021, 4019, 1001, 4020), (153, 4025, 4023, 1001, 4024), (154, 4034, 4032, 1001, 4033), (155, 4038, 4036, 1001, 4037), (156, 4042, 4040, 1001, 4041), (157, 4046, 4044, 1001, 4045), (158, 4056, 4054, 1001, 4055), (159, 4064, 4062, 1001, 4063)]
theorem xMQ_7_ok : ∀ q ∈ xMQ_7, xchkM q.1 q.2 = true := List.forall_mem_cons.mpr ⟨wm_140, List.forall_mem_cons.mpr ⟨wm_141, List.forall_mem_cons.mpr ⟨wm_142, List.forall_mem_cons.mpr ⟨wm_143, List.forall_mem_cons.mpr ⟨wm_144, List.forall_mem_cons.mpr ⟨wm_145, List.forall_mem_cons.mpr ⟨wm_146, List.forall_mem_cons.mpr ⟨wm_147, List.forall_mem_cons.mpr ⟨wm_148, List.forall_mem_cons.mpr ⟨wm_149, List.forall_mem_cons.mpr ⟨wm_150, List.forall_mem_cons.mpr ⟨wm_151, List.forall_mem_cons.mpr ⟨wm_152, List.forall_mem_cons.mpr ⟨wm_153, List.forall_mem_cons.mpr ⟨wm_154, List.forall_mem_cons.mpr ⟨wm_155, List.forall_mem_cons.mpr ⟨wm_156, List.forall_mem_cons.mpr ⟨wm_157, List.forall_mem_cons.mpr ⟨wm_158, List.forall_mem_cons.mpr ⟨wm_159, fun _ h => absurd h List.not_mem_nil⟩⟩⟩⟩⟩⟩⟩⟩⟩⟩⟩⟩⟩⟩⟩⟩⟩⟩⟩⟩
theorem xMQ_7_cd : ∀ q ∈ xMQ_7, xat q.2.1 = some (xcw q.1) := List.forall_mem_cons.mpr ⟨wc_140, List.forall_mem_cons.mpr ⟨wc_141, List.forall_mem_cons.mpr ⟨wc_142, List.forall_mem_cons.mpr ⟨wc_143, List.forall_mem_cons.mpr ⟨wc_144, List.forall_mem_cons.mpr ⟨wc_145, List.forall_mem_cons.mpr ⟨wc_146, List.forall_mem_cons.mpr ⟨wc_147, List.forall_mem_cons.mpr ⟨wc_148, List.forall_mem_cons.mpr ⟨wc_149, List.forall_mem_cons.mpr ⟨wc_150, List.forall_mem_cons.mpr ⟨wc_151, List.forall_mem_cons.mpr ⟨wc_152, List.forall_mem_cons.mpr ⟨wc_153, List.forall_mem_cons.mpr ⟨wc_154, List.forall_mem_cons.mpr ⟨wc_155, List.forall_mem_cons.mpr ⟨wc_156, List.forall_mem_cons.mpr ⟨wc_157, List.forall_mem_cons.mpr ⟨wc_158, List.forall_mem_cons.mpr ⟨wc_159, fun _ h => absurd h List.not_mem_nil⟩⟩⟩⟩⟩⟩⟩⟩⟩⟩⟩⟩⟩⟩⟩⟩⟩⟩⟩⟩
def xMQ_8 : List (Nat × Nat × Nat × Nat × Nat) := [(160, 4092, 4090, 1001, 4091), (161, 4105, 4103, 1001, 4104), (162, 4120, 4118, 1001, 4119), (163, 4128, 4127, 1001, 51), (164, 4171, 4170, 1001, 61), (165, 4205, 4204, 1001, 68), (166, 5043, 5041, 1001, 5042), (167, 5047, 5045, 1001, 5046), (168, 5058, 5057, 1001, 99999), (169, 5066, 5064, 1001, 5065), (170, 5070, 5069, 1001, 87), (171, 5078, 5077, 1001, 89), (172, 5136, 5134, 1001, 5135), (173, 5144, 5142, 1001, 5143), (174, 5148, 5147, 1001, 101), (175, 5156, 5154, 1001, 5155), (176, 5198, 5196, 1001, 5197), (177, 5228, 5226, 1001, 5227), (178, 5232, 5231, 1001, 118), (179, 5236, 5234, 1001, 5235)]
theorem xMQ_8_ok : ∀ q ∈ xMQ_8, xchkM q.1 q.2 = true := List.forall_mem_cons.mpr ⟨wm_160, List.forall_mem_cons.mpr ⟨wm_161, List.forall_mem_cons.mpr ⟨wm_162, List.forall_mem_cons.mpr ⟨wm_163, List.forall_mem_cons.mpr ⟨wm_164, List.forall_mem_cons.mpr ⟨wm_165, List.forall_mem_cons.mpr ⟨wm_166, List.forall_mem_cons.mpr ⟨wm_167, List.forall_mem_cons.mpr ⟨wm_168, List.forall_mem_cons.mpr ⟨wm_169, List.forall_mem_cons.mpr ⟨wm_170, List.forall_mem_cons.mpr ⟨wm_171, List.forall_mem_cons.mpr ⟨wm_172, List.forall_mem_cons.mpr ⟨wm_173, List.forall_mem_cons.mpr ⟨wm_174, List.forall_mem_cons.mpr ⟨wm_175, List.forall_mem_cons.mpr ⟨wm_176, List.forall_mem_cons.mpr ⟨wm_177, List.forall_mem_cons.mpr ⟨wm_178, List.forall_mem_cons.mpr ⟨wm_179, fun _ h => absurd h List.not_mem_nil⟩⟩⟩⟩⟩⟩⟩⟩⟩⟩⟩⟩⟩⟩⟩⟩⟩⟩⟩⟩
theorem xMQ_8_cd : ∀ q ∈ xMQ_8, xat q.2.1 = some (xcw q.1) := List.forall_mem_cons.mpr ⟨wc_160, List.forall_mem_cons.mpr ⟨wc_161, List.forall_mem_cons.mpr ⟨wc_162, List.forall_mem_cons.mpr ⟨wc_163, List.forall_mem_cons.mpr ⟨wc_164, List.forall_mem_cons.mpr ⟨wc_165, List.forall_mem_cons.mpr ⟨wc_166, List.forall_mem_cons.mpr ⟨wc_167, List.forall_mem_cons.mpr ⟨wc_168, List.forall_mem_cons.mpr ⟨wc_169, List.forall_mem_cons.mpr ⟨wc_170, List.forall_mem_cons.mpr ⟨wc_171, List.forall_mem_cons.mpr ⟨wc_172, List.forall_mem_cons.mpr ⟨wc_173, List.forall_mem_cons.mpr ⟨wc_174, List.forall_mem_cons.mpr ⟨wc_175, List.forall_mem_cons.mpr ⟨wc_176, List.forall_mem_cons.mpr ⟨wc_177, List.forall_mem_cons.mpr ⟨wc_178, List.forall_mem_cons.mpr ⟨wc_179, fun _ h => absurd h List.not_mem_nil⟩⟩⟩⟩⟩⟩⟩⟩⟩⟩⟩⟩⟩⟩⟩⟩⟩⟩⟩⟩
def xMQ_9 : List (Nat × Nat × Nat × Nat × Nat) := [(180, 6013, 6012, 1001, 122), (181, 6026, 6024, 1001, 6025), (182, 6030, 6029, 1001, 125), (183, 6043, 6041, 1001, 6042), (184, 6051, 6049, 1001, 6050), (185, 6055, 6054, 1001, 129), (186, 6063, 6061, 1001, 6062), (187, 6131, 6129, 1001, 6130), (188, 6136, 6135, 1001, 99999), (189, 6140, 6138, 1014, 6139), (190, 6144, 6142, 1014, 6143), (191, 6149, 6147, 1014, 131), (192, 6153, 6151, 1014, 6152), (193, 6157, 6155, 1014, 6156), (194, 6161, 6159, 1014, 6160), (195, 6165, 6164, 1014, 132), (196, 6170, 6169, 1014, 133), (197, 6174, 6173, 1014, 134), (198, 6177, 6176, 1014, 99999), (199, 6180, 6179, 1014, 99999)]
theorem xMQ_9_ok : ∀ q ∈ xMQ_9, xchkM q.1 q.2 = true := List.forall_mem_cons.mpr ⟨wm_180, List.forall_mem_cons.mpr ⟨wm_181, List.forall_mem_cons.mpr ⟨wm_182, List.forall_mem_cons.mpr ⟨wm_183, List.forall_mem_cons.mpr ⟨wm_184, List.forall_mem_cons.mpr ⟨wm_185, List.forall_mem_cons.mpr ⟨wm_186, List.forall_mem_cons.mpr ⟨wm_187, List.forall_mem_cons.mpr ⟨wm_188, List.forall_mem_cons.mpr ⟨wm_189, List.forall_mem_cons.mpr ⟨wm_190, List.forall_mem_cons.mpr ⟨wm_191, List.forall_mem_cons.mpr ⟨wm_192, List.forall_mem_cons.mpr ⟨wm_193, List.forall_mem_cons.mpr ⟨wm_194, List.forall_mem_cons.mpr ⟨wm_195, List.forall_mem_cons.mpr ⟨wm_196, List.forall_mem_cons.mpr ⟨wm_197, List.forall_mem_cons.mpr ⟨wm_198, List.forall_mem_cons.mpr ⟨wm_199, fun _ h => absurd h List.not_mem_nil⟩⟩⟩⟩⟩⟩⟩⟩⟩⟩⟩⟩⟩⟩⟩⟩⟩⟩⟩⟩
theorem xMQ_9_cd : ∀ q ∈ xMQ_9, xat q.2.1 = some (xcw q.1) := List.forall_mem_cons.mpr ⟨wc_180, List.forall_mem_cons.mpr ⟨wc_181, List.forall_mem_cons.mpr ⟨wc_182, List.forall_mem_cons.mpr ⟨wc_183, List.forall_mem_cons.mpr ⟨wc_184, List.forall_mem_cons.mpr ⟨wc_185, List.forall_mem_cons.mpr ⟨wc_186, List.forall_mem_cons.mpr ⟨wc_187, List.forall_mem_cons.mpr ⟨wc_188, List.forall_mem_cons.mpr ⟨wc_189, List.forall_mem_cons.mpr ⟨wc_190, List.forall_mem_cons.mpr ⟨wc_191, List.forall_mem_cons.mpr ⟨wc_192, List.forall_mem_cons.mpr ⟨wc_193, List.forall_mem_cons.mpr ⟨wc_194, List.forall_mem_cons.mpr ⟨wc_195, List.forall_mem_cons.mpr ⟨wc_196, List.forall_mem_cons.mpr ⟨wc_197, List.forall_mem_cons.mpr ⟨wc_198, List.forall_mem_cons.mpr ⟨wc_199, fun _ h => absurd h List.not_mem_nil⟩⟩⟩⟩⟩⟩⟩⟩⟩⟩⟩⟩⟩⟩⟩⟩⟩⟩⟩⟩
def xMQ_10 : List (Nat × Nat × Nat × Nat × Nat) := [(200, 6184, 6183, 1014, 135), (201, 6189, 6188, 1014, 136), (202, 6193, 6192, 1014, 137), (203, 6197, 6196, 1014, 138), (204, 6201, 6200, 1014, 139), (205, 6205, 6204, 1014, 140), (206, 6210, 6209, 1014, 141), (207, 6219, 6217, 1014, 6218), (208, 6223, 6222, 1014, 142), (209, 6227, 6226, 1014, 143), (210, 6231, 6230, 1014, 144), (211, 6235, 6234, 1014, 145), (212, 6239, 6238, 1014, 146), (213, 7003, 7001, 1014, 7002), (214, 7007, 7006, 1014, 147), (215, 7011, 7009, 1014, 7010), (216, 7015, 7014, 1014, 148), (217, 7019, 7018, 1014, 149), (218, 7023, 7021, 1014, 7022), (219, 7027, 7025, 1014, 7026)]
theorem xMQ_10_ok : ∀ q ∈ xMQ_10, xchkM q.1 q.2 = true := List.forall_mem_cons.mpr ⟨wm_200, List.forall_mem_cons.mpr ⟨wm_201, List.forall_mem_cons.mpr ⟨wm_202, List.forall_mem_cons.mpr ⟨wm_203, List.forall_mem_cons.mpr ⟨wm_204, List.forall_mem_cons.mpr ⟨wm_205, List.forall_mem_cons.mpr ⟨wm_206, List.forall_mem_cons.mpr ⟨wm_207, List.forall_mem_cons.mpr ⟨wm_208, List.forall_mem_cons.mpr ⟨wm_209, List.forall_mem_cons.mpr ⟨wm_210, List.forall_mem_cons.mpr ⟨wm_211, List.forall_mem_cons.mpr ⟨wm_212, List.forall_mem_cons.mpr ⟨wm_213, List.forall_mem_cons.mpr ⟨wm_214, List.forall_mem_cons.mpr ⟨wm_215, List.forall_mem_cons.mpr ⟨wm_216, List.forall_mem_cons.mpr ⟨wm_217, List.forall_mem_cons.mpr ⟨wm_218, List.forall_mem_cons.mpr ⟨wm_219, fun _ h => absurd h List.not_mem_nil⟩⟩⟩⟩⟩⟩⟩⟩⟩⟩⟩⟩⟩⟩⟩⟩⟩⟩⟩⟩
theorem xMQ_10_cd : ∀ q ∈ xMQ_10, xat q.2.1 = some (xcw q.1) := List.forall_mem_cons.mpr ⟨wc_200, List.forall_mem_cons.mpr ⟨wc_201, List.forall_mem_cons.mpr ⟨wc_202, List.forall_mem_cons.mpr ⟨wc_203, List.forall_mem_cons.mpr ⟨wc_204, List.forall_mem_cons.mpr ⟨wc_205, List.forall_mem_cons.mpr ⟨wc_206, List.forall_mem_cons.mpr ⟨wc_207, List.forall_mem_cons.mpr ⟨wc_208, List.forall_mem_cons.mpr ⟨wc_209, List.forall_mem_cons.mpr ⟨wc_210, List.forall_mem_cons.mpr ⟨wc_211, List.forall_mem_cons.mpr ⟨wc_212, List.forall_mem_cons.mpr ⟨wc_213, List.forall_mem_cons.mpr ⟨wc_214, List.forall_mem_cons.mpr ⟨wc_215, List.forall_mem_cons.mpr ⟨wc_216, List.forall_mem_cons.mpr ⟨wc_217, List.forall_mem_cons.mpr ⟨wc_218, List.forall_mem_cons.mpr ⟨wc_219, fun _ h => absurd h List.not_mem_nil⟩⟩⟩⟩⟩⟩⟩⟩⟩⟩⟩⟩⟩⟩⟩⟩⟩⟩⟩⟩
def xMQ_11 : List (Nat × Nat × Nat × Nat × Nat) := [(220, 7031, 7030, 1014, 150), (221, 7035, 7034, 1014, 151), (222, 7039, 7038, 1014, 152), (223, 7043, 7042, 1014, 153), (224, 7047, 7045, 1014, 7046), (225, 7051, 7050, 1014, 154), (226, 7055, 7053, 1014, 7054), (227, 7059, 7057, 1014, 7058), (228, 7063, 7062, 1014, 155), (229, 7067, 7066, 1014, 156), (230, 7071, 7069, 1014, 7070), (231, 7075, 7074, 1014, 157), (232, 7079, 7077, 1014, 7078), (233, 7083, 7082, 1014, 158), (234, 7087, 7085, 1014, 7086), (235, 7091, 7089, 1014, 7090), (236, 7095, 7094, 1014, 159), (237, 7102, 7101, 1014, 160), (238, 7123, 7122, 1014, 99999), (239, 8139, 8137, 1014, 8138)]
theorem xMQ_11_ok : ∀ q ∈ xMQ_11, xchkM q.1 q.2 = true := List.forall_mem_cons.mpr ⟨wm_220, List.forall_mem_cons.mpr ⟨wm_221, List.forall_mem_cons.mpr ⟨wm_222, List.forall_mem_cons.mpr ⟨wm_223, List.forall_mem_cons.mpr ⟨wm_224, List.forall_mem_cons.mpr ⟨wm_225, List.forall_mem_cons.mpr ⟨wm_226, List.forall_mem_cons.mpr ⟨wm_227, List.forall_mem_cons.mpr ⟨wm_228, List.forall_mem_cons.mpr ⟨wm_229, List.forall_mem_cons.mpr ⟨wm_230, List.forall_mem_cons.mpr ⟨wm_231, List.forall_mem_cons.mpr ⟨wm_232, List.forall_mem_cons.mpr ⟨wm_233, List.forall_mem_cons.mpr ⟨wm_234, List.forall_mem_cons.mpr ⟨wm_235, List.forall_mem_cons.mpr ⟨wm_236, List.forall_mem_cons.mpr ⟨wm_237, List.forall_mem_cons.mpr ⟨wm_238, List.forall_mem_cons.mpr ⟨wm_239, fun _ h => absurd h List.not_mem_nil⟩⟩⟩⟩⟩⟩⟩⟩⟩⟩⟩⟩⟩⟩⟩⟩⟩⟩⟩⟩
theorem xMQ_11_cd : ∀ q ∈ xMQ_11, xat q.2.1 = some (xcw q.1) := List.forall_mem_cons.mpr ⟨wc_220, List.forall_mem_cons.mpr ⟨wc_221, List.forall_mem_cons.mpr ⟨wc_222, List.forall_mem_cons.mpr ⟨wc_223, List.forall_mem_cons.mpr ⟨wc_224, List.forall_mem_cons.mpr ⟨wc_225, List.forall_mem_cons.mpr ⟨wc_226, List.forall_mem_cons.mpr ⟨wc_227, List.forall_mem_cons.mpr ⟨wc_228, List.forall_mem_cons.mpr ⟨wc_229, List.forall_mem_cons.mpr ⟨wc_230, List.forall_mem_cons.mpr ⟨wc_231, List.forall_mem_cons.mpr ⟨wc_232, List.forall_mem_cons.mpr ⟨wc_233, List.forall_mem_cons.mpr ⟨wc_234, List.forall_mem_cons.mpr ⟨wc_235, List.forall_mem_cons.mpr ⟨wc_236, List.forall_mem_cons.mpr ⟨wc_237, List.forall_mem_cons.mpr ⟨wc_238, List.forall_mem_cons.mpr ⟨wc_239, fun _ h => absurd h List.not_mem_nil⟩⟩⟩⟩⟩⟩⟩⟩⟩⟩⟩⟩⟩⟩⟩⟩⟩⟩⟩⟩
def xMQ_12 : List (Nat × Nat × Nat × Nat × Nat) := [(240, 8143, 8142, 1014, 161), (241, 8147, 8146, 1014, 162), (242, 8151, 8150, 1014, 163), (243, 8155, 8154, 1014, 164), (244, 8159, 8158, 1014, 165), (245, 8163, 8162, 1014, 166), (246, 8167, 8166, 1014, 167), (247, 8171, 8170, 1014, 168), (248, 8175, 8174, 1014, 169), (249, 8179, 8178, 1014, 170), (250, 8182, 8181, 1014, 99999), (251, 8186, 8185, 1014, 171), (252, 8190, 8188, 1014, 8189), (253, 8194, 8192, 1014, 8193), (254, 8200, 8198, 1014, 8199), (255, 8204, 8203, 1014, 172), (256, 8208, 8207, 1014, 173), (257, 8212, 8211, 1014, 174), (258, 8216, 8215, 1014, 175), (259, 8219, 8218, 1014, 99999)]
theorem xMQ_12_ok : ∀ q ∈ xMQ_12, xchkM q.1 q.2 = true := List.forall_mem_cons.mpr ⟨wm_240, List.forall_mem_cons.mpr ⟨wm_241, List.forall_mem_cons.mpr ⟨wm_242, List.forall_mem_cons.mpr ⟨wm_243, List.forall_mem_cons.mpr ⟨wm_244, List.forall_mem_cons.mpr ⟨wm_245, List.forall_mem_cons.mpr ⟨wm_246, List.forall_mem_cons.mpr ⟨wm_247, List.forall_mem_cons.mpr ⟨wm_248, List.forall_mem_cons.mpr ⟨wm_249, List.forall_mem_cons.mpr ⟨wm_250, List.forall_mem_cons.mpr ⟨wm_251, List.forall_mem_cons.mpr ⟨wm_252, List.forall_mem_cons.mpr ⟨wm_253, List.forall_mem_cons.mpr ⟨wm_254, List.forall_mem_cons.mpr ⟨wm_255, List.forall_mem_cons.mpr ⟨wm_256, List.forall_mem_cons.mpr ⟨wm_257, List.forall_mem_cons.mpr ⟨wm_258, List.forall_mem_cons.mpr ⟨wm_259, fun _ h => absurd h List.not_mem_nil⟩⟩⟩⟩⟩⟩⟩⟩⟩⟩⟩⟩⟩⟩⟩⟩⟩⟩⟩⟩
theorem xMQ_12_cd : ∀ q ∈ xMQ_12, xat q.2.1 = some (xcw q.1) := List.forall_mem_cons.mpr ⟨wc_240, List.forall_mem_cons.mpr ⟨wc_241, List.forall_mem_cons.mpr ⟨wc_242, List.forall_mem_cons.mpr ⟨wc_243, List.forall_mem_cons.mpr ⟨wc_244, List.forall_mem_cons.mpr ⟨wc_245, List.forall_mem_cons.mpr ⟨wc_246, List.forall_mem_cons.mpr ⟨wc_247, List.forall_mem_cons.mpr ⟨wc_248, List.forall_mem_cons.mpr ⟨wc_249, List.forall_mem_cons.mpr ⟨wc_250, List.forall_mem_cons.mpr ⟨wc_251, List.forall_mem_cons.mpr ⟨wc_252, List.forall_mem_cons.mpr ⟨wc_253, List.forall_mem_cons.mpr ⟨wc_254, List.forall_mem_cons.mpr ⟨wc_255, List.forall_mem_cons.mpr ⟨wc_256, List.forall_mem_cons.mpr ⟨wc_257, List.forall_mem_cons.mpr ⟨wc_258, List.forall_mem_cons.mpr ⟨wc_259, fun _ h => absurd h List.not_mem_nil⟩⟩⟩⟩⟩⟩⟩⟩⟩⟩⟩⟩⟩⟩⟩⟩⟩⟩⟩⟩
def xMQ_13 : List (Nat × Nat × Nat × Nat × Nat) := [(260, 8223, 8222, 1014, 176), (261, 8227, 8226, 1014, 177), (262, 8230, 8229, 1014, 99999), (263, 8233, 8232, 1014, 99999), (264, 8236, 8235, 1014, 99999), (265, 9000, 8239, 1014, 178), (266, 9004, 9003, 1014, 179), (267, 9008, 9007, 1014, 180), (268, 9012, 9011, 1014, 181), (269, 9016, 9014, 1014, 9015), (270, 9020, 9018, 1014, 9019), (271, 9024, 9022, 1014, 9023), (272, 9028, 9027, 1014, 182), (273, 9031, 9030, 1014, 99999), (274, 9034, 9033, 1014, 99999), (275, 9038, 9036, 1014, 9037), (276, 9042, 9041, 1014, 183), (277, 9046, 9044, 1014, 9045), (278, 9050, 9049, 1014, 184), (279, 9054, 9053, 1014, 185)]
theorem xMQ_13_ok : ∀ q ∈ xMQ_13, xchkM q.1 q.2 = true := List.forall_mem_cons.mpr ⟨wm_260, List.forall_mem_cons.mpr ⟨wm_261, List.forall_mem_cons.mpr ⟨wm_262, List.forall_mem_cons.mpr ⟨wm_263, List.forall_mem_cons.mpr ⟨wm_264, List.forall_mem_cons.mpr ⟨wm_265, List.forall_mem_cons.mpr ⟨wm_266, List.forall_mem_cons.mpr ⟨wm_267, List.forall_mem_cons.mpr ⟨wm_268, List.forall_mem_cons.mpr ⟨wm_269, List.forall_mem_cons.mpr ⟨wm_270, List.forall_mem_cons.mpr ⟨wm_271, List.forall_mem_cons.mpr ⟨wm_272, List.forall_mem_cons.mpr ⟨wm_273, List.forall_mem_cons.mpr ⟨wm_274, List.forall_mem_cons.mpr ⟨wm_275, List.forall_mem_cons.mpr ⟨wm_276, List.forall_mem_cons.mpr ⟨wm_277, List.forall_mem_cons.mpr ⟨wm_278, List.forall_mem_cons.mpr ⟨wm_279, fun _ h => absurd h List.not_mem_nil⟩⟩⟩⟩⟩⟩⟩⟩⟩⟩⟩⟩⟩⟩⟩⟩⟩⟩⟩⟩
theorem xMQ_13_cd : ∀ q ∈ xMQ_13, xat q.2.1 = some (xcw q.1) := List.forall_mem_cons.mpr ⟨wc_260, List.forall_mem_cons.mpr ⟨wc_261, List.forall_mem_cons.mpr ⟨wc_262, List.forall_mem_cons.mpr ⟨wc_263, List.forall_mem_cons.mpr ⟨wc_264, List.forall_mem_cons.mpr ⟨wc_265, List.forall_mem_cons.mpr ⟨wc_266, List.forall_mem_cons.mpr ⟨wc_267, List.forall_mem_cons.mpr ⟨wc_268, List.forall_mem_cons.mpr ⟨wc_269, List.forall_mem_cons.mpr ⟨wc_270, List.forall_mem_cons.mpr ⟨wc_271, List.forall_mem_cons.mpr ⟨wc_272, List.forall_mem_cons.mpr ⟨wc_273, List.forall_mem_cons.mpr ⟨wc_274, List.forall_mem_cons.mpr ⟨wc_275, List.forall_mem_cons.mpr ⟨wc_276, List.forall_mem_cons.mpr ⟨wc_277, List.forall_mem_cons.mpr ⟨wc_278, List.forall_mem_cons.mpr ⟨wc_279, fun _ h => absurd h List.not_mem_nil⟩⟩⟩⟩⟩⟩⟩⟩⟩⟩⟩⟩⟩⟩⟩⟩⟩⟩⟩⟩
def xMQ_14 : List (Nat × Nat × Nat × Nat × Nat) := [(280, 9058, 9057, 1014, 186), (281, 9062, 9061, 1014, 187), (282, 9066, 9065, 1014, 188), (283, 9069, 9068, 1014, 99999), (284, 9074, 9072, 1014, 9073), (285, 9078, 9076, 1014, 9077), (286, 9082, 9081, 1014, 189), (287, 9086, 9084, 1014, 9085), (288, 9090, 9089, 1014, 190), (289, 9094, 9093, 1014, 191), (290, 9098, 9096, 1014, 9097), (291, 9102, 9100, 1014, 9101), (292, 1089, 1088, 1004, 99999), (293, 3001, 3000, 1004, 99999), (294, 3175, 3174, 1020, 99999), (295, 1124, 1123, 1007, 99999)]
theorem xMQ_14_ok : ∀ q ∈ xMQ_14, xchkM q.1 q.2 = true := List.forall_mem_cons.mpr ⟨wm_280, List.forall_mem_cons.mpr ⟨wm_281, List.forall_mem_cons.mpr ⟨wm_282, List.forall_mem_cons.mpr ⟨wm_283, List.forall_mem_cons.mpr ⟨wm_284, List.forall_mem_cons.mpr ⟨wm_285, List.forall_mem_cons.mpr ⟨wm_286, List.forall_mem_cons.mpr ⟨wm_287, List.forall_mem_cons.mpr ⟨wm_288, List.forall_mem_cons.mpr ⟨wm_289, List.forall_mem_cons.mpr ⟨wm_290, List.forall_mem_cons.mpr ⟨wm_291, List.forall_mem_cons.mpr ⟨wm_292, List.forall_mem_cons.mpr ⟨wm_293, List.forall_mem_cons.mpr ⟨wm_294, List.forall_mem_cons.mpr ⟨wm_295, fun _ h => absurd h List.not_mem_nil⟩⟩⟩⟩⟩⟩⟩⟩⟩⟩⟩⟩⟩⟩⟩⟩
theorem xMQ_14_cd : ∀ q ∈ xMQ_14, xat q.2.1 = some (xcw q.1) := List.forall_mem_cons.mpr ⟨wc_280, List.forall_mem_cons.mpr ⟨wc_281, List.forall_mem_cons.mpr ⟨wc_282, List.forall_mem_cons.mpr ⟨wc_283, List.forall_mem_cons.mpr ⟨wc_284, List.forall_mem_cons.mpr ⟨wc_285, List.forall_mem_cons.mpr ⟨wc_286, List.forall_mem_cons.mpr ⟨wc_287, List.forall_mem_cons.mpr ⟨wc_288, List.forall_mem_cons.mpr ⟨wc_289, List.forall_mem_cons.mpr ⟨wc_290, List.forall_mem_cons.mpr ⟨wc_291, List.forall_mem_cons.mpr ⟨wc_292, List.forall_mem_cons.mpr ⟨wc_293, List.forall_mem_cons.mpr ⟨wc_294, List.forall_mem_cons.mpr ⟨wc_295, fun _ h => absurd h List.not_mem_nil⟩⟩⟩⟩⟩⟩⟩⟩⟩⟩⟩⟩⟩⟩⟩⟩
def xMQ : List (Nat × Nat × Nat × Nat × Nat) := xMQ_0 ++ (xMQ_1 ++ (xMQ_2 ++ (xMQ_3 ++ (xMQ_4 ++ (xMQ_5 ++ (xMQ_6 ++ (xMQ_7 ++ (xMQ_8 ++ (xMQ_9 ++ (xMQ_10 ++ (xMQ_11 ++ (xMQ_12 ++ (xMQ_13 ++ (xMQ_14))))))))))))))
theorem xMQ_ok : ∀ q ∈ xMQ, xchkM q.1 q.2 = true := List.forall_mem_append.mpr ⟨xMQ_0_ok, List.forall_mem_append.mpr ⟨xMQ_1_ok, List.forall_mem_append.mpr ⟨xMQ_2_ok, List.forall_mem_append.mpr ⟨xMQ_3_ok, List.forall_mem_append.mpr ⟨xMQ_4_ok, List.forall_mem_append.mpr ⟨xMQ_5_ok, List.forall_mem_append.mpr ⟨xMQ_6_ok, List.forall_mem_append.mpr ⟨xMQ_7_ok, List.forall_mem_append.mpr ⟨xMQ_8_ok, List.forall_mem_append.mpr ⟨xMQ_9_ok, List.forall_mem_append.mpr ⟨xMQ_10_ok, List.forall_mem_append.mpr ⟨xMQ_11_ok, List.forall_mem_append.mpr ⟨xMQ_12_ok, List.forall_mem_append.mpr ⟨xMQ_13_ok, xMQ_14_ok⟩⟩⟩⟩⟩⟩⟩⟩⟩⟩⟩⟩⟩⟩
theorem xMQ_cd : ∀ q ∈ xMQ, xat q.2.1 = some (xcw q.1) := List.forall_mem_append.mpr ⟨xMQ_0_cd, List.forall_mem_append.mpr ⟨xMQ_1_cd, List.forall_mem_append.mpr ⟨xMQ_2_cd, List.forall_mem_append.mpr ⟨xMQ_3_cd, List.forall_mem_append.mpr ⟨xMQ_4_cd, List.forall_mem_append.mpr ⟨xMQ_5_cd, List.forall_mem_append.mpr ⟨xMQ_6_cd, List.forall_mem_append.mpr ⟨xMQ_7_cd, List.forall_mem_append.mpr ⟨xMQ_8_cd, List.forall_mem_append.mpr ⟨xMQ_9_cd, List.forall_mem_append.mpr ⟨xMQ_10_cd, List.forall_mem_append.mpr ⟨xMQ_11_cd, List.forall_mem_append.mpr ⟨xMQ_12_cd, List.forall_mem_append.mpr ⟨xMQ_13_cd, xMQ_14_cd⟩⟩⟩⟩⟩⟩⟩⟩⟩⟩⟩⟩⟩⟩
theorem xMQ_at : (List.range 296).all (fun j => xMQ[j]? == some (j, xMP.getD j (0, 0, 0, 0))) = true := by decide +kernel
theorem xchkM_all {j : Nat} (h : j < 296) : xchkM j (xMP.getD j (0, 0, 0, 0)) = true := by
  have h1 := List.all_eq_true.mp xMQ_at j (List.mem_range.mpr h)
  exact xMQ_ok (j, xMP.getD j (0, 0, 0, 0)) (List.mem_of_getElem? (by simpa using h1))
theorem xcode_all {j : Nat} (h : j < 296) : xcw j ∈ lw_tbl := by
  have h1 := List.all_eq_true.mp xMQ_at j (List.mem_range.mpr h)
  exact xat_in (xMQ_cd (j, xMP.getD j (0, 0, 0, 0)) (List.mem_of_getElem? (by simpa using h1)))
def xchkL (o : Nat) (e : Nat × List Nat) (p : Nat) : Bool := match e.2 with
  | [0, ci, f, z] => decide (ci < 12) && (if z = 0 then decide (xat p = some (.fieldLink (xNm o) e.1 ((xcl ci).2.1 f).1 ((xcl ci).2.1 f).2.1 ((xcl ci).2.1 f).2.2.1)) else decide (xat p = some (.fieldLinkNest (xNm o) e.1 ((xcl ci).2.1 f).1 ((xcl ci).2.1 f).2.1 ((xcl ci).2.1 f).2.2.1 "RhymeRing")))
  | [1, kd, j] => decide (j < 296) && (match xMI j with
    | (_, _, _, y, _, _, ini, stt) => (if kd = 0 ∨ kd = 2 ∨ kd = 4 then decide (xat p = some (.methodLink (xNm o) e.1 y)) else decide (xat p = some (.methodLinkNest (xNm o) e.1 y "RhymeRing"))) && decide (stt = decide (kd = 2 ∨ kd = 3)) && decide (ini = decide (kd = 4 ∨ kd = 5)) && decide ((xMP.getD j (0, 0, 0, 0)).2.2.2 ≠ 99999 ∨ 2 ≤ kd))
  | [2] => decide (xat p = some (.methodLink (xNm o) e.1 objectInit))
  | [4] => decide (xat p = some (.methodLink (xNm o) e.1 yJ0_length_8abf5))
  | [5] => decide (xat p = some (.methodLink (xNm o) e.1 yJ0_charAt_5068e))
  | [6, ci] => decide (ci < 12) && decide (xat p = some (.classLink (xNm o) e.1 (xcl ci).1))
  | [8] => decide (xat p = some (.classLink (xNm o) e.1 "[[I"))
  | [9] => decide (xat p = some (.constant (xNm o) e.1 (xKI o e.1)))
  | [10] => decide (xat p = some (.constantLong (xNm o) e.1 (xKL o e.1)))
  | [3, j1, j2] => decide ((o, e.1, j1, j2) ∈ [(10, 117, 293, 9999), (12, 9, 110, 128), (12, 24, 111, 129), (10, 135, 9999, 293)])
  | [12] => decide (xat p = some (.methodLink (xNm o) e.1 Lib.Math.max.name))
  | [13] => decide (xat p = some (.methodLink (xNm o) e.1 Lib.Math.min.name))
  | [14] => decide (xat p = some (.methodLink (xNm o) e.1 Lib.MathLoose.min_long.x))
  | [11, s] => decide (s < 9)
  | _ => true
theorem wl_0_3 : xchkL 0 (3, [2]) 2113 = true := by decide +kernel
theorem wl_0_11 : xchkL 0 (11, [0, 0, 0, 0]) 2115 = true := by decide +kernel
theorem wl_0_17 : xchkL 0 (17, [0, 0, 1, 0]) 2116 = true := by decide +kernel
theorem wl_0_20 : xchkL 0 (20, [8]) 2114 = true := by decide +kernel
theorem wl_0_22 : xchkL 0 (22, [0, 0, 2, 0]) 2117 = true := by decide +kernel
theorem wl_0_25 : xchkL 0 (25, [0, 0, 3, 0]) 2118 = true := by decide +kernel
theorem wl_0_28 : xchkL 0 (28, [0, 0, 4, 0]) 2119 = true := by decide +kernel
theorem wl_0_32 : xchkL 0 (32, [0, 0, 5, 0]) 2120 = true := by decide +kernel
theorem wl_0_35 : xchkL 0 (35, [0, 0, 6, 0]) 2121 = true := by decide +kernel
theorem wl_0_38 : xchkL 0 (38, [0, 3, 7, 1]) 1151 = true := by decide +kernel
theorem wl_0_42 : xchkL 0 (42, [13]) 4110 = true := by decide +kernel
theorem wl_0_48 : xchkL 0 (48, [1, 0, 2]) 4111 = true := by decide +kernel
theorem wl_0_52 : xchkL 0 (52, [1, 1, 63]) 4115 = true := by decide +kernel
theorem wl_0_56 : xchkL 0 (56, [1, 1, 59]) 4116 = true := by decide +kernel
theorem wl_0_60 : xchkL 0 (60, [1, 0, 4]) 5203 = true := by decide +kernel
theorem wl_0_64 : xchkL 0 (64, [1, 0, 6]) 5220 = true := by decide +kernel
theorem wl_0_67 : xchkL 0 (67, [1, 0, 5]) 5207 = true := by decide +kernel
theorem wl_0_71 : xchkL 0 (71, [1, 1, 57]) 5211 = true := by decide +kernel
theorem wl_0_74 : xchkL 0 (74, [1, 1, 66]) 5212 = true := by decide +kernel
theorem wl_0_77 : xchkL 0 (77, [1, 1, 67]) 5216 = true := by decide +kernel
theorem wl_0_81 : xchkL 0 (81, [9]) 5224 = true := by decide +kernel
theorem wl_0_82 : xchkL 0 (82, [1, 3, 147]) 6001 = true := by decide +kernel
theorem wl_0_86 : xchkL 0 (86, [1, 0, 8]) 6002 = true := by decide +kernel
theorem wl_0_90 : xchkL 0 (90, [1, 0, 9]) 6006 = true := by decide +kernel
theorem wl_0_93 : xchkL 0 (93, [1, 0, 11]) 6018 = true := by decide +kernel
def xLQ_0_0 : List ((Nat × List Nat) × Nat) := [((3, [2]), 2113), ((11, [0, 0, 0, 0]), 2115), ((17, [0, 0, 1, 0]), 2116), ((20, [8]), 2114), ((22, [0, 0, 2, 0]), 2117), ((25, [0, 0, 3, 0]), 2118), ((28, [0, 0, 4, 0]), 2119), ((32, [0, 0, 5, 0]), 2120), ((35, [0, 0, 6, 0]), 2121), ((38, [0, 3, 7, 1]), 1151), ((42, [13]), 4110), ((48, [1, 0, 2]), 4111), ((52, [1, 1, 63]), 4115), ((56, [1, 1, 59]), 4116), ((60, [1, 0, 4]), 5203), ((64, [1, 0, 6]), 5220), ((67, [1, 0, 5]), 5207), ((71, [1, 1, 57]), 5211), ((74, [1, 1, 66]), 5212), ((77, [1, 1, 67]), 5216)]
theorem xLQ_0_0_ok : ∀ q ∈ xLQ_0_0, xchkL 0 q.1 q.2 = true := List.forall_mem_cons.mpr ⟨wl_0_3, List.forall_mem_cons.mpr ⟨wl_0_11, List.forall_mem_cons.mpr ⟨wl_0_17, List.forall_mem_cons.mpr ⟨wl_0_20, List.forall_mem_cons.mpr ⟨wl_0_22, List.forall_mem_cons.mpr ⟨wl_0_25, List.forall_mem_cons.mpr ⟨wl_0_28, List.forall_mem_cons.mpr ⟨wl_0_32, List.forall_mem_cons.mpr ⟨wl_0_35, List.forall_mem_cons.mpr ⟨wl_0_38, List.forall_mem_cons.mpr ⟨wl_0_42, List.forall_mem_cons.mpr ⟨wl_0_48, List.forall_mem_cons.mpr ⟨wl_0_52, List.forall_mem_cons.mpr ⟨wl_0_56, List.forall_mem_cons.mpr ⟨wl_0_60, List.forall_mem_cons.mpr ⟨wl_0_64, List.forall_mem_cons.mpr ⟨wl_0_67, List.forall_mem_cons.mpr ⟨wl_0_71, List.forall_mem_cons.mpr ⟨wl_0_74, List.forall_mem_cons.mpr ⟨wl_0_77, fun _ h => absurd h List.not_mem_nil⟩⟩⟩⟩⟩⟩⟩⟩⟩⟩⟩⟩⟩⟩⟩⟩⟩⟩⟩⟩
def xLQ_0_1 : List ((Nat × List Nat) × Nat) := [((81, [9]), 5224), ((82, [1, 3, 147]), 6001), ((86, [1, 0, 8]), 6002), ((90, [1, 0, 9]), 6006), ((93, [1, 0, 11]), 6018)]
theorem xLQ_0_1_ok : ∀ q ∈ xLQ_0_1, xchkL 0 q.1 q.2 = true := List.forall_mem_cons.mpr ⟨wl_0_81, List.forall_mem_cons.mpr ⟨wl_0_82, List.forall_mem_cons.mpr ⟨wl_0_86, List.forall_mem_cons.mpr ⟨wl_0_90, List.forall_mem_cons.mpr ⟨wl_0_93, fun _ h => absurd h List.not_mem_nil⟩⟩⟩⟩⟩
def xLQ_0 : List ((Nat × List Nat) × Nat) := xLQ_0_0 ++ (xLQ_0_1)
theorem xLQ_0_ok : ∀ q ∈ xLQ_0, xchkL 0 q.1 q.2 = true := List.forall_mem_append.mpr ⟨xLQ_0_0_ok, xLQ_0_1_ok⟩
theorem xLQ_0_is : xLkL 0 = xLQ_0.map (fun q => q.1) := by decide +kernel
theorem wl_1_1 : xchkL 1 (1, [2]) 1237 = true := by decide +kernel
theorem wl_1_9 : xchkL 1 (9, [0, 1, 0, 0]) 1238 = true := by decide +kernel
theorem wl_1_15 : xchkL 1 (15, [0, 1, 1, 0]) 1239 = true := by decide +kernel
theorem wl_1_18 : xchkL 1 (18, [0, 1, 2, 0]) 2001 = true := by decide +kernel
theorem wl_1_21 : xchkL 1 (21, [0, 3, 7, 1]) 1152 = true := by decide +kernel
theorem wl_1_25 : xchkL 1 (25, [13]) 4185 = true := by decide +kernel
theorem wl_1_31 : xchkL 1 (31, [0, 1, 3, 0]) 2003 = true := by decide +kernel
theorem wl_1_32 : xchkL 1 (32, [1, 1, 59]) 4186 = true := by decide +kernel
theorem wl_1_36 : xchkL 1 (36, [1, 0, 14]) 4187 = true := by decide +kernel
theorem wl_1_40 : xchkL 1 (40, [0, 1, 4, 0]) 2005 = true := by decide +kernel
theorem wl_1_43 : xchkL 1 (43, [1, 1, 64]) 4198 = true := by decide +kernel
theorem wl_1_47 : xchkL 1 (47, [0, 1, 5, 0]) 2007 = true := by decide +kernel
theorem wl_1_51 : xchkL 1 (51, [1, 1, 57]) 4191 = true := by decide +kernel
theorem wl_1_54 : xchkL 1 (54, [1, 1, 60]) 4192 = true := by decide +kernel
theorem wl_1_57 : xchkL 1 (57, [1, 0, 15]) 4193 = true := by decide +kernel
theorem wl_1_60 : xchkL 1 (60, [1, 1, 58]) 4197 = true := by decide +kernel
def xLQ_1_0 : List ((Nat × List Nat) × Nat) := [((1, [2]), 1237), ((9, [0, 1, 0, 0]), 1238), ((15, [0, 1, 1, 0]), 1239), ((18, [0, 1, 2, 0]), 2001), ((21, [0, 3, 7, 1]), 1152), ((25, [13]), 4185), ((31, [0, 1, 3, 0]), 2003), ((32, [1, 1, 59]), 4186), ((36, [1, 0, 14]), 4187), ((40, [0, 1, 4, 0]), 2005), ((43, [1, 1, 64]), 4198), ((47, [0, 1, 5, 0]), 2007), ((51, [1, 1, 57]), 4191), ((54, [1, 1, 60]), 4192), ((57, [1, 0, 15]), 4193), ((60, [1, 1, 58]), 4197)]
theorem xLQ_1_0_ok : ∀ q ∈ xLQ_1_0, xchkL 1 q.1 q.2 = true := List.forall_mem_cons.mpr ⟨wl_1_1, List.forall_mem_cons.mpr ⟨wl_1_9, List.forall_mem_cons.mpr ⟨wl_1_15, List.forall_mem_cons.mpr ⟨wl_1_18, List.forall_mem_cons.mpr ⟨wl_1_21, List.forall_mem_cons.mpr ⟨wl_1_25, List.forall_mem_cons.mpr ⟨wl_1_31, List.forall_mem_cons.mpr ⟨wl_1_32, List.forall_mem_cons.mpr ⟨wl_1_36, List.forall_mem_cons.mpr ⟨wl_1_40, List.forall_mem_cons.mpr ⟨wl_1_43, List.forall_mem_cons.mpr ⟨wl_1_47, List.forall_mem_cons.mpr ⟨wl_1_51, List.forall_mem_cons.mpr ⟨wl_1_54, List.forall_mem_cons.mpr ⟨wl_1_57, List.forall_mem_cons.mpr ⟨wl_1_60, fun _ h => absurd h List.not_mem_nil⟩⟩⟩⟩⟩⟩⟩⟩⟩⟩⟩⟩⟩⟩⟩⟩
def xLQ_1 : List ((Nat × List Nat) × Nat) := xLQ_1_0
theorem xLQ_1_ok : ∀ q ∈ xLQ_1, xchkL 1 q.1 q.2 = true := xLQ_1_0_ok
theorem xLQ_1_is : xLkL 1 = xLQ_1.map (fun q => q.1) := by decide +kernel
theorem wl_2_5 : xchkL 2 (5, [2]) 1222 = true := by decide +kernel
theorem wl_2_11 : xchkL 2 (11, [6, 4]) 1223 = true := by decide +kernel
theorem wl_2_13 : xchkL 2 (13, [1, 5, 68]) 1225 = true := by decide +kernel
theorem wl_2_14 : xchkL 2 (14, [0, 2, 0, 0]) 2082 = true := by decide +kernel
theorem wl_2_18 : xchkL 2 (18, [0, 2, 1, 0]) 2084 = true := by decide +kernel
theorem wl_2_22 : xchkL 2 (22, [0, 2, 2, 0]) 2085 = true := by decide +kernel
theorem wl_2_25 : xchkL 2 (25, [0, 2, 4, 0]) 2087 = true := by decide +kernel
theorem wl_2_28 : xchkL 2 (28, [0, 4, 12, 1]) 2037 = true := by decide +kernel
theorem wl_2_32 : xchkL 2 (32, [1, 2, 294]) 5186 = true := by decide +kernel
theorem wl_2_38 : xchkL 2 (38, [1, 0, 19]) 5087 = true := by decide +kernel
theorem wl_2_42 : xchkL 2 (42, [1, 1, 72]) 5091 = true := by decide +kernel
theorem wl_2_46 : xchkL 2 (46, [1, 0, 20]) 5092 = true := by decide +kernel
theorem wl_2_50 : xchkL 2 (50, [1, 1, 73]) 5096 = true := by decide +kernel
theorem wl_2_54 : xchkL 2 (54, [1, 1, 75]) 5112 = true := by decide +kernel
theorem wl_2_57 : xchkL 2 (57, [1, 1, 84]) 5124 = true := by decide +kernel
theorem wl_2_60 : xchkL 2 (60, [1, 0, 27]) 5125 = true := by decide +kernel
theorem wl_2_63 : xchkL 2 (63, [1, 0, 25]) 5113 = true := by decide +kernel
theorem wl_2_67 : xchkL 2 (67, [1, 0, 22]) 5102 = true := by decide +kernel
theorem wl_2_71 : xchkL 2 (71, [0, 4, 16, 1]) 2042 = true := by decide +kernel
theorem wl_2_75 : xchkL 2 (75, [1, 1, 85]) 5117 = true := by decide +kernel
theorem wl_2_79 : xchkL 2 (79, [1, 1, 86]) 5119 = true := by decide +kernel
theorem wl_2_82 : xchkL 2 (82, [0, 2, 6, 0]) 2089 = true := by decide +kernel
theorem wl_2_85 : xchkL 2 (85, [0, 2, 7, 0]) 2090 = true := by decide +kernel
theorem wl_2_88 : xchkL 2 (88, [0, 2, 5, 0]) 2088 = true := by decide +kernel
theorem wl_2_91 : xchkL 2 (91, [0, 2, 3, 0]) 2086 = true := by decide +kernel
theorem wl_2_94 : xchkL 2 (94, [1, 1, 74]) 5097 = true := by decide +kernel
theorem wl_2_97 : xchkL 2 (97, [1, 0, 21]) 5098 = true := by decide +kernel
theorem wl_2_100 : xchkL 2 (100, [1, 2, 23]) 5106 = true := by decide +kernel
theorem wl_2_103 : xchkL 2 (103, [1, 2, 24]) 5109 = true := by decide +kernel
theorem wl_2_106 : xchkL 2 (106, [1, 0, 26]) 5120 = true := by decide +kernel
theorem wl_2_109 : xchkL 2 (109, [1, 0, 28]) 5129 = true := by decide +kernel
theorem wl_2_112 : xchkL 2 (112, [1, 1, 82]) 5118 = true := by decide +kernel
theorem wl_2_115 : xchkL 2 (115, [0, 4, 5, 1]) 2028 = true := by decide +kernel
theorem wl_2_118 : xchkL 2 (118, [0, 4, 10, 1]) 2034 = true := by decide +kernel
theorem wl_2_121 : xchkL 2 (121, [1, 0, 38]) 5191 = true := by decide +kernel
theorem wl_2_124 : xchkL 2 (124, [1, 2, 295]) 5165 = true := by decide +kernel
theorem wl_2_130 : xchkL 2 (130, [1, 0, 32]) 5166 = true := by decide +kernel
theorem wl_2_133 : xchkL 2 (133, [1, 0, 33]) 5170 = true := by decide +kernel
theorem wl_2_137 : xchkL 2 (137, [1, 0, 34]) 5174 = true := by decide +kernel
theorem wl_2_140 : xchkL 2 (140, [1, 0, 35]) 5178 = true := by decide +kernel
theorem wl_2_144 : xchkL 2 (144, [1, 0, 36]) 5182 = true := by decide +kernel
theorem wl_2_147 : xchkL 2 (147, [1, 0, 40]) 6035 = true := by decide +kernel
theorem wl_2_151 : xchkL 2 (151, [12]) 6039 = true := by decide +kernel
def xLQ_2_0 : List ((Nat × List Nat) × Nat) := [((5, [2]), 1222), ((11, [6, 4]), 1223), ((13, [1, 5, 68]), 1225), ((14, [0, 2, 0, 0]), 2082), ((18, [0, 2, 1, 0]), 2084), ((22, [0, 2, 2, 0]), 2085), ((25, [0, 2, 4, 0]), 2087), ((28, [0, 4, 12, 1]), 2037), ((32, [1, 2, 294]), 5186), ((38, [1, 0, 19]), 5087), ((42, [1, 1, 72]), 5091), ((46, [1, 0, 20]), 5092), ((50, [1, 1, 73]), 5096), ((54, [1, 1, 75]), 5112), ((57, [1, 1, 84]), 5124), ((60, [1, 0, 27]), 5125), ((63, [1, 0, 25]), 5113), ((67, [1, 0, 22]), 5102), ((71, [0, 4, 16, 1]), 2042), ((75, [1, 1, 85]), 5117)]
theorem xLQ_2_0_ok : ∀ q ∈ xLQ_2_0, xchkL 2 q.1 q.2 = true := List.forall_mem_cons.mpr ⟨wl_2_5, List.forall_mem_cons.mpr ⟨wl_2_11, List.forall_mem_cons.mpr ⟨wl_2_13, List.forall_mem_cons.mpr ⟨wl_2_14, List.forall_mem_cons.mpr ⟨wl_2_18, List.forall_mem_cons.mpr ⟨wl_2_22, List.forall_mem_cons.mpr ⟨wl_2_25, List.forall_mem_cons.mpr ⟨wl_2_28, List.forall_mem_cons.mpr ⟨wl_2_32, List.forall_mem_cons.mpr ⟨wl_2_38, List.forall_mem_cons.mpr ⟨wl_2_42, List.forall_mem_cons.mpr ⟨wl_2_46, List.forall_mem_cons.mpr ⟨wl_2_50, List.forall_mem_cons.mpr ⟨wl_2_54, List.forall_mem_cons.mpr ⟨wl_2_57, List.forall_mem_cons.mpr ⟨wl_2_60, List.forall_mem_cons.mpr ⟨wl_2_63, List.forall_mem_cons.mpr ⟨wl_2_67, List.forall_mem_cons.mpr ⟨wl_2_71, List.forall_mem_cons.mpr ⟨wl_2_75, fun _ h => absurd h List.not_mem_nil⟩⟩⟩⟩⟩⟩⟩⟩⟩⟩⟩⟩⟩⟩⟩⟩⟩⟩⟩⟩
def xLQ_2_1 : List ((Nat × List Nat) × Nat) := [((79, [1, 1, 86]), 5119), ((82, [0, 2, 6, 0]), 2089), ((85, [0, 2, 7, 0]), 2090), ((88, [0, 2, 5, 0]), 2088), ((91, [0, 2, 3, 0]), 2086), ((94, [1, 1, 74]), 5097), ((97, [1, 0, 21]), 5098), ((100, [1, 2, 23]), 5106), ((103, [1, 2, 24]), 5109), ((106, [1, 0, 26]), 5120), ((109, [1, 0, 28]), 5129), ((112, [1, 1, 82]), 5118), ((115, [0, 4, 5, 1]), 2028), ((118, [0, 4, 10, 1]), 2034), ((121, [1, 0, 38]), 5191), ((124, [1, 2, 295]), 5165), ((130, [1, 0, 32]), 5166), ((133, [1, 0, 33]), 5170), ((137, [1, 0, 34]), 5174), ((140, [1, 0, 35]), 5178)]
theorem xLQ_2_1_ok : ∀ q ∈ xLQ_2_1, xchkL 2 q.1 q.2 = true := List.forall_mem_cons.mpr ⟨wl_2_79, List.forall_mem_cons.mpr ⟨wl_2_82, List.forall_mem_cons.mpr ⟨wl_2_85, List.forall_mem_cons.mpr ⟨wl_2_88, List.forall_mem_cons.mpr ⟨wl_2_91, List.forall_mem_cons.mpr ⟨wl_2_94, List.forall_mem_cons.mpr ⟨wl_2_97, List.forall_mem_cons.mpr ⟨wl_2_100, List.forall_mem_cons.mpr ⟨wl_2_103, List.forall_mem_cons.mpr ⟨wl_2_106, List.forall_mem_cons.mpr ⟨wl_2_109, List.forall_mem_cons.mpr ⟨wl_2_112, List.forall_mem_cons.mpr ⟨wl_2_115, List.forall_mem_cons.mpr ⟨wl_2_118, List.forall_mem_cons.mpr ⟨wl_2_121, List.forall_mem_cons.mpr ⟨wl_2_124, List.forall_mem_cons.mpr ⟨wl_2_130, List.forall_mem_cons.mpr ⟨wl_2_133, List.forall_mem_cons.mpr ⟨wl_2_137, List.forall_mem_cons.mpr ⟨wl_2_140, fun _ h => absurd h List.not_mem_nil⟩⟩⟩⟩⟩⟩⟩⟩⟩⟩⟩⟩⟩⟩⟩⟩⟩⟩⟩⟩
def xLQ_2_2 : List ((Nat × List Nat) × Nat) := [((144, [1, 0, 36]), 5182), ((147, [1, 0, 40]), 6035), ((151, [12]), 6039)]
theorem xLQ_2_2_ok : ∀ q ∈ xLQ_2_2, xchkL 2 q.1 q.2 = true := List.forall_mem_cons.mpr ⟨wl_2_144, List.forall_mem_cons.mpr ⟨wl_2_147, List.forall_mem_cons.mpr ⟨wl_2_151, fun _ h => absurd h List.not_mem_nil⟩⟩⟩
def xLQ_2 : List ((Nat × List Nat) × Nat) := xLQ_2_0 ++ (xLQ_2_1 ++ (xLQ_2_2))
theorem xLQ_2_ok : ∀ q ∈ xLQ_2, xchkL 2 q.1 q.2 = true := List.forall_mem_append.mpr ⟨xLQ_2_0_ok, List.forall_mem_append.mpr ⟨xLQ_2_1_ok, xLQ_2_2_ok⟩⟩
theorem xLQ_2_is : xLkL 2 = xLQ_2.map (fun q => q.1) := by decide +kernel
theorem wl_3_5 : xchkL 3 (5, [2]) 1143 = true := by decide +kernel
theorem wl_3_11 : xchkL 3 (11, [0, 3, 0, 0]) 1144 = true := by decide +kernel
theorem wl_3_15 : xchkL 3 (15, [0, 3, 2, 0]) 1146 = true := by decide +kernel
theorem wl_3_19 : xchkL 3 (19, [0, 3, 3, 0]) 1147 = true := by decide +kernel
theorem wl_3_22 : xchkL 3 (22, [0, 3, 4, 0]) 1148 = true := by decide +kernel
theorem wl_3_25 : xchkL 3 (25, [0, 3, 6, 0]) 1150 = true := by decide +kernel
theorem wl_3_28 : xchkL 3 (28, [0, 3, 9, 0]) 1157 = true := by decide +kernel
theorem wl_3_32 : xchkL 3 (32, [0, 3, 8, 0]) 1155 = true := by decide +kernel
theorem wl_3_36 : xchkL 3 (36, [0, 3, 5, 0]) 1149 = true := by decide +kernel
theorem wl_3_39 : xchkL 3 (39, [0, 3, 7, 0]) 1153 = true := by decide +kernel
theorem wl_3_42 : xchkL 3 (42, [0, 3, 11, 0]) 1161 = true := by decide +kernel
theorem wl_3_45 : xchkL 3 (45, [0, 3, 13, 0]) 1163 = true := by decide +kernel
theorem wl_3_48 : xchkL 3 (48, [0, 3, 14, 0]) 1164 = true := by decide +kernel
theorem wl_3_51 : xchkL 3 (51, [13]) 3217 = true := by decide +kernel
theorem wl_3_57 : xchkL 3 (57, [0, 3, 1, 0]) 1145 = true := by decide +kernel
theorem wl_3_60 : xchkL 3 (60, [1, 0, 46]) 3218 = true := by decide +kernel
theorem wl_3_64 : xchkL 3 (64, [1, 0, 55]) 4014 = true := by decide +kernel
theorem wl_3_67 : xchkL 3 (67, [1, 0, 54]) 4010 = true := by decide +kernel
theorem wl_3_70 : xchkL 3 (70, [0, 3, 10, 0]) 1159 = true := by decide +kernel
theorem wl_3_73 : xchkL 3 (73, [1, 0, 47]) 3222 = true := by decide +kernel
theorem wl_3_76 : xchkL 3 (76, [1, 0, 49]) 3230 = true := by decide +kernel
theorem wl_3_79 : xchkL 3 (79, [1, 0, 51]) 3238 = true := by decide +kernel
theorem wl_3_83 : xchkL 3 (83, [1, 0, 53]) 4006 = true := by decide +kernel
theorem wl_3_86 : xchkL 3 (86, [1, 0, 48]) 3226 = true := by decide +kernel
theorem wl_3_90 : xchkL 3 (90, [1, 2, 50]) 3234 = true := by decide +kernel
theorem wl_3_93 : xchkL 3 (93, [0, 3, 12, 0]) 1162 = true := by decide +kernel
theorem wl_3_96 : xchkL 3 (96, [1, 3, 145]) 3237 = true := by decide +kernel
theorem wl_3_100 : xchkL 3 (100, [1, 0, 52]) 4002 = true := by decide +kernel
theorem wl_3_103 : xchkL 3 (103, [1, 0, 57]) 4069 = true := by decide +kernel
theorem wl_3_107 : xchkL 3 (107, [1, 0, 43]) 3191 = true := by decide +kernel
theorem wl_3_110 : xchkL 3 (110, [1, 0, 44]) 3195 = true := by decide +kernel
theorem wl_3_113 : xchkL 3 (113, [1, 0, 61]) 4085 = true := by decide +kernel
theorem wl_3_117 : xchkL 3 (117, [1, 0, 60]) 4081 = true := by decide +kernel
theorem wl_3_120 : xchkL 3 (120, [1, 0, 64]) 5053 = true := by decide +kernel
theorem wl_3_124 : xchkL 3 (124, [1, 1, 116]) 3199 = true := by decide +kernel
theorem wl_3_130 : xchkL 3 (130, [1, 0, 58]) 4073 = true := by decide +kernel
theorem wl_3_134 : xchkL 3 (134, [1, 0, 59]) 4077 = true := by decide +kernel
theorem wl_3_137 : xchkL 3 (137, [1, 1, 120]) 4101 = true := by decide +kernel
def xLQ_3_0 : List ((Nat × List Nat) × Nat) := [((5, [2]), 1143), ((11, [0, 3, 0, 0]), 1144), ((15, [0, 3, 2, 0]), 1146), ((19, [0, 3, 3, 0]), 1147), ((22, [0, 3, 4, 0]), 1148), ((25, [0, 3, 6, 0]), 1150), ((28, [0, 3, 9, 0]), 1157), ((32, [0, 3, 8, 0]), 1155), ((36, [0, 3, 5, 0]), 1149), ((39, [0, 3, 7, 0]), 1153), ((42, [0, 3, 11, 0]), 1161), ((45, [0, 3, 13, 0]), 1163), ((48, [0, 3, 14, 0]), 1164), ((51, [13]), 3217), ((57, [0, 3, 1, 0]), 1145), ((60, [1, 0, 46]), 3218), ((64, [1, 0, 55]), 4014), ((67, [1, 0, 54]), 4010), ((70, [0, 3, 10, 0]), 1159), ((73, [1, 0, 47]), 3222)]
theorem xLQ_3_0_ok : ∀ q ∈ xLQ_3_0, xchkL 3 q.1 q.2 = true := List.forall_mem_cons.mpr ⟨wl_3_5, List.forall_mem_cons.mpr ⟨wl_3_11, List.forall_mem_cons.mpr ⟨wl_3_15, List.forall_mem_cons.mpr ⟨wl_3_19, List.forall_mem_cons.mpr ⟨wl_3_22, List.forall_mem_cons.mpr ⟨wl_3_25, List.forall_mem_cons.mpr ⟨wl_3_28, List.forall_mem_cons.mpr ⟨wl_3_32, List.forall_mem_cons.mpr ⟨wl_3_36, List.forall_mem_cons.mpr ⟨wl_3_39, List.forall_mem_cons.mpr ⟨wl_3_42, List.forall_mem_cons.mpr ⟨wl_3_45, List.forall_mem_cons.mpr ⟨wl_3_48, List.forall_mem_cons.mpr ⟨wl_3_51, List.forall_mem_cons.mpr ⟨wl_3_57, List.forall_mem_cons.mpr ⟨wl_3_60, List.forall_mem_cons.mpr ⟨wl_3_64, List.forall_mem_cons.mpr ⟨wl_3_67, List.forall_mem_cons.mpr ⟨wl_3_70, List.forall_mem_cons.mpr ⟨wl_3_73, fun _ h => absurd h List.not_mem_nil⟩⟩⟩⟩⟩⟩⟩⟩⟩⟩⟩⟩⟩⟩⟩⟩⟩⟩⟩⟩
def xLQ_3_1 : List ((Nat × List Nat) × Nat) := [((76, [1, 0, 49]), 3230), ((79, [1, 0, 51]), 3238), ((83, [1, 0, 53]), 4006), ((86, [1, 0, 48]), 3226), ((90, [1, 2, 50]), 3234), ((93, [0, 3, 12, 0]), 1162), ((96, [1, 3, 145]), 3237), ((100, [1, 0, 52]), 4002), ((103, [1, 0, 57]), 4069), ((107, [1, 0, 43]), 3191), ((110, [1, 0, 44]), 3195), ((113, [1, 0, 61]), 4085), ((117, [1, 0, 60]), 4081), ((120, [1, 0, 64]), 5053), ((124, [1, 1, 116]), 3199), ((130, [1, 0, 58]), 4073), ((134, [1, 0, 59]), 4077), ((137, [1, 1, 120]), 4101)]
theorem xLQ_3_1_ok : ∀ q ∈ xLQ_3_1, xchkL 3 q.1 q.2 = true := List.forall_mem_cons.mpr ⟨wl_3_76, List.forall_mem_cons.mpr ⟨wl_3_79, List.forall_mem_cons.mpr ⟨wl_3_83, List.forall_mem_cons.mpr ⟨wl_3_86, List.forall_mem_cons.mpr ⟨wl_3_90, List.forall_mem_cons.mpr ⟨wl_3_93, List.forall_mem_cons.mpr ⟨wl_3_96, List.forall_mem_cons.mpr ⟨wl_3_100, List.forall_mem_cons.mpr ⟨wl_3_103, List.forall_mem_cons.mpr ⟨wl_3_107, List.forall_mem_cons.mpr ⟨wl_3_110, List.forall_mem_cons.mpr ⟨wl_3_113, List.forall_mem_cons.mpr ⟨wl_3_117, List.forall_mem_cons.mpr ⟨wl_3_120, List.forall_mem_cons.mpr ⟨wl_3_124, List.forall_mem_cons.mpr ⟨wl_3_130, List.forall_mem_cons.mpr ⟨wl_3_134, List.forall_mem_cons.mpr ⟨wl_3_137, fun _ h => absurd h List.not_mem_nil⟩⟩⟩⟩⟩⟩⟩⟩⟩⟩⟩⟩⟩⟩⟩⟩⟩⟩
def xLQ_3 : List ((Nat × List Nat) × Nat) := xLQ_3_0 ++ (xLQ_3_1)
theorem xLQ_3_ok : ∀ q ∈ xLQ_3, xchkL 3 q.1 q.2 = true := List.forall_mem_append.mpr ⟨xLQ_3_0_ok, xLQ_3_1_ok⟩
theorem xLQ_3_is : xLkL 3 = xLQ_3.map (fun q => q.1) := by decide +kernel
theorem wl_4_3 : xchkL 4 (3, [2]) 1228 = true := by decide +kernel
theorem wl_4_9 : xchkL 4 (9, [6, 1]) 1229 = true := by decide +kernel
theorem wl_4_11 : xchkL 4 (11, [0, 4, 0, 0]) 2022 = true := by decide +kernel
theorem wl_4_19 : xchkL 4 (19, [0, 4, 1, 0]) 2023 = true := by decide +kernel
theorem wl_4_23 : xchkL 4 (23, [0, 4, 2, 0]) 2024 = true := by decide +kernel
theorem wl_4_27 : xchkL 4 (27, [0, 4, 3, 0]) 2025 = true := by decide +kernel
theorem wl_4_30 : xchkL 4 (30, [0, 4, 4, 0]) 2026 = true := by decide +kernel
theorem wl_4_33 : xchkL 4 (33, [0, 4, 5, 0]) 2027 = true := by decide +kernel
theorem wl_4_36 : xchkL 4 (36, [0, 4, 6, 0]) 2029 = true := by decide +kernel
theorem wl_4_39 : xchkL 4 (39, [0, 4, 8, 0]) 2031 = true := by decide +kernel
theorem wl_4_42 : xchkL 4 (42, [8]) 1231 = true := by decide +kernel
theorem wl_4_44 : xchkL 4 (44, [0, 4, 9, 0]) 2032 = true := by decide +kernel
theorem wl_4_47 : xchkL 4 (47, [0, 4, 10, 0]) 2033 = true := by decide +kernel
theorem wl_4_50 : xchkL 4 (50, [0, 4, 11, 0]) 2035 = true := by decide +kernel
theorem wl_4_53 : xchkL 4 (53, [0, 4, 12, 0]) 2036 = true := by decide +kernel
theorem wl_4_56 : xchkL 4 (56, [0, 4, 13, 0]) 2038 = true := by decide +kernel
theorem wl_4_59 : xchkL 4 (59, [1, 5, 12]) 1234 = true := by decide +kernel
theorem wl_4_60 : xchkL 4 (60, [0, 8, 3, 1]) 1206 = true := by decide +kernel
theorem wl_4_65 : xchkL 4 (65, [13]) 4137 = true := by decide +kernel
theorem wl_4_71 : xchkL 4 (71, [1, 1, 125]) 4138 = true := by decide +kernel
theorem wl_4_75 : xchkL 4 (75, [1, 1, 123]) 4142 = true := by decide +kernel
theorem wl_4_78 : xchkL 4 (78, [0, 9, 2, 1]) 1127 = true := by decide +kernel
theorem wl_4_81 : xchkL 4 (81, [1, 1, 133]) 4143 = true := by decide +kernel
theorem wl_4_84 : xchkL 4 (84, [1, 1, 134]) 4144 = true := by decide +kernel
theorem wl_4_88 : xchkL 4 (88, [1, 1, 135]) 4148 = true := by decide +kernel
theorem wl_4_91 : xchkL 4 (91, [1, 1, 136]) 4152 = true := by decide +kernel
theorem wl_4_94 : xchkL 4 (94, [0, 4, 14, 0]) 2039 = true := by decide +kernel
theorem wl_4_96 : xchkL 4 (96, [1, 1, 137]) 4156 = true := by decide +kernel
theorem wl_4_99 : xchkL 4 (99, [0, 4, 15, 0]) 2040 = true := by decide +kernel
theorem wl_4_103 : xchkL 4 (103, [1, 1, 138]) 4160 = true := by decide +kernel
theorem wl_4_106 : xchkL 4 (106, [0, 4, 16, 0]) 2041 = true := by decide +kernel
theorem wl_4_109 : xchkL 4 (109, [1, 1, 139]) 4164 = true := by decide +kernel
theorem wl_4_112 : xchkL 4 (112, [0, 4, 17, 0]) 2044 = true := by decide +kernel
theorem wl_4_115 : xchkL 4 (115, [1, 0, 71]) 4176 = true := by decide +kernel
theorem wl_4_119 : xchkL 4 (119, [1, 1, 13]) 4181 = true := by decide +kernel
theorem wl_4_123 : xchkL 4 (123, [0, 1, 4, 1]) 2006 = true := by decide +kernel
theorem wl_4_126 : xchkL 4 (126, [1, 3, 147]) 4180 = true := by decide +kernel
theorem wl_4_132 : xchkL 4 (132, [1, 0, 74]) 4214 = true := by decide +kernel
theorem wl_4_135 : xchkL 4 (135, [1, 2, 294]) 4218 = true := by decide +kernel
theorem wl_4_140 : xchkL 4 (140, [1, 0, 78]) 4230 = true := by decide +kernel
theorem wl_4_143 : xchkL 4 (143, [1, 2, 77]) 4227 = true := by decide +kernel
theorem wl_4_147 : xchkL 4 (147, [1, 0, 87]) 5035 = true := by decide +kernel
theorem wl_4_151 : xchkL 4 (151, [0, 4, 7, 0]) 2030 = true := by decide +kernel
theorem wl_4_154 : xchkL 4 (154, [1, 0, 76]) 4223 = true := by decide +kernel
theorem wl_4_158 : xchkL 4 (158, [1, 0, 79]) 4234 = true := by decide +kernel
theorem wl_4_162 : xchkL 4 (162, [0, 1, 5, 1]) 2008 = true := by decide +kernel
theorem wl_4_165 : xchkL 4 (165, [1, 0, 81]) 5006 = true := by decide +kernel
theorem wl_4_168 : xchkL 4 (168, [1, 0, 82]) 5010 = true := by decide +kernel
theorem wl_4_171 : xchkL 4 (171, [0, 1, 3, 1]) 2004 = true := by decide +kernel
theorem wl_4_174 : xchkL 4 (174, [0, 1, 1, 1]) 2000 = true := by decide +kernel
theorem wl_4_177 : xchkL 4 (177, [1, 1, 16]) 4238 = true := by decide +kernel
theorem wl_4_180 : xchkL 4 (180, [0, 1, 2, 1]) 2002 = true := by decide +kernel
theorem wl_4_183 : xchkL 4 (183, [1, 0, 80]) 5002 = true := by decide +kernel
theorem wl_4_187 : xchkL 4 (187, [1, 0, 83]) 5014 = true := by decide +kernel
def xLQ_4_0 : List ((Nat × List Nat) × Nat) := [((3, [2]), 1228), ((9, [6, 1]), 1229), ((11, [0, 4, 0, 0]), 2022), ((19, [0, 4, 1, 0]), 2023), ((23, [0, 4, 2, 0]), 2024), ((27, [0, 4, 3, 0]), 2025), ((30, [0, 4, 4, 0]), 2026), ((33, [0, 4, 5, 0]), 2027), ((36, [0, 4, 6, 0]), 2029), ((39, [0, 4, 8, 0]), 2031), ((42, [8]), 1231), ((44, [0, 4, 9, 0]), 2032), ((47, [0, 4, 10, 0]), 2033), ((50, [0, 4, 11, 0]), 2035), ((53, [0, 4, 12, 0]), 2036), ((56, [0, 4, 13, 0]), 2038), ((59, [1, 5, 12]), 1234), ((60, [0, 8, 3, 1]), 1206), ((65, [13]), 4137), ((71, [1, 1, 125]), 4138)]
theorem xLQ_4_0_ok : ∀ q ∈ xLQ_4_0, xchkL 4 q.1 q.2 = true := List.forall_mem_cons.mpr ⟨wl_4_3, List.forall_mem_cons.mpr ⟨wl_4_9, List.forall_mem_cons.mpr ⟨wl_4_11, List.forall_mem_cons.mpr ⟨wl_4_19, List.forall_mem_cons.mpr ⟨wl_4_23, List.forall_mem_cons.mpr ⟨wl_4_27, List.forall_mem_cons.mpr ⟨wl_4_30, List.forall_mem_cons.mpr ⟨wl_4_33, List.forall_mem_cons.mpr ⟨wl_4_36, List.forall_mem_cons.mpr ⟨wl_4_39, List.forall_mem_cons.mpr ⟨wl_4_42, List.forall_mem_cons.mpr ⟨wl_4_44, List.forall_mem_cons.mpr ⟨wl_4_47, List.forall_mem_cons.mpr ⟨wl_4_50, List.forall_mem_cons.mpr ⟨wl_4_53, List.forall_mem_cons.mpr ⟨wl_4_56, List.forall_mem_cons.mpr ⟨wl_4_59, List.forall_mem_cons.mpr ⟨wl_4_60, List.forall_mem_cons.mpr ⟨wl_4_65, List.forall_mem_cons.mpr ⟨wl_4_71, fun _ h => absurd h List.not_mem_nil⟩⟩⟩⟩⟩⟩⟩⟩⟩⟩⟩⟩⟩⟩⟩⟩⟩⟩⟩⟩
def xLQ_4_1 : List ((Nat × List Nat) × Nat) := [((75, [1, 1, 123]), 4142), ((78, [0, 9, 2, 1]), 1127), ((81, [1, 1, 133]), 4143), ((84, [1, 1, 134]), 4144), ((88, [1, 1, 135]), 4148), ((91, [1, 1, 136]), 4152), ((94, [0, 4, 14, 0]), 2039), ((96, [1, 1, 137]), 4156), ((99, [0, 4, 15, 0]), 2040), ((103, [1, 1, 138]), 4160), ((106, [0, 4, 16, 0]), 2041), ((109, [1, 1, 139]), 4164), ((112, [0, 4, 17, 0]), 2044), ((115, [1, 0, 71]), 4176), ((119, [1, 1, 13]), 4181), ((123, [0, 1, 4, 1]), 2006), ((126, [1, 3, 147]), 4180), ((132, [1, 0, 74]), 4214), ((135, [1, 2, 294]), 4218), ((140, [1, 0, 78]), 4230)]
theorem xLQ_4_1_ok : ∀ q ∈ xLQ_4_1, xchkL 4 q.1 q.2 = true := List.forall_mem_cons.mpr ⟨wl_4_75, List.forall_mem_cons.mpr ⟨wl_4_78, List.forall_mem_cons.mpr ⟨wl_4_81, List.forall_mem_cons.mpr ⟨wl_4_84, List.forall_mem_cons.mpr ⟨wl_4_88, List.forall_mem_cons.mpr ⟨wl_4_91, List.forall_mem_cons.mpr ⟨wl_4_94, List.forall_mem_cons.mpr ⟨wl_4_96, List.forall_mem_cons.mpr ⟨wl_4_99, List.forall_mem_cons.mpr ⟨wl_4_103, List.forall_mem_cons.mpr ⟨wl_4_106, List.forall_mem_cons.mpr ⟨wl_4_109, List.forall_mem_cons.mpr ⟨wl_4_112, List.forall_mem_cons.mpr ⟨wl_4_115, List.forall_mem_cons.mpr ⟨wl_4_119, List.forall_mem_cons.mpr ⟨wl_4_123, List.forall_mem_cons.mpr ⟨wl_4_126, List.forall_mem_cons.mpr ⟨wl_4_132, List.forall_mem_cons.mpr ⟨wl_4_135, List.forall_mem_cons.mpr ⟨wl_4_140, fun _ h => absurd h List.not_mem_nil⟩⟩⟩⟩⟩⟩⟩⟩⟩⟩⟩⟩⟩⟩⟩⟩⟩⟩⟩⟩
def xLQ_4_2 : List ((Nat × List Nat) × Nat) := [((143, [1, 2, 77]), 4227), ((147, [1, 0, 87]), 5035), ((151, [0, 4, 7, 0]), 2030), ((154, [1, 0, 76]), 4223), ((158, [1, 0, 79]), 4234), ((162, [0, 1, 5, 1]), 2008), ((165, [1, 0, 81]), 5006), ((168, [1, 0, 82]), 5010), ((171, [0, 1, 3, 1]), 2004), ((174, [0, 1, 1, 1]), 2000), ((177, [1, 1, 16]), 4238), ((180, [0, 1, 2, 1]), 2002), ((183, [1, 0, 80]), 5002), ((187, [1, 0, 83]), 5014)]
theorem xLQ_4_2_ok : ∀ q ∈ xLQ_4_2, xchkL 4 q.1 q.2 = true := List.forall_mem_cons.mpr ⟨wl_4_143, List.forall_mem_cons.mpr ⟨wl_4_147, List.forall_mem_cons.mpr ⟨wl_4_151, List.forall_mem_cons.mpr ⟨wl_4_154, List.forall_mem_cons.mpr ⟨wl_4_158, List.forall_mem_cons.mpr ⟨wl_4_162, List.forall_mem_cons.mpr ⟨wl_4_165, List.forall_mem_cons.mpr ⟨wl_4_168, List.forall_mem_cons.mpr ⟨wl_4_171, List.forall_mem_cons.mpr ⟨wl_4_174, List.forall_mem_cons.mpr ⟨wl_4_177, List.forall_mem_cons.mpr ⟨wl_4_180, List.forall_mem_cons.mpr ⟨wl_4_183, List.forall_mem_cons.mpr ⟨wl_4_187, fun _ h => absurd h List.not_mem_nil⟩⟩⟩⟩⟩⟩⟩⟩⟩⟩⟩⟩⟩⟩
def xLQ_4 : List ((Nat × List Nat) × Nat) := xLQ_4_0 ++ (xLQ_4_1 ++ (xLQ_4_2))
theorem xLQ_4_ok : ∀ q ∈ xLQ_4, xchkL 4 q.1 q.2 = true := List.forall_mem_append.mpr ⟨xLQ_4_0_ok, List.forall_mem_append.mpr ⟨xLQ_4_1_ok, xLQ_4_2_ok⟩⟩
theorem xLQ_4_is : xLkL 4 = xLQ_4.map (fun q => q.1) := by decide +kernel
theorem wl_5_3 : xchkL 5 (3, [2]) 1038 = true := by decide +kernel
theorem wl_5_9 : xchkL 5 (9, [0, 5, 0, 0]) 1039 = true := by decide +kernel
theorem wl_5_15 : xchkL 5 (15, [0, 5, 1, 0]) 1042 = true := by decide +kernel
theorem wl_5_19 : xchkL 5 (19, [1, 3, 145]) 4051 = true := by decide +kernel
def xLQ_5_0 : List ((Nat × List Nat) × Nat) := [((3, [2]), 1038), ((9, [0, 5, 0, 0]), 1039), ((15, [0, 5, 1, 0]), 1042), ((19, [1, 3, 145]), 4051)]
theorem xLQ_5_0_ok : ∀ q ∈ xLQ_5_0, xchkL 5 q.1 q.2 = true := List.forall_mem_cons.mpr ⟨wl_5_3, List.forall_mem_cons.mpr ⟨wl_5_9, List.forall_mem_cons.mpr ⟨wl_5_15, List.forall_mem_cons.mpr ⟨wl_5_19, fun _ h => absurd h List.not_mem_nil⟩⟩⟩⟩
def xLQ_5 : List ((Nat × List Nat) × Nat) := xLQ_5_0
theorem xLQ_5_ok : ∀ q ∈ xLQ_5, xchkL 5 q.1 q.2 = true := xLQ_5_0_ok
theorem xLQ_5_is : xLkL 5 = xLQ_5.map (fun q => q.1) := by decide +kernel
theorem wl_6_3 : xchkL 6 (3, [2]) 1054 = true := by decide +kernel
theorem wl_6_9 : xchkL 6 (9, [0, 6, 0, 0]) 1055 = true := by decide +kernel
theorem wl_6_15 : xchkL 6 (15, [13]) 2219 = true := by decide +kernel
theorem wl_6_21 : xchkL 6 (21, [0, 6, 1, 0]) 1057 = true := by decide +kernel
theorem wl_6_25 : xchkL 6 (25, [0, 6, 3, 0]) 1061 = true := by decide +kernel
theorem wl_6_28 : xchkL 6 (28, [0, 6, 5, 0]) 1067 = true := by decide +kernel
theorem wl_6_31 : xchkL 6 (31, [1, 0, 99]) 2222 = true := by decide +kernel
theorem wl_6_34 : xchkL 6 (34, [0, 6, 2, 0]) 1058 = true := by decide +kernel
theorem wl_6_37 : xchkL 6 (37, [1, 3, 145]) 2226 = true := by decide +kernel
theorem wl_6_41 : xchkL 6 (41, [1, 3, 146]) 2229 = true := by decide +kernel
theorem wl_6_44 : xchkL 6 (44, [1, 2, 100]) 2232 = true := by decide +kernel
theorem wl_6_47 : xchkL 6 (47, [0, 6, 4, 0]) 1063 = true := by decide +kernel
theorem wl_6_50 : xchkL 6 (50, [4]) 3019 = true := by decide +kernel
theorem wl_6_55 : xchkL 6 (55, [5]) 3029 = true := by decide +kernel
theorem wl_6_59 : xchkL 6 (59, [1, 0, 103]) 3067 = true := by decide +kernel
theorem wl_6_63 : xchkL 6 (63, [1, 0, 104]) 3071 = true := by decide +kernel
theorem wl_6_66 : xchkL 6 (66, [1, 0, 106]) 3079 = true := by decide +kernel
theorem wl_6_70 : xchkL 6 (70, [1, 0, 105]) 3075 = true := by decide +kernel
theorem wl_6_74 : xchkL 6 (74, [1, 0, 102]) 3015 = true := by decide +kernel
def xLQ_6_0 : List ((Nat × List Nat) × Nat) := [((3, [2]), 1054), ((9, [0, 6, 0, 0]), 1055), ((15, [13]), 2219), ((21, [0, 6, 1, 0]), 1057), ((25, [0, 6, 3, 0]), 1061), ((28, [0, 6, 5, 0]), 1067), ((31, [1, 0, 99]), 2222), ((34, [0, 6, 2, 0]), 1058), ((37, [1, 3, 145]), 2226), ((41, [1, 3, 146]), 2229), ((44, [1, 2, 100]), 2232), ((47, [0, 6, 4, 0]), 1063), ((50, [4]), 3019), ((55, [5]), 3029), ((59, [1, 0, 103]), 3067), ((63, [1, 0, 104]), 3071), ((66, [1, 0, 106]), 3079), ((70, [1, 0, 105]), 3075), ((74, [1, 0, 102]), 3015)]
theorem xLQ_6_0_ok : ∀ q ∈ xLQ_6_0, xchkL 6 q.1 q.2 = true := List.forall_mem_cons.mpr ⟨wl_6_3, List.forall_mem_cons.mpr ⟨wl_6_9, List.forall_mem_cons.mpr ⟨wl_6_15, List.forall_mem_cons.mpr ⟨wl_6_21, List.forall_mem_cons.mpr ⟨wl_6_25, List.forall_mem_cons.mpr ⟨wl_6_28, List.forall_mem_cons.mpr ⟨wl_6_31, List.forall_mem_cons.mpr ⟨wl_6_34, List.forall_mem_cons.mpr ⟨wl_6_37, List.forall_mem_cons.mpr ⟨wl_6_41, List.forall_mem_cons.mpr ⟨wl_6_44, List.forall_mem_cons.mpr ⟨wl_6_47, List.forall_mem_cons.mpr ⟨wl_6_50, List.forall_mem_cons.mpr ⟨wl_6_55, List.forall_mem_cons.mpr ⟨wl_6_59, List.forall_mem_cons.mpr ⟨wl_6_63, List.forall_mem_cons.mpr ⟨wl_6_66, List.forall_mem_cons.mpr ⟨wl_6_70, List.forall_mem_cons.mpr ⟨wl_6_74, fun _ h => absurd h List.not_mem_nil⟩⟩⟩⟩⟩⟩⟩⟩⟩⟩⟩⟩⟩⟩⟩⟩⟩⟩⟩
def xLQ_6 : List ((Nat × List Nat) × Nat) := xLQ_6_0
theorem xLQ_6_ok : ∀ q ∈ xLQ_6, xchkL 6 q.1 q.2 = true := xLQ_6_0_ok
theorem xLQ_6_is : xLkL 6 = xLQ_6.map (fun q => q.1) := by decide +kernel
theorem wl_7_3 : xchkL 7 (3, [1, 5, 292]) 1087 = true := by decide +kernel
theorem wl_7_11 : xchkL 7 (11, [9]) 1091 = true := by decide +kernel
theorem wl_7_12 : xchkL 7 (12, [0, 7, 0, 0]) 1092 = true := by decide +kernel
theorem wl_7_16 : xchkL 7 (16, [0, 7, 1, 0]) 1093 = true := by decide +kernel
theorem wl_7_20 : xchkL 7 (20, [0, 7, 3, 0]) 1095 = true := by decide +kernel
theorem wl_7_23 : xchkL 7 (23, [0, 7, 2, 0]) 1094 = true := by decide +kernel
theorem wl_7_26 : xchkL 7 (26, [0, 7, 4, 0]) 1096 = true := by decide +kernel
theorem wl_7_29 : xchkL 7 (29, [0, 7, 5, 0]) 1097 = true := by decide +kernel
theorem wl_7_32 : xchkL 7 (32, [1, 0, 112]) 3089 = true := by decide +kernel
theorem wl_7_36 : xchkL 7 (36, [1, 2, 113]) 3095 = true := by decide +kernel
theorem wl_7_40 : xchkL 7 (40, [1, 0, 115]) 3103 = true := by decide +kernel
theorem wl_7_43 : xchkL 7 (43, [0, 6, 4, 1]) 1064 = true := by decide +kernel
theorem wl_7_48 : xchkL 7 (48, [1, 1, 105]) 3093 = true := by decide +kernel
theorem wl_7_52 : xchkL 7 (52, [0, 6, 2, 1]) 1059 = true := by decide +kernel
theorem wl_7_55 : xchkL 7 (55, [0, 6, 3, 1]) 1062 = true := by decide +kernel
theorem wl_7_58 : xchkL 7 (58, [0, 6, 0, 1]) 1056 = true := by decide +kernel
theorem wl_7_62 : xchkL 7 (62, [1, 1, 99]) 3094 = true := by decide +kernel
theorem wl_7_65 : xchkL 7 (65, [11, 1]) 3107 = true := by decide +kernel
theorem wl_7_67 : xchkL 7 (67, [1, 1, 102]) 3108 = true := by decide +kernel
theorem wl_7_71 : xchkL 7 (71, [1, 1, 104]) 3098 = true := by decide +kernel
theorem wl_7_75 : xchkL 7 (75, [1, 1, 106]) 3099 = true := by decide +kernel
theorem wl_7_79 : xchkL 7 (79, [1, 2, 114]) 3100 = true := by decide +kernel
theorem wl_7_83 : xchkL 7 (83, [1, 0, 117]) 3160 = true := by decide +kernel
theorem wl_7_86 : xchkL 7 (86, [1, 0, 119]) 3168 = true := by decide +kernel
theorem wl_7_89 : xchkL 7 (89, [1, 2, 294]) 3173 = true := by decide +kernel
theorem wl_7_95 : xchkL 7 (95, [12]) 3179 = true := by decide +kernel
theorem wl_7_101 : xchkL 7 (101, [1, 3, 145]) 3164 = true := by decide +kernel
theorem wl_7_105 : xchkL 7 (105, [1, 2, 118]) 3165 = true := by decide +kernel
theorem wl_7_109 : xchkL 7 (109, [13]) 3172 = true := by decide +kernel
def xLQ_7_0 : List ((Nat × List Nat) × Nat) := [((3, [1, 5, 292]), 1087), ((11, [9]), 1091), ((12, [0, 7, 0, 0]), 1092), ((16, [0, 7, 1, 0]), 1093), ((20, [0, 7, 3, 0]), 1095), ((23, [0, 7, 2, 0]), 1094), ((26, [0, 7, 4, 0]), 1096), ((29, [0, 7, 5, 0]), 1097), ((32, [1, 0, 112]), 3089), ((36, [1, 2, 113]), 3095), ((40, [1, 0, 115]), 3103), ((43, [0, 6, 4, 1]), 1064), ((48, [1, 1, 105]), 3093), ((52, [0, 6, 2, 1]), 1059), ((55, [0, 6, 3, 1]), 1062), ((58, [0, 6, 0, 1]), 1056), ((62, [1, 1, 99]), 3094), ((65, [11, 1]), 3107), ((67, [1, 1, 102]), 3108), ((71, [1, 1, 104]), 3098)]
theorem xLQ_7_0_ok : ∀ q ∈ xLQ_7_0, xchkL 7 q.1 q.2 = true := List.forall_mem_cons.mpr ⟨wl_7_3, List.forall_mem_cons.mpr ⟨wl_7_11, List.forall_mem_cons.mpr ⟨wl_7_12, List.forall_mem_cons.mpr ⟨wl_7_16, List.forall_mem_cons.mpr ⟨wl_7_20, List.forall_mem_cons.mpr ⟨wl_7_23, List.forall_mem_cons.mpr ⟨wl_7_26, List.forall_mem_cons.mpr ⟨wl_7_29, List.forall_mem_cons.mpr ⟨wl_7_32, List.forall_mem_cons.mpr ⟨wl_7_36, List.forall_mem_cons.mpr ⟨wl_7_40, List.forall_mem_cons.mpr ⟨wl_7_43, List.forall_mem_cons.mpr ⟨wl_7_48, List.forall_mem_cons.mpr ⟨wl_7_52, List.forall_mem_cons.mpr ⟨wl_7_55, List.forall_mem_cons.mpr ⟨wl_7_58, List.forall_mem_cons.mpr ⟨wl_7_62, List.forall_mem_cons.mpr ⟨wl_7_65, List.forall_mem_cons.mpr ⟨wl_7_67, List.forall_mem_cons.mpr ⟨wl_7_71, fun _ h => absurd h List.not_mem_nil⟩⟩⟩⟩⟩⟩⟩⟩⟩⟩⟩⟩⟩⟩⟩⟩⟩⟩⟩⟩
def xLQ_7_1 : List ((Nat × List Nat) × Nat) := [((75, [1, 1, 106]), 3099), ((79, [1, 2, 114]), 3100), ((83, [1, 0, 117]), 3160), ((86, [1, 0, 119]), 3168), ((89, [1, 2, 294]), 3173), ((95, [12]), 3179), ((101, [1, 3, 145]), 3164), ((105, [1, 2, 118]), 3165), ((109, [13]), 3172)]
theorem xLQ_7_1_ok : ∀ q ∈ xLQ_7_1, xchkL 7 q.1 q.2 = true := List.forall_mem_cons.mpr ⟨wl_7_75, List.forall_mem_cons.mpr ⟨wl_7_79, List.forall_mem_cons.mpr ⟨wl_7_83, List.forall_mem_cons.mpr ⟨wl_7_86, List.forall_mem_cons.mpr ⟨wl_7_89, List.forall_mem_cons.mpr ⟨wl_7_95, List.forall_mem_cons.mpr ⟨wl_7_101, List.forall_mem_cons.mpr ⟨wl_7_105, List.forall_mem_cons.mpr ⟨wl_7_109, fun _ h => absurd h List.not_mem_nil⟩⟩⟩⟩⟩⟩⟩⟩⟩
def xLQ_7 : List ((Nat × List Nat) × Nat) := xLQ_7_0 ++ (xLQ_7_1)
theorem xLQ_7_ok : ∀ q ∈ xLQ_7, xchkL 7 q.1 q.2 = true := List.forall_mem_append.mpr ⟨xLQ_7_0_ok, xLQ_7_1_ok⟩
theorem xLQ_7_is : xLkL 7 = xLQ_7.map (fun q => q.1) := by decide +kernel
theorem wl_8_3 : xchkL 8 (3, [2]) 1201 = true := by decide +kernel
theorem wl_8_9 : xchkL 8 (9, [0, 8, 0, 0]) 1202 = true := by decide +kernel
theorem wl_8_15 : xchkL 8 (15, [0, 8, 1, 0]) 1203 = true := by decide +kernel
theorem wl_8_19 : xchkL 8 (19, [0, 8, 2, 0]) 1204 = true := by decide +kernel
theorem wl_8_22 : xchkL 8 (22, [0, 8, 3, 0]) 1205 = true := by decide +kernel
theorem wl_8_26 : xchkL 8 (26, [1, 3, 145]) 4030 = true := by decide +kernel
theorem wl_8_30 : xchkL 8 (30, [1, 0, 123]) 3152 = true := by decide +kernel
theorem wl_8_34 : xchkL 8 (34, [1, 1, 116]) 3156 = true := by decide +kernel
def xLQ_8_0 : List ((Nat × List Nat) × Nat) := [((3, [2]), 1201), ((9, [0, 8, 0, 0]), 1202), ((15, [0, 8, 1, 0]), 1203), ((19, [0, 8, 2, 0]), 1204), ((22, [0, 8, 3, 0]), 1205), ((26, [1, 3, 145]), 4030), ((30, [1, 0, 123]), 3152), ((34, [1, 1, 116]), 3156)]
theorem xLQ_8_0_ok : ∀ q ∈ xLQ_8_0, xchkL 8 q.1 q.2 = true := List.forall_mem_cons.mpr ⟨wl_8_3, List.forall_mem_cons.mpr ⟨wl_8_9, List.forall_mem_cons.mpr ⟨wl_8_15, List.forall_mem_cons.mpr ⟨wl_8_19, List.forall_mem_cons.mpr ⟨wl_8_22, List.forall_mem_cons.mpr ⟨wl_8_26, List.forall_mem_cons.mpr ⟨wl_8_30, List.forall_mem_cons.mpr ⟨wl_8_34, fun _ h => absurd h List.not_mem_nil⟩⟩⟩⟩⟩⟩⟩⟩
def xLQ_8 : List ((Nat × List Nat) × Nat) := xLQ_8_0
theorem xLQ_8_ok : ∀ q ∈ xLQ_8, xchkL 8 q.1 q.2 = true := xLQ_8_0_ok
theorem xLQ_8_is : xLkL 8 = xLQ_8.map (fun q => q.1) := by decide +kernel
theorem wl_9_3 : xchkL 9 (3, [1, 5, 292]) 1117 = true := by decide +kernel
theorem wl_9_11 : xchkL 9 (11, [0, 9, 0, 0]) 1125 = true := by decide +kernel
theorem wl_9_15 : xchkL 9 (15, [0, 9, 1, 0]) 1126 = true := by decide +kernel
theorem wl_9_18 : xchkL 9 (18, [1, 0, 127]) 1118 = true := by decide +kernel
theorem wl_9_21 : xchkL 9 (21, [1, 2, 295]) 1122 = true := by decide +kernel
theorem wl_9_27 : xchkL 9 (27, [0, 9, 2, 0]) 1128 = true := by decide +kernel
theorem wl_9_31 : xchkL 9 (31, [1, 0, 130]) 3112 = true := by decide +kernel
theorem wl_9_35 : xchkL 9 (35, [1, 0, 131]) 3123 = true := by decide +kernel
theorem wl_9_38 : xchkL 9 (38, [1, 2, 132]) 3130 = true := by decide +kernel
theorem wl_9_42 : xchkL 9 (42, [1, 1, 102]) 3139 = true := by decide +kernel
theorem wl_9_48 : xchkL 9 (48, [1, 1, 105]) 3116 = true := by decide +kernel
theorem wl_9_52 : xchkL 9 (52, [1, 1, 99]) 3122 = true := by decide +kernel
theorem wl_9_55 : xchkL 9 (55, [11, 2]) 3133 = true := by decide +kernel
theorem wl_9_57 : xchkL 9 (57, [11, 3]) 3134 = true := by decide +kernel
theorem wl_9_59 : xchkL 9 (59, [11, 4]) 3135 = true := by decide +kernel
theorem wl_9_61 : xchkL 9 (61, [11, 5]) 3136 = true := by decide +kernel
theorem wl_9_63 : xchkL 9 (63, [11, 6]) 3137 = true := by decide +kernel
theorem wl_9_65 : xchkL 9 (65, [11, 7]) 3138 = true := by decide +kernel
theorem wl_9_67 : xchkL 9 (67, [0, 6, 4, 1]) 1066 = true := by decide +kernel
theorem wl_9_70 : xchkL 9 (70, [1, 1, 107]) 3117 = true := by decide +kernel
theorem wl_9_74 : xchkL 9 (74, [1, 1, 106]) 3121 = true := by decide +kernel
theorem wl_9_78 : xchkL 9 (78, [1, 3, 147]) 3127 = true := by decide +kernel
def xLQ_9_0 : List ((Nat × List Nat) × Nat) := [((3, [1, 5, 292]), 1117), ((11, [0, 9, 0, 0]), 1125), ((15, [0, 9, 1, 0]), 1126), ((18, [1, 0, 127]), 1118), ((21, [1, 2, 295]), 1122), ((27, [0, 9, 2, 0]), 1128), ((31, [1, 0, 130]), 3112), ((35, [1, 0, 131]), 3123), ((38, [1, 2, 132]), 3130), ((42, [1, 1, 102]), 3139), ((48, [1, 1, 105]), 3116), ((52, [1, 1, 99]), 3122), ((55, [11, 2]), 3133), ((57, [11, 3]), 3134), ((59, [11, 4]), 3135), ((61, [11, 5]), 3136), ((63, [11, 6]), 3137), ((65, [11, 7]), 3138), ((67, [0, 6, 4, 1]), 1066), ((70, [1, 1, 107]), 3117)]
theorem xLQ_9_0_ok : ∀ q ∈ xLQ_9_0, xchkL 9 q.1 q.2 = true := List.forall_mem_cons.mpr ⟨wl_9_3, List.forall_mem_cons.mpr ⟨wl_9_11, List.forall_mem_cons.mpr ⟨wl_9_15, List.forall_mem_cons.mpr ⟨wl_9_18, List.forall_mem_cons.mpr ⟨wl_9_21, List.forall_mem_cons.mpr ⟨wl_9_27, List.forall_mem_cons.mpr ⟨wl_9_31, List.forall_mem_cons.mpr ⟨wl_9_35, List.forall_mem_cons.mpr ⟨wl_9_38, List.forall_mem_cons.mpr ⟨wl_9_42, List.forall_mem_cons.mpr ⟨wl_9_48, List.forall_mem_cons.mpr ⟨wl_9_52, List.forall_mem_cons.mpr ⟨wl_9_55, List.forall_mem_cons.mpr ⟨wl_9_57, List.forall_mem_cons.mpr ⟨wl_9_59, List.forall_mem_cons.mpr ⟨wl_9_61, List.forall_mem_cons.mpr ⟨wl_9_63, List.forall_mem_cons.mpr ⟨wl_9_65, List.forall_mem_cons.mpr ⟨wl_9_67, List.forall_mem_cons.mpr ⟨wl_9_70, fun _ h => absurd h List.not_mem_nil⟩⟩⟩⟩⟩⟩⟩⟩⟩⟩⟩⟩⟩⟩⟩⟩⟩⟩⟩⟩
def xLQ_9_1 : List ((Nat × List Nat) × Nat) := [((74, [1, 1, 106]), 3121), ((78, [1, 3, 147]), 3127)]
theorem xLQ_9_1_ok : ∀ q ∈ xLQ_9_1, xchkL 9 q.1 q.2 = true := List.forall_mem_cons.mpr ⟨wl_9_74, List.forall_mem_cons.mpr ⟨wl_9_78, fun _ h => absurd h List.not_mem_nil⟩⟩
def xLQ_9 : List ((Nat × List Nat) × Nat) := xLQ_9_0 ++ (xLQ_9_1)
theorem xLQ_9_ok : ∀ q ∈ xLQ_9, xchkL 9 q.1 q.2 = true := List.forall_mem_append.mpr ⟨xLQ_9_0_ok, xLQ_9_1_ok⟩
theorem xLQ_9_is : xLkL 9 = xLQ_9.map (fun q => q.1) := by decide +kernel
theorem wl_10_1 : xchkL 10 (1, [2]) 1030 = true := by decide +kernel
theorem wl_10_7 : xchkL 10 (7, [6, 5]) 1033 = true := by decide +kernel
theorem wl_10_9 : xchkL 10 (9, [1, 5, 91]) 1035 = true := by decide +kernel
theorem wl_10_10 : xchkL 10 (10, [0, 10, 0, 0]) 2137 = true := by decide +kernel
theorem wl_10_16 : xchkL 10 (16, [6, 6]) 1049 = true := by decide +kernel
theorem wl_10_18 : xchkL 10 (18, [1, 5, 97]) 1051 = true := by decide +kernel
theorem wl_10_19 : xchkL 10 (19, [0, 10, 1, 0]) 2138 = true := by decide +kernel
theorem wl_10_23 : xchkL 10 (23, [6, 7]) 1082 = true := by decide +kernel
theorem wl_10_25 : xchkL 10 (25, [1, 5, 109]) 1084 = true := by decide +kernel
theorem wl_10_26 : xchkL 10 (26, [0, 10, 2, 0]) 2139 = true := by decide +kernel
theorem wl_10_30 : xchkL 10 (30, [0, 10, 3, 0]) 2140 = true := by decide +kernel
theorem wl_10_33 : xchkL 10 (33, [6, 9]) 1112 = true := by decide +kernel
theorem wl_10_35 : xchkL 10 (35, [1, 5, 126]) 1114 = true := by decide +kernel
theorem wl_10_36 : xchkL 10 (36, [0, 10, 4, 0]) 2141 = true := by decide +kernel
theorem wl_10_40 : xchkL 10 (40, [0, 10, 5, 0]) 2142 = true := by decide +kernel
theorem wl_10_43 : xchkL 10 (43, [6, 3]) 1137 = true := by decide +kernel
theorem wl_10_45 : xchkL 10 (45, [0, 10, 6, 0]) 2143 = true := by decide +kernel
theorem wl_10_49 : xchkL 10 (49, [1, 5, 41]) 1140 = true := by decide +kernel
theorem wl_10_50 : xchkL 10 (50, [0, 10, 7, 0]) 2144 = true := by decide +kernel
theorem wl_10_54 : xchkL 10 (54, [6, 8]) 1196 = true := by decide +kernel
theorem wl_10_56 : xchkL 10 (56, [1, 5, 121]) 1198 = true := by decide +kernel
theorem wl_10_57 : xchkL 10 (57, [0, 10, 8, 0]) 2145 = true := by decide +kernel
theorem wl_10_61 : xchkL 10 (61, [0, 10, 9, 0]) 2146 = true := by decide +kernel
theorem wl_10_64 : xchkL 10 (64, [0, 10, 10, 0]) 2147 = true := by decide +kernel
theorem wl_10_67 : xchkL 10 (67, [0, 10, 12, 0]) 2149 = true := by decide +kernel
theorem wl_10_71 : xchkL 10 (71, [6, 2]) 1217 = true := by decide +kernel
theorem wl_10_73 : xchkL 10 (73, [1, 5, 17]) 1219 = true := by decide +kernel
theorem wl_10_74 : xchkL 10 (74, [0, 10, 15, 0]) 2152 = true := by decide +kernel
theorem wl_10_78 : xchkL 10 (78, [0, 2, 0, 1]) 2083 = true := by decide +kernel
theorem wl_10_82 : xchkL 10 (82, [0, 10, 14, 0]) 2151 = true := by decide +kernel
theorem wl_10_83 : xchkL 10 (83, [6, 0]) 2108 = true := by decide +kernel
theorem wl_10_85 : xchkL 10 (85, [1, 5, 0]) 2110 = true := by decide +kernel
theorem wl_10_86 : xchkL 10 (86, [0, 10, 16, 0]) 2153 = true := by decide +kernel
theorem wl_10_92 : xchkL 10 (92, [0, 10, 17, 0]) 2154 = true := by decide +kernel
theorem wl_10_96 : xchkL 10 (96, [0, 5, 1, 1]) 1041 = true := by decide +kernel
theorem wl_10_100 : xchkL 10 (100, [1, 1, 92]) 2199 = true := by decide +kernel
theorem wl_10_104 : xchkL 10 (104, [0, 5, 0, 1]) 1040 = true := by decide +kernel
theorem wl_10_107 : xchkL 10 (107, [1, 1, 93]) 2211 = true := by decide +kernel
theorem wl_10_111 : xchkL 10 (111, [1, 1, 98]) 2215 = true := by decide +kernel
theorem wl_10_115 : xchkL 10 (115, [11, 0]) 2235 = true := by decide +kernel
theorem wl_10_117 : xchkL 10 (117, [3, 293, 9999]) 2236 = true := by decide +kernel
theorem wl_10_121 : xchkL 10 (121, [0, 6, 5, 1]) 1068 = true := by decide +kernel
theorem wl_10_124 : xchkL 10 (124, [0, 10, 11, 0]) 2148 = true := by decide +kernel
theorem wl_10_127 : xchkL 10 (127, [0, 6, 2, 1]) 1060 = true := by decide +kernel
theorem wl_10_130 : xchkL 10 (130, [1, 0, 148]) 3144 = true := by decide +kernel
theorem wl_10_133 : xchkL 10 (133, [11, 8]) 3205 = true := by decide +kernel
theorem wl_10_135 : xchkL 10 (135, [3, 9999, 293]) 3206 = true := by decide +kernel
theorem wl_10_136 : xchkL 10 (136, [1, 2, 147]) 3186 = true := by decide +kernel
theorem wl_10_140 : xchkL 10 (140, [1, 1, 45]) 3213 = true := by decide +kernel
theorem wl_10_143 : xchkL 10 (143, [0, 3, 10, 1]) 1160 = true := by decide +kernel
theorem wl_10_144 : xchkL 10 (144, [1, 1, 42]) 3187 = true := by decide +kernel
theorem wl_10_148 : xchkL 10 (148, [1, 1, 124]) 4026 = true := by decide +kernel
theorem wl_10_151 : xchkL 10 (151, [1, 1, 122]) 3148 = true := by decide +kernel
theorem wl_10_152 : xchkL 10 (152, [0, 8, 3, 1]) 1207 = true := by decide +kernel
theorem wl_10_155 : xchkL 10 (155, [1, 0, 149]) 3182 = true := by decide +kernel
theorem wl_10_159 : xchkL 10 (159, [0, 3, 9, 1]) 1158 = true := by decide +kernel
theorem wl_10_163 : xchkL 10 (163, [0, 3, 8, 1]) 1156 = true := by decide +kernel
theorem wl_10_166 : xchkL 10 (166, [1, 1, 94]) 4047 = true := by decide +kernel
theorem wl_10_169 : xchkL 10 (169, [1, 1, 116]) 4052 = true := by decide +kernel
theorem wl_10_173 : xchkL 10 (173, [1, 1, 120]) 4057 = true := by decide +kernel
theorem wl_10_177 : xchkL 10 (177, [1, 1, 56]) 4065 = true := by decide +kernel
theorem wl_10_181 : xchkL 10 (181, [1, 1, 62]) 4093 = true := by decide +kernel
theorem wl_10_184 : xchkL 10 (184, [1, 1, 63]) 4097 = true := by decide +kernel
theorem wl_10_188 : xchkL 10 (188, [0, 10, 13, 0]) 2150 = true := by decide +kernel
theorem wl_10_194 : xchkL 10 (194, [1, 1, 1]) 4106 = true := by decide +kernel
theorem wl_10_198 : xchkL 10 (198, [1, 1, 95]) 4121 = true := by decide +kernel
theorem wl_10_202 : xchkL 10 (202, [1, 0, 163]) 4125 = true := by decide +kernel
theorem wl_10_206 : xchkL 10 (206, [1, 1, 69]) 4133 = true := by decide +kernel
theorem wl_10_210 : xchkL 10 (210, [1, 0, 164]) 4168 = true := by decide +kernel
theorem wl_10_213 : xchkL 10 (213, [1, 0, 165]) 4202 = true := by decide +kernel
theorem wl_10_216 : xchkL 10 (216, [0, 10, 18, 0]) 2155 = true := by decide +kernel
theorem wl_10_219 : xchkL 10 (219, [1, 1, 133]) 4129 = true := by decide +kernel
theorem wl_10_222 : xchkL 10 (222, [10]) 5048 = true := by decide +kernel
theorem wl_10_224 : xchkL 10 (224, [1, 1, 65]) 5049 = true := by decide +kernel
theorem wl_10_227 : xchkL 10 (227, [10]) 5054 = true := by decide +kernel
theorem wl_10_229 : xchkL 10 (229, [1, 1, 137]) 5055 = true := by decide +kernel
theorem wl_10_232 : xchkL 10 (232, [1, 2, 168]) 5056 = true := by decide +kernel
theorem wl_10_236 : xchkL 10 (236, [1, 0, 170]) 5067 = true := by decide +kernel
theorem wl_10_239 : xchkL 10 (239, [1, 0, 171]) 5075 = true := by decide +kernel
theorem wl_10_242 : xchkL 10 (242, [1, 1, 140]) 5079 = true := by decide +kernel
theorem wl_10_245 : xchkL 10 (245, [1, 1, 18]) 5083 = true := by decide +kernel
theorem wl_10_249 : xchkL 10 (249, [1, 1, 29]) 5137 = true := by decide +kernel
theorem wl_10_252 : xchkL 10 (252, [1, 0, 174]) 5145 = true := by decide +kernel
theorem wl_10_255 : xchkL 10 (255, [1, 1, 30]) 5149 = true := by decide +kernel
theorem wl_10_259 : xchkL 10 (259, [1, 1, 31]) 5161 = true := by decide +kernel
theorem wl_10_262 : xchkL 10 (262, [1, 1, 38]) 6132 = true := by decide +kernel
theorem wl_10_265 : xchkL 10 (265, [1, 1, 32]) 6133 = true := by decide +kernel
theorem wl_10_268 : xchkL 10 (268, [1, 2, 188]) 6134 = true := by decide +kernel
theorem wl_10_272 : xchkL 10 (272, [1, 1, 89]) 5157 = true := by decide +kernel
theorem wl_10_276 : xchkL 10 (276, [1, 1, 37]) 5187 = true := by decide +kernel
theorem wl_10_279 : xchkL 10 (279, [1, 1, 3]) 5199 = true := by decide +kernel
theorem wl_10_283 : xchkL 10 (283, [1, 0, 178]) 5229 = true := by decide +kernel
theorem wl_10_287 : xchkL 10 (287, [1, 1, 7]) 5237 = true := by decide +kernel
theorem wl_10_291 : xchkL 10 (291, [1, 0, 180]) 6010 = true := by decide +kernel
theorem wl_10_295 : xchkL 10 (295, [1, 0, 182]) 6027 = true := by decide +kernel
theorem wl_10_298 : xchkL 10 (298, [1, 1, 39]) 6031 = true := by decide +kernel
theorem wl_10_301 : xchkL 10 (301, [1, 1, 88]) 5071 = true := by decide +kernel
theorem wl_10_304 : xchkL 10 (304, [1, 1, 70]) 4172 = true := by decide +kernel
theorem wl_10_308 : xchkL 10 (308, [1, 1, 90]) 6044 = true := by decide +kernel
theorem wl_10_311 : xchkL 10 (311, [1, 0, 185]) 6052 = true := by decide +kernel
theorem wl_10_314 : xchkL 10 (314, [0, 9, 2, 1]) 1129 = true := by decide +kernel
theorem wl_10_316 : xchkL 10 (316, [1, 1, 72]) 4206 = true := by decide +kernel
theorem wl_10_319 : xchkL 10 (319, [1, 1, 73]) 4210 = true := by decide +kernel
theorem wl_10_322 : xchkL 10 (322, [1, 1, 75]) 4219 = true := by decide +kernel
theorem wl_10_326 : xchkL 10 (326, [1, 1, 84]) 5018 = true := by decide +kernel
theorem wl_10_329 : xchkL 10 (329, [1, 1, 96]) 5022 = true := by decide +kernel
theorem wl_10_332 : xchkL 10 (332, [1, 1, 85]) 5026 = true := by decide +kernel
theorem wl_10_335 : xchkL 10 (335, [1, 1, 82]) 5030 = true := by decide +kernel
theorem wl_10_338 : xchkL 10 (338, [0, 4, 16, 1]) 2043 = true := by decide +kernel
theorem wl_10_341 : xchkL 10 (341, [1, 1, 86]) 5031 = true := by decide +kernel
theorem wl_10_345 : xchkL 10 (345, [1, 1, 74]) 5039 = true := by decide +kernel
theorem wl_10_348 : xchkL 10 (348, [9]) 5059 = true := by decide +kernel
theorem wl_10_349 : xchkL 10 (349, [14]) 5060 = true := by decide +kernel
theorem wl_10_355 : xchkL 10 (355, [0, 3, 7, 1]) 1154 = true := by decide +kernel
theorem wl_10_358 : xchkL 10 (358, [1, 1, 10]) 6014 = true := by decide +kernel
theorem wl_10_361 : xchkL 10 (361, [1, 1, 11]) 6022 = true := by decide +kernel
def xLQ_10_0 : List ((Nat × List Nat) × Nat) := [((1, [2]), 1030), ((7, [6, 5]), 1033), ((9, [1, 5, 91]), 1035), ((10, [0, 10, 0, 0]), 2137), ((16, [6, 6]), 1049), ((18, [1, 5, 97]), 1051), ((19, [0, 10, 1, 0]), 2138), ((23, [6, 7]), 1082), ((25, [1, 5, 109]), 1084), ((26, [0, 10, 2, 0]), 2139), ((30, [0, 10, 3, 0]), 2140), ((33, [6, 9]), 1112), ((35, [1, 5, 126]), 1114), ((36, [0, 10, 4, 0]), 2141), ((40, [0, 10, 5, 0]), 2142), ((43, [6, 3]), 1137), ((45, [0, 10, 6, 0]), 2143), ((49, [1, 5, 41]), 1140), ((50, [0, 10, 7, 0]), 2144), ((54, [6, 8]), 1196)]
theorem xLQ_10_0_ok : ∀ q ∈ xLQ_10_0, xchkL 10 q.1 q.2 = true := List.forall_mem_cons.mpr ⟨wl_10_1, List.forall_mem_cons.mpr ⟨wl_10_7, List.forall_mem_cons.mpr ⟨wl_10_9, List.forall_mem_cons.mpr ⟨wl_10_10, List.forall_mem_cons.mpr ⟨wl_10_16, List.forall_mem_cons.mpr ⟨wl_10_18, List.forall_mem_cons.mpr ⟨wl_10_19, List.forall_mem_cons.mpr ⟨wl_10_23, List.forall_mem_cons.mpr ⟨wl_10_25, List.forall_mem_cons.mpr ⟨wl_10_26, List.forall_mem_cons.mpr ⟨wl_10_30, List.forall_mem_cons.mpr ⟨wl_10_33, List.forall_mem_cons.mpr ⟨wl_10_35, List.forall_mem_cons.mpr ⟨wl_10_36, List.forall_mem_cons.mpr ⟨wl_10_40, List.forall_mem_cons.mpr ⟨wl_10_43, List.forall_mem_cons.mpr ⟨wl_10_45, List.forall_mem_cons.mpr ⟨wl_10_49, List.forall_mem_cons.mpr ⟨wl_10_50, List.forall_mem_cons.mpr ⟨wl_10_54, fun _ h => absurd h List.not_mem_nil⟩⟩⟩⟩⟩⟩⟩⟩⟩⟩⟩⟩⟩⟩⟩⟩⟩⟩⟩⟩
def xLQ_10_1 : List ((Nat × List Nat) × Nat) := [((56, [1, 5, 121]), 1198), ((57, [0, 10, 8, 0]), 2145), ((61, [0, 10, 9, 0]), 2146), ((64, [0, 10, 10, 0]), 2147), ((67, [0, 10, 12, 0]), 2149), ((71, [6, 2]), 1217), ((73, [1, 5, 17]), 1219), ((74, [0, 10, 15, 0]), 2152), ((78, [0, 2, 0, 1]), 2083), ((82, [0, 10, 14, 0]), 2151), ((83, [6, 0]), 2108), ((85, [1, 5, 0]), 2110), ((86, [0, 10, 16, 0]), 2153), ((92, [0, 10, 17, 0]), 2154), ((96, [0, 5, 1, 1]), 1041), ((100, [1, 1, 92]), 2199), ((104, [0, 5, 0, 1]), 1040), ((107, [1, 1, 93]), 2211), ((111, [1, 1, 98]), 2215), ((115, [11, 0]), 2235)]
theorem xLQ_10_1_ok : ∀ q ∈ xLQ_10_1, xchkL 10 q.1 q.2 = true := List.forall_mem_cons.mpr ⟨wl_10_56, List.forall_mem_cons.mpr ⟨wl_10_57, List.forall_mem_cons.mpr ⟨wl_10_61, List.forall_mem_cons.mpr ⟨wl_10_64, List.forall_mem_cons.mpr ⟨wl_10_67, List.forall_mem_cons.mpr ⟨wl_10_71, List.forall_mem_cons.mpr ⟨wl_10_73, List.forall_mem_cons.mpr ⟨wl_10_74, List.forall_mem_cons.mpr ⟨wl_10_78, List.forall_mem_cons.mpr ⟨wl_10_82, List.forall_mem_cons.mpr ⟨wl_10_83, List.forall_mem_cons.mpr ⟨wl_10_85, List.forall_mem_cons.mpr ⟨wl_10_86, List.forall_mem_cons.mpr ⟨wl_10_92, List.forall_mem_cons.mpr ⟨wl_10_96, List.forall_mem_cons.mpr ⟨wl_10_100, List.forall_mem_cons.mpr ⟨wl_10_104, List.forall_mem_cons.mpr ⟨wl_10_107, List.forall_mem_cons.mpr ⟨wl_10_111, List.forall_mem_cons.mpr ⟨wl_10_115, fun _ h => absurd h List.not_mem_nil⟩⟩⟩⟩⟩⟩⟩⟩⟩⟩⟩⟩⟩⟩⟩⟩⟩⟩⟩⟩
def xLQ_10_2 : List ((Nat × List Nat) × Nat) := [((117, [3, 293, 9999]), 2236), ((121, [0, 6, 5, 1]), 1068), ((124, [0, 10, 11, 0]), 2148), ((127, [0, 6, 2, 1]), 1060), ((130, [1, 0, 148]), 3144), ((133, [11, 8]), 3205), ((135, [3, 9999, 293]), 3206), ((136, [1, 2, 147]), 3186), ((140, [1, 1, 45]), 3213), ((143, [0, 3, 10, 1]), 1160), ((144, [1, 1, 42]), 3187), ((148, [1, 1, 124]), 4026), ((151, [1, 1, 122]), 3148), ((152, [0, 8, 3, 1]), 1207), ((155, [1, 0, 149]), 3182), ((159, [0, 3, 9, 1]), 1158), ((163, [0, 3, 8, 1]), 1156), ((166, [1, 1, 94]), 4047), ((169, [1, 1, 116]), 4052), ((173, [1, 1, 120]), 4057)]
theorem xLQ_10_2_ok : ∀ q ∈ xLQ_10_2, xchkL 10 q.1 q.2 = true := List.forall_mem_cons.mpr ⟨wl_10_117, List.forall_mem_cons.mpr ⟨wl_10_121, List.forall_mem_cons.mpr ⟨wl_10_124, List.forall_mem_cons.mpr ⟨wl_10_127, List.forall_mem_cons.mpr ⟨wl_10_130, List.forall_mem_cons.mpr ⟨wl_10_133, List.forall_mem_cons.mpr ⟨wl_10_135, List.forall_mem_cons.mpr ⟨wl_10_136, List.forall_mem_cons.mpr ⟨wl_10_140, List.forall_mem_cons.mpr ⟨wl_10_143, List.forall_mem_cons.mpr ⟨wl_10_144, List.forall_mem_cons.mpr ⟨wl_10_148, List.forall_mem_cons.mpr ⟨wl_10_151, List.forall_mem_cons.mpr ⟨wl_10_152, List.forall_mem_cons.mpr ⟨wl_10_155, List.forall_mem_cons.mpr ⟨wl_10_159, List.forall_mem_cons.mpr ⟨wl_10_163, List.forall_mem_cons.mpr ⟨wl_10_166, List.forall_mem_cons.mpr ⟨wl_10_169, List.forall_mem_cons.mpr ⟨wl_10_173, fun _ h => absurd h List.not_mem_nil⟩⟩⟩⟩⟩⟩⟩⟩⟩⟩⟩⟩⟩⟩⟩⟩⟩⟩⟩⟩
def xLQ_10_3 : List ((Nat × List Nat) × Nat) := [((177, [1, 1, 56]), 4065), ((181, [1, 1, 62]), 4093), ((184, [1, 1, 63]), 4097), ((188, [0, 10, 13, 0]), 2150), ((194, [1, 1, 1]), 4106), ((198, [1, 1, 95]), 4121), ((202, [1, 0, 163]), 4125), ((206, [1, 1, 69]), 4133), ((210, [1, 0, 164]), 4168), ((213, [1, 0, 165]), 4202), ((216, [0, 10, 18, 0]), 2155), ((219, [1, 1, 133]), 4129), ((222, [10]), 5048), ((224, [1, 1, 65]), 5049), ((227, [10]), 5054), ((229, [1, 1, 137]), 5055), ((232, [1, 2, 168]), 5056), ((236, [1, 0, 170]), 5067), ((239, [1, 0, 171]), 5075), ((242, [1, 1, 140]), 5079)]
theorem xLQ_10_3_ok : ∀ q ∈ xLQ_10_3, xchkL 10 q.1 q.2 = true := List.forall_mem_cons.mpr ⟨wl_10_177, List.forall_mem_cons.mpr ⟨wl_10_181, List.forall_mem_cons.mpr ⟨wl_10_184, List.forall_mem_cons.mpr ⟨wl_10_188, List.forall_mem_cons.mpr ⟨wl_10_194, List.forall_mem_cons.mpr ⟨wl_10_198, List.forall_mem_cons.mpr ⟨wl_10_202, List.forall_mem_cons.mpr ⟨wl_10_206, List.forall_mem_cons.mpr ⟨wl_10_210, List.forall_mem_cons.mpr ⟨wl_10_213, List.forall_mem_cons.mpr ⟨wl_10_216, List.forall_mem_cons.mpr ⟨wl_10_219, List.forall_mem_cons.mpr ⟨wl_10_222, List.forall_mem_cons.mpr ⟨wl_10_224, List.forall_mem_cons.mpr ⟨wl_10_227, List.forall_mem_cons.mpr ⟨wl_10_229, List.forall_mem_cons.mpr ⟨wl_10_232, List.forall_mem_cons.mpr ⟨wl_10_236, List.forall_mem_cons.mpr ⟨wl_10_239, List.forall_mem_cons.mpr ⟨wl_10_242, fun _ h => absurd h List.not_mem_nil⟩⟩⟩⟩⟩⟩⟩⟩⟩⟩⟩⟩⟩⟩⟩⟩⟩⟩⟩⟩
def xLQ_10_4 : List ((Nat × List Nat) × Nat) := [((245, [1, 1, 18]), 5083), ((249, [1, 1, 29]), 5137), ((252, [1, 0, 174]), 5145), ((255, [1, 1, 30]), 5149), ((259, [1, 1, 31]), 5161), ((262, [1, 1, 38]), 6132), ((265, [1, 1, 32]), 6133), ((268, [1, 2, 188]), 6134), ((272, [1, 1, 89]), 5157), ((276, [1, 1, 37]), 5187), ((279, [1, 1, 3]), 5199), ((283, [1, 0, 178]), 5229), ((287, [1, 1, 7]), 5237), ((291, [1, 0, 180]), 6010), ((295, [1, 0, 182]), 6027), ((298, [1, 1, 39]), 6031), ((301, [1, 1, 88]), 5071), ((304, [1, 1, 70]), 4172), ((308, [1, 1, 90]), 6044), ((311, [1, 0, 185]), 6052)]
theorem xLQ_10_4_ok : ∀ q ∈ xLQ_10_4, xchkL 10 q.1 q.2 = true := List.forall_mem_cons.mpr ⟨wl_10_245, List.forall_mem_cons.mpr ⟨wl_10_249, List.forall_mem_cons.mpr ⟨wl_10_252, List.forall_mem_cons.mpr ⟨wl_10_255, List.forall_mem_cons.mpr ⟨wl_10_259, List.forall_mem_cons.mpr ⟨wl_10_262, List.forall_mem_cons.mpr ⟨wl_10_265, List.forall_mem_cons.mpr ⟨wl_10_268, List.forall_mem_cons.mpr ⟨wl_10_272, List.forall_mem_cons.mpr ⟨wl_10_276, List.forall_mem_cons.mpr ⟨wl_10_279, List.forall_mem_cons.mpr ⟨wl_10_283, List.forall_mem_cons.mpr ⟨wl_10_287, List.forall_mem_cons.mpr ⟨wl_10_291, List.forall_mem_cons.mpr ⟨wl_10_295, List.forall_mem_cons.mpr ⟨wl_10_298, List.forall_mem_cons.mpr ⟨wl_10_301, List.forall_mem_cons.mpr ⟨wl_10_304, List.forall_mem_cons.mpr ⟨wl_10_308, List.forall_mem_cons.mpr ⟨wl_10_311, fun _ h => absurd h List.not_mem_nil⟩⟩⟩⟩⟩⟩⟩⟩⟩⟩⟩⟩⟩⟩⟩⟩⟩⟩⟩⟩
def xLQ_10_5 : List ((Nat × List Nat) × Nat) := [((314, [0, 9, 2, 1]), 1129), ((316, [1, 1, 72]), 4206), ((319, [1, 1, 73]), 4210), ((322, [1, 1, 75]), 4219), ((326, [1, 1, 84]), 5018), ((329, [1, 1, 96]), 5022), ((332, [1, 1, 85]), 5026), ((335, [1, 1, 82]), 5030), ((338, [0, 4, 16, 1]), 2043), ((341, [1, 1, 86]), 5031), ((345, [1, 1, 74]), 5039), ((348, [9]), 5059), ((349, [14]), 5060), ((355, [0, 3, 7, 1]), 1154), ((358, [1, 1, 10]), 6014), ((361, [1, 1, 11]), 6022)]
theorem xLQ_10_5_ok : ∀ q ∈ xLQ_10_5, xchkL 10 q.1 q.2 = true := List.forall_mem_cons.mpr ⟨wl_10_314, List.forall_mem_cons.mpr ⟨wl_10_316, List.forall_mem_cons.mpr ⟨wl_10_319, List.forall_mem_cons.mpr ⟨wl_10_322, List.forall_mem_cons.mpr ⟨wl_10_326, List.forall_mem_cons.mpr ⟨wl_10_329, List.forall_mem_cons.mpr ⟨wl_10_332, List.forall_mem_cons.mpr ⟨wl_10_335, List.forall_mem_cons.mpr ⟨wl_10_338, List.forall_mem_cons.mpr ⟨wl_10_341, List.forall_mem_cons.mpr ⟨wl_10_345, List.forall_mem_cons.mpr ⟨wl_10_348, List.forall_mem_cons.mpr ⟨wl_10_349, List.forall_mem_cons.mpr ⟨wl_10_355, List.forall_mem_cons.mpr ⟨wl_10_358, List.forall_mem_cons.mpr ⟨wl_10_361, fun _ h => absurd h List.not_mem_nil⟩⟩⟩⟩⟩⟩⟩⟩⟩⟩⟩⟩⟩⟩⟩⟩
def xLQ_10 : List ((Nat × List Nat) × Nat) := xLQ_10_0 ++ (xLQ_10_1 ++ (xLQ_10_2 ++ (xLQ_10_3 ++ (xLQ_10_4 ++ (xLQ_10_5)))))
theorem xLQ_10_ok : ∀ q ∈ xLQ_10, xchkL 10 q.1 q.2 = true := List.forall_mem_append.mpr ⟨xLQ_10_0_ok, List.forall_mem_append.mpr ⟨xLQ_10_1_ok, List.forall_mem_append.mpr ⟨xLQ_10_2_ok, List.forall_mem_append.mpr ⟨xLQ_10_3_ok, List.forall_mem_append.mpr ⟨xLQ_10_4_ok, xLQ_10_5_ok⟩⟩⟩⟩⟩
theorem xLQ_10_is : xLkL 10 = xLQ_10.map (fun q => q.1) := by decide +kernel
theorem wl_11_1 : xchkL 11 (1, [0, 11, 0, 0]) 7125 = true := by decide +kernel
theorem wl_11_7 : xchkL 11 (7, [0, 11, 2, 0]) 7127 = true := by decide +kernel
theorem wl_11_10 : xchkL 11 (10, [1, 0, 191]) 6145 = true := by decide +kernel
theorem wl_11_14 : xchkL 11 (14, [0, 11, 1, 0]) 7126 = true := by decide +kernel
theorem wl_11_18 : xchkL 11 (18, [0, 11, 3, 0]) 7128 = true := by decide +kernel
theorem wl_11_21 : xchkL 11 (21, [0, 11, 4, 0]) 7129 = true := by decide +kernel
theorem wl_11_24 : xchkL 11 (24, [1, 0, 197]) 6171 = true := by decide +kernel
theorem wl_11_28 : xchkL 11 (28, [0, 11, 6, 0]) 7131 = true := by decide +kernel
theorem wl_11_31 : xchkL 11 (31, [0, 11, 7, 0]) 7132 = true := by decide +kernel
theorem wl_11_34 : xchkL 11 (34, [0, 11, 5, 0]) 7130 = true := by decide +kernel
theorem wl_11_37 : xchkL 11 (37, [1, 2, 198]) 6175 = true := by decide +kernel
theorem wl_11_41 : xchkL 11 (41, [1, 2, 199]) 6178 = true := by decide +kernel
theorem wl_11_44 : xchkL 11 (44, [0, 11, 11, 0]) 7136 = true := by decide +kernel
theorem wl_11_48 : xchkL 11 (48, [0, 11, 8, 0]) 7133 = true := by decide +kernel
theorem wl_11_51 : xchkL 11 (51, [0, 11, 9, 0]) 7134 = true := by decide +kernel
theorem wl_11_54 : xchkL 11 (54, [0, 11, 10, 0]) 7135 = true := by decide +kernel
theorem wl_11_57 : xchkL 11 (57, [1, 0, 203]) 6194 = true := by decide +kernel
theorem wl_11_61 : xchkL 11 (61, [1, 0, 204]) 6198 = true := by decide +kernel
theorem wl_11_65 : xchkL 11 (65, [1, 0, 196]) 6167 = true := by decide +kernel
theorem wl_11_69 : xchkL 11 (69, [1, 0, 195]) 6162 = true := by decide +kernel
theorem wl_11_72 : xchkL 11 (72, [0, 11, 20, 0]) 7145 = true := by decide +kernel
theorem wl_11_75 : xchkL 11 (75, [9]) 6166 = true := by decide +kernel
theorem wl_11_76 : xchkL 11 (76, [0, 11, 16, 0]) 7141 = true := by decide +kernel
theorem wl_11_79 : xchkL 11 (79, [0, 11, 17, 0]) 7142 = true := by decide +kernel
theorem wl_11_82 : xchkL 11 (82, [0, 11, 18, 0]) 7143 = true := by decide +kernel
theorem wl_11_85 : xchkL 11 (85, [0, 11, 19, 0]) 7144 = true := by decide +kernel
theorem wl_11_88 : xchkL 11 (88, [1, 0, 200]) 6181 = true := by decide +kernel
theorem wl_11_91 : xchkL 11 (91, [0, 11, 12, 0]) 7137 = true := by decide +kernel
theorem wl_11_94 : xchkL 11 (94, [0, 11, 13, 0]) 7138 = true := by decide +kernel
theorem wl_11_97 : xchkL 11 (97, [0, 11, 14, 0]) 7139 = true := by decide +kernel
theorem wl_11_100 : xchkL 11 (100, [0, 11, 15, 0]) 7140 = true := by decide +kernel
theorem wl_11_103 : xchkL 11 (103, [0, 11, 21, 0]) 7146 = true := by decide +kernel
theorem wl_11_107 : xchkL 11 (107, [0, 11, 22, 0]) 7147 = true := by decide +kernel
theorem wl_11_110 : xchkL 11 (110, [0, 11, 23, 0]) 7148 = true := by decide +kernel
theorem wl_11_113 : xchkL 11 (113, [0, 11, 24, 0]) 7149 = true := by decide +kernel
theorem wl_11_116 : xchkL 11 (116, [0, 11, 25, 0]) 7150 = true := by decide +kernel
theorem wl_11_119 : xchkL 11 (119, [0, 11, 26, 0]) 7151 = true := by decide +kernel
theorem wl_11_122 : xchkL 11 (122, [10]) 6185 = true := by decide +kernel
theorem wl_11_124 : xchkL 11 (124, [1, 0, 201]) 6186 = true := by decide +kernel
theorem wl_11_128 : xchkL 11 (128, [1, 0, 202]) 6190 = true := by decide +kernel
theorem wl_11_131 : xchkL 11 (131, [1, 0, 205]) 6202 = true := by decide +kernel
theorem wl_11_134 : xchkL 11 (134, [10]) 6206 = true := by decide +kernel
theorem wl_11_136 : xchkL 11 (136, [1, 0, 206]) 6207 = true := by decide +kernel
theorem wl_11_140 : xchkL 11 (140, [10]) 6211 = true := by decide +kernel
theorem wl_11_142 : xchkL 11 (142, [10]) 6212 = true := by decide +kernel
theorem wl_11_144 : xchkL 11 (144, [10]) 6213 = true := by decide +kernel
theorem wl_11_146 : xchkL 11 (146, [10]) 6214 = true := by decide +kernel
theorem wl_11_148 : xchkL 11 (148, [10]) 6215 = true := by decide +kernel
theorem wl_11_150 : xchkL 11 (150, [0, 11, 27, 0]) 7152 = true := by decide +kernel
theorem wl_11_153 : xchkL 11 (153, [1, 0, 210]) 6228 = true := by decide +kernel
theorem wl_11_156 : xchkL 11 (156, [1, 0, 211]) 6232 = true := by decide +kernel
theorem wl_11_159 : xchkL 11 (159, [1, 0, 212]) 6236 = true := by decide +kernel
theorem wl_11_163 : xchkL 11 (163, [1, 0, 208]) 6220 = true := by decide +kernel
theorem wl_11_166 : xchkL 11 (166, [1, 0, 209]) 6224 = true := by decide +kernel
theorem wl_11_169 : xchkL 11 (169, [1, 0, 214]) 7004 = true := by decide +kernel
theorem wl_11_173 : xchkL 11 (173, [1, 0, 216]) 7012 = true := by decide +kernel
theorem wl_11_176 : xchkL 11 (176, [0, 11, 28, 0]) 7153 = true := by decide +kernel
theorem wl_11_179 : xchkL 11 (179, [1, 0, 217]) 7016 = true := by decide +kernel
theorem wl_11_183 : xchkL 11 (183, [0, 11, 30, 0]) 7155 = true := by decide +kernel
theorem wl_11_186 : xchkL 11 (186, [0, 11, 29, 0]) 7154 = true := by decide +kernel
theorem wl_11_189 : xchkL 11 (189, [0, 11, 31, 0]) 7156 = true := by decide +kernel
theorem wl_11_192 : xchkL 11 (192, [1, 0, 221]) 7032 = true := by decide +kernel
theorem wl_11_195 : xchkL 11 (195, [0, 11, 39, 0]) 7164 = true := by decide +kernel
theorem wl_11_198 : xchkL 11 (198, [0, 11, 40, 0]) 7165 = true := by decide +kernel
theorem wl_11_201 : xchkL 11 (201, [1, 0, 220]) 7028 = true := by decide +kernel
theorem wl_11_204 : xchkL 11 (204, [1, 0, 222]) 7036 = true := by decide +kernel
theorem wl_11_207 : xchkL 11 (207, [0, 11, 32, 0]) 7157 = true := by decide +kernel
theorem wl_11_210 : xchkL 11 (210, [0, 11, 33, 0]) 7158 = true := by decide +kernel
theorem wl_11_213 : xchkL 11 (213, [0, 11, 34, 0]) 7159 = true := by decide +kernel
theorem wl_11_216 : xchkL 11 (216, [0, 11, 35, 0]) 7160 = true := by decide +kernel
theorem wl_11_219 : xchkL 11 (219, [0, 11, 36, 0]) 7161 = true := by decide +kernel
theorem wl_11_222 : xchkL 11 (222, [0, 11, 37, 0]) 7162 = true := by decide +kernel
theorem wl_11_225 : xchkL 11 (225, [0, 11, 38, 0]) 7163 = true := by decide +kernel
theorem wl_11_228 : xchkL 11 (228, [1, 0, 223]) 7040 = true := by decide +kernel
theorem wl_11_231 : xchkL 11 (231, [1, 0, 225]) 7048 = true := by decide +kernel
theorem wl_11_234 : xchkL 11 (234, [1, 0, 229]) 7064 = true := by decide +kernel
theorem wl_11_238 : xchkL 11 (238, [1, 0, 228]) 7060 = true := by decide +kernel
theorem wl_11_241 : xchkL 11 (241, [0, 11, 41, 0]) 7166 = true := by decide +kernel
theorem wl_11_244 : xchkL 11 (244, [1, 0, 231]) 7072 = true := by decide +kernel
theorem wl_11_248 : xchkL 11 (248, [0, 11, 43, 0]) 7168 = true := by decide +kernel
theorem wl_11_251 : xchkL 11 (251, [1, 0, 233]) 7080 = true := by decide +kernel
theorem wl_11_254 : xchkL 11 (254, [0, 11, 44, 0]) 7169 = true := by decide +kernel
theorem wl_11_257 : xchkL 11 (257, [0, 11, 42, 0]) 7167 = true := by decide +kernel
theorem wl_11_260 : xchkL 11 (260, [0, 11, 46, 0]) 7171 = true := by decide +kernel
theorem wl_11_263 : xchkL 11 (263, [0, 11, 50, 0]) 7175 = true := by decide +kernel
theorem wl_11_266 : xchkL 11 (266, [0, 11, 48, 0]) 7173 = true := by decide +kernel
theorem wl_11_269 : xchkL 11 (269, [1, 0, 236]) 7092 = true := by decide +kernel
theorem wl_11_272 : xchkL 11 (272, [0, 11, 45, 0]) 7170 = true := by decide +kernel
theorem wl_11_275 : xchkL 11 (275, [0, 11, 47, 0]) 7172 = true := by decide +kernel
theorem wl_11_278 : xchkL 11 (278, [0, 11, 49, 0]) 7174 = true := by decide +kernel
theorem wl_11_281 : xchkL 11 (281, [10]) 7096 = true := by decide +kernel
theorem wl_11_283 : xchkL 11 (283, [10]) 7097 = true := by decide +kernel
theorem wl_11_285 : xchkL 11 (285, [10]) 7098 = true := by decide +kernel
theorem wl_11_287 : xchkL 11 (287, [1, 0, 237]) 7099 = true := by decide +kernel
theorem wl_11_291 : xchkL 11 (291, [10]) 7103 = true := by decide +kernel
theorem wl_11_293 : xchkL 11 (293, [10]) 7104 = true := by decide +kernel
theorem wl_11_295 : xchkL 11 (295, [10]) 7105 = true := by decide +kernel
theorem wl_11_297 : xchkL 11 (297, [10]) 7106 = true := by decide +kernel
theorem wl_11_299 : xchkL 11 (299, [10]) 7107 = true := by decide +kernel
theorem wl_11_301 : xchkL 11 (301, [10]) 7108 = true := by decide +kernel
theorem wl_11_303 : xchkL 11 (303, [10]) 7109 = true := by decide +kernel
theorem wl_11_305 : xchkL 11 (305, [10]) 7110 = true := by decide +kernel
theorem wl_11_307 : xchkL 11 (307, [10]) 7111 = true := by decide +kernel
theorem wl_11_309 : xchkL 11 (309, [10]) 7112 = true := by decide +kernel
theorem wl_11_311 : xchkL 11 (311, [10]) 7113 = true := by decide +kernel
theorem wl_11_313 : xchkL 11 (313, [10]) 7114 = true := by decide +kernel
theorem wl_11_315 : xchkL 11 (315, [10]) 7115 = true := by decide +kernel
theorem wl_11_317 : xchkL 11 (317, [10]) 7116 = true := by decide +kernel
theorem wl_11_319 : xchkL 11 (319, [10]) 7117 = true := by decide +kernel
theorem wl_11_321 : xchkL 11 (321, [10]) 7118 = true := by decide +kernel
theorem wl_11_323 : xchkL 11 (323, [10]) 7119 = true := by decide +kernel
theorem wl_11_325 : xchkL 11 (325, [2]) 7124 = true := by decide +kernel
theorem wl_11_330 : xchkL 11 (330, [0, 11, 51, 0]) 7176 = true := by decide +kernel
theorem wl_11_333 : xchkL 11 (333, [0, 11, 52, 0]) 7177 = true := by decide +kernel
theorem wl_11_336 : xchkL 11 (336, [0, 11, 53, 0]) 7178 = true := by decide +kernel
theorem wl_11_339 : xchkL 11 (339, [0, 11, 54, 0]) 7179 = true := by decide +kernel
theorem wl_11_342 : xchkL 11 (342, [0, 11, 55, 0]) 7180 = true := by decide +kernel
theorem wl_11_345 : xchkL 11 (345, [0, 11, 56, 0]) 7181 = true := by decide +kernel
theorem wl_11_349 : xchkL 11 (349, [0, 11, 57, 0]) 7182 = true := by decide +kernel
theorem wl_11_352 : xchkL 11 (352, [0, 11, 71, 0]) 7196 = true := by decide +kernel
theorem wl_11_355 : xchkL 11 (355, [0, 11, 73, 0]) 7198 = true := by decide +kernel
theorem wl_11_358 : xchkL 11 (358, [0, 11, 74, 0]) 7199 = true := by decide +kernel
theorem wl_11_361 : xchkL 11 (361, [0, 11, 75, 0]) 7200 = true := by decide +kernel
theorem wl_11_364 : xchkL 11 (364, [0, 11, 76, 0]) 7201 = true := by decide +kernel
theorem wl_11_367 : xchkL 11 (367, [0, 11, 77, 0]) 7202 = true := by decide +kernel
theorem wl_11_370 : xchkL 11 (370, [0, 11, 78, 0]) 7203 = true := by decide +kernel
theorem wl_11_373 : xchkL 11 (373, [0, 11, 79, 0]) 7204 = true := by decide +kernel
theorem wl_11_376 : xchkL 11 (376, [0, 11, 80, 0]) 7205 = true := by decide +kernel
theorem wl_11_379 : xchkL 11 (379, [0, 11, 81, 0]) 7206 = true := by decide +kernel
theorem wl_11_382 : xchkL 11 (382, [0, 11, 82, 0]) 7207 = true := by decide +kernel
theorem wl_11_385 : xchkL 11 (385, [0, 11, 58, 0]) 7183 = true := by decide +kernel
theorem wl_11_388 : xchkL 11 (388, [0, 11, 59, 0]) 7184 = true := by decide +kernel
theorem wl_11_391 : xchkL 11 (391, [0, 11, 60, 0]) 7185 = true := by decide +kernel
theorem wl_11_394 : xchkL 11 (394, [1, 0, 243]) 8152 = true := by decide +kernel
theorem wl_11_398 : xchkL 11 (398, [1, 0, 241]) 8144 = true := by decide +kernel
theorem wl_11_402 : xchkL 11 (402, [1, 0, 242]) 8148 = true := by decide +kernel
theorem wl_11_405 : xchkL 11 (405, [0, 11, 61, 0]) 7186 = true := by decide +kernel
theorem wl_11_408 : xchkL 11 (408, [0, 11, 62, 0]) 7187 = true := by decide +kernel
theorem wl_11_411 : xchkL 11 (411, [0, 11, 70, 0]) 7195 = true := by decide +kernel
theorem wl_11_415 : xchkL 11 (415, [1, 0, 246]) 8164 = true := by decide +kernel
theorem wl_11_418 : xchkL 11 (418, [1, 0, 247]) 8168 = true := by decide +kernel
theorem wl_11_421 : xchkL 11 (421, [0, 11, 63, 0]) 7188 = true := by decide +kernel
theorem wl_11_424 : xchkL 11 (424, [0, 11, 64, 0]) 7189 = true := by decide +kernel
theorem wl_11_427 : xchkL 11 (427, [0, 11, 65, 0]) 7190 = true := by decide +kernel
theorem wl_11_430 : xchkL 11 (430, [0, 11, 66, 0]) 7191 = true := by decide +kernel
theorem wl_11_433 : xchkL 11 (433, [0, 11, 68, 0]) 7193 = true := by decide +kernel
theorem wl_11_436 : xchkL 11 (436, [0, 11, 69, 0]) 7194 = true := by decide +kernel
theorem wl_11_439 : xchkL 11 (439, [1, 0, 249]) 8176 = true := by decide +kernel
theorem wl_11_442 : xchkL 11 (442, [1, 2, 250]) 8180 = true := by decide +kernel
theorem wl_11_445 : xchkL 11 (445, [0, 11, 67, 0]) 7192 = true := by decide +kernel
theorem wl_11_448 : xchkL 11 (448, [1, 0, 251]) 8183 = true := by decide +kernel
theorem wl_11_452 : xchkL 11 (452, [1, 0, 240]) 8140 = true := by decide +kernel
theorem wl_11_455 : xchkL 11 (455, [0, 11, 72, 0]) 7197 = true := by decide +kernel
theorem wl_11_458 : xchkL 11 (458, [1, 0, 244]) 8156 = true := by decide +kernel
theorem wl_11_461 : xchkL 11 (461, [1, 0, 245]) 8160 = true := by decide +kernel
theorem wl_11_465 : xchkL 11 (465, [1, 0, 248]) 8172 = true := by decide +kernel
theorem wl_11_468 : xchkL 11 (468, [10]) 8195 = true := by decide +kernel
theorem wl_11_470 : xchkL 11 (470, [10]) 8196 = true := by decide +kernel
theorem wl_11_472 : xchkL 11 (472, [1, 2, 262]) 8228 = true := by decide +kernel
theorem wl_11_475 : xchkL 11 (475, [1, 2, 263]) 8231 = true := by decide +kernel
theorem wl_11_478 : xchkL 11 (478, [1, 2, 264]) 8234 = true := by decide +kernel
theorem wl_11_481 : xchkL 11 (481, [1, 2, 259]) 8217 = true := by decide +kernel
theorem wl_11_485 : xchkL 11 (485, [1, 0, 258]) 8213 = true := by decide +kernel
theorem wl_11_488 : xchkL 11 (488, [1, 0, 260]) 8220 = true := by decide +kernel
theorem wl_11_491 : xchkL 11 (491, [1, 0, 261]) 8224 = true := by decide +kernel
theorem wl_11_494 : xchkL 11 (494, [1, 0, 265]) 8237 = true := by decide +kernel
theorem wl_11_497 : xchkL 11 (497, [1, 0, 267]) 9005 = true := by decide +kernel
theorem wl_11_500 : xchkL 11 (500, [1, 0, 268]) 9009 = true := by decide +kernel
theorem wl_11_503 : xchkL 11 (503, [1, 0, 257]) 8209 = true := by decide +kernel
theorem wl_11_506 : xchkL 11 (506, [1, 0, 266]) 9001 = true := by decide +kernel
theorem wl_11_509 : xchkL 11 (509, [1, 0, 255]) 8201 = true := by decide +kernel
theorem wl_11_512 : xchkL 11 (512, [1, 0, 256]) 8205 = true := by decide +kernel
theorem wl_11_515 : xchkL 11 (515, [1, 2, 273]) 9029 = true := by decide +kernel
theorem wl_11_518 : xchkL 11 (518, [1, 0, 272]) 9025 = true := by decide +kernel
theorem wl_11_521 : xchkL 11 (521, [1, 2, 274]) 9032 = true := by decide +kernel
theorem wl_11_524 : xchkL 11 (524, [1, 0, 276]) 9039 = true := by decide +kernel
theorem wl_11_527 : xchkL 11 (527, [1, 0, 281]) 9059 = true := by decide +kernel
theorem wl_11_530 : xchkL 11 (530, [1, 0, 282]) 9063 = true := by decide +kernel
theorem wl_11_534 : xchkL 11 (534, [1, 2, 283]) 9067 = true := by decide +kernel
theorem wl_11_537 : xchkL 11 (537, [1, 0, 280]) 9055 = true := by decide +kernel
theorem wl_11_540 : xchkL 11 (540, [9]) 9070 = true := by decide +kernel
theorem wl_11_541 : xchkL 11 (541, [1, 0, 279]) 9051 = true := by decide +kernel
theorem wl_11_545 : xchkL 11 (545, [1, 0, 278]) 9047 = true := by decide +kernel
theorem wl_11_548 : xchkL 11 (548, [1, 0, 286]) 9079 = true := by decide +kernel
theorem wl_11_551 : xchkL 11 (551, [1, 0, 288]) 9087 = true := by decide +kernel
theorem wl_11_554 : xchkL 11 (554, [1, 0, 289]) 9091 = true := by decide +kernel
def xLQ_11_0 : List ((Nat × List Nat) × Nat) := [((1, [0, 11, 0, 0]), 7125), ((7, [0, 11, 2, 0]), 7127), ((10, [1, 0, 191]), 6145), ((14, [0, 11, 1, 0]), 7126), ((18, [0, 11, 3, 0]), 7128), ((21, [0, 11, 4, 0]), 7129), ((24, [1, 0, 197]), 6171), ((28, [0, 11, 6, 0]), 7131), ((31, [0, 11, 7, 0]), 7132), ((34, [0, 11, 5, 0]), 7130), ((37, [1, 2, 198]), 6175), ((41, [1, 2, 199]), 6178), ((44, [0, 11, 11, 0]), 7136), ((48, [0, 11, 8, 0]), 7133), ((51, [0, 11, 9, 0]), 7134), ((54, [0, 11, 10, 0]), 7135), ((57, [1, 0, 203]), 6194), ((61, [1, 0, 204]), 6198), ((65, [1, 0, 196]), 6167), ((69, [1, 0, 195]), 6162)]
theorem xLQ_11_0_ok : ∀ q ∈ xLQ_11_0, xchkL 11 q.1 q.2 = true := List.forall_mem_cons.mpr ⟨wl_11_1, List.forall_mem_cons.mpr ⟨wl_11_7, List.forall_mem_cons.mpr ⟨wl_11_10, List.forall_mem_cons.mpr ⟨wl_11_14, List.forall_mem_cons.mpr ⟨wl_11_18, List.forall_mem_cons.mpr ⟨wl_11_21, List.forall_mem_cons.mpr ⟨wl_11_24, List.forall_mem_cons.mpr ⟨wl_11_28, List.forall_mem_cons.mpr ⟨wl_11_31, List.forall_mem_cons.mpr ⟨wl_11_34, List.forall_mem_cons.mpr ⟨wl_11_37, List.forall_mem_cons.mpr ⟨wl_11_41, List.forall_mem_cons.mpr ⟨wl_11_44, List.forall_mem_cons.mpr ⟨wl_11_48, List.forall_mem_cons.mpr ⟨wl_11_51, List.forall_mem_cons.mpr ⟨wl_11_54, List.forall_mem_cons.mpr ⟨wl_11_57, List.forall_mem_cons.mpr ⟨wl_11_61, List.forall_mem_cons.mpr ⟨wl_11_65, List.forall_mem_cons.mpr ⟨wl_11_69, fun _ h => absurd h List.not_mem_nil⟩⟩⟩⟩⟩⟩⟩⟩⟩⟩⟩⟩⟩⟩⟩⟩⟩⟩⟩⟩
def xLQ_11_1 : List ((Nat × List Nat) × Nat) := [((72, [0, 11, 20, 0]), 7145), ((75, [9]), 6166), ((76, [0, 11, 16, 0]), 7141), ((79, [0, 11, 17, 0]), 7142), ((82, [0, 11, 18, 0]), 7143), ((85, [0, 11, 19, 0]), 7144), ((88, [1, 0, 200]), 6181), ((91, [0, 11, 12, 0]), 7137), ((94, [0, 11, 13, 0]), 7138), ((97, [0, 11, 14, 0]), 7139), ((100, [0, 11, 15, 0]), 7140), ((103, [0, 11, 21, 0]), 7146), ((107, [0, 11, 22, 0]), 7147), ((110, [0, 11, 23, 0]), 7148), ((113, [0, 11, 24, 0]), 7149), ((116, [0, 11, 25, 0]), 7150), ((119, [0, 11, 26, 0]), 7151), ((122, [10]), 6185), ((124, [1, 0, 201]), 6186), ((128, [1, 0, 202]), 6190)]
theorem xLQ_11_1_ok : ∀ q ∈ xLQ_11_1, xchkL 11 q.1 q.2 = true := List.forall_mem_cons.mpr ⟨wl_11_72, List.forall_mem_cons.mpr ⟨wl_11_75, List.forall_mem_cons.mpr ⟨wl_11_76, List.forall_mem_cons.mpr ⟨wl_11_79, List.forall_mem_cons.mpr ⟨wl_11_82, List.forall_mem_cons.mpr ⟨wl_11_85, List.forall_mem_cons.mpr ⟨wl_11_88, List.forall_mem_cons.mpr ⟨wl_11_91, List.forall_mem_cons.mpr ⟨wl_11_94, List.forall_mem_cons.mpr ⟨wl_11_97, List.forall_mem_cons.mpr ⟨wl_11_100, List.forall_mem_cons.mpr ⟨wl_11_103, List.forall_mem_cons.mpr ⟨wl_11_107, List.forall_mem_cons.mpr ⟨wl_11_110, List.forall_mem_cons.mpr ⟨wl_11_113, List.forall_mem_cons.mpr ⟨wl_11_116, List.forall_mem_cons.mpr ⟨wl_11_119, List.forall_mem_cons.mpr ⟨wl_11_122, List.forall_mem_cons.mpr ⟨wl_11_124, List.forall_mem_cons.mpr ⟨wl_11_128, fun _ h => absurd h List.not_mem_nil⟩⟩⟩⟩⟩⟩⟩⟩⟩⟩⟩⟩⟩⟩⟩⟩⟩⟩⟩⟩
def xLQ_11_2 : List ((Nat × List Nat) × Nat) := [((131, [1, 0, 205]), 6202), ((134, [10]), 6206), ((136, [1, 0, 206]), 6207), ((140, [10]), 6211), ((142, [10]), 6212), ((144, [10]), 6213), ((146, [10]), 6214), ((148, [10]), 6215), ((150, [0, 11, 27, 0]), 7152), ((153, [1, 0, 210]), 6228), ((156, [1, 0, 211]), 6232), ((159, [1, 0, 212]), 6236), ((163, [1, 0, 208]), 6220), ((166, [1, 0, 209]), 6224), ((169, [1, 0, 214]), 7004), ((173, [1, 0, 216]), 7012), ((176, [0, 11, 28, 0]), 7153), ((179, [1, 0, 217]), 7016), ((183, [0, 11, 30, 0]), 7155), ((186, [0, 11, 29, 0]), 7154)]
theorem xLQ_11_2_ok : ∀ q ∈ xLQ_11_2, xchkL 11 q.1 q.2 = true := List.forall_mem_cons.mpr ⟨wl_11_131, List.forall_mem_cons.mpr ⟨wl_11_134, List.forall_mem_cons.mpr ⟨wl_11_136, List.forall_mem_cons.mpr ⟨wl_11_140, List.forall_mem_cons.mpr ⟨wl_11_142, List.forall_mem_cons.mpr ⟨wl_11_144, List.forall_mem_cons.mpr ⟨wl_11_146, List.forall_mem_cons.mpr ⟨wl_11_148, List.forall_mem_cons.mpr ⟨wl_11_150, List.forall_mem_cons.mpr ⟨wl_11_153, List.forall_mem_cons.mpr ⟨wl_11_156, List.forall_mem_cons.mpr ⟨wl_11_159, List.forall_mem_cons.mpr ⟨wl_11_163, List.forall_mem_cons.mpr ⟨wl_11_166, List.forall_mem_cons.mpr ⟨wl_11_169, List.forall_mem_cons.mpr ⟨wl_11_173, List.forall_mem_cons.mpr ⟨wl_11_176, List.forall_mem_cons.mpr ⟨wl_11_179, List.forall_mem_cons.mpr ⟨wl_11_183, List.forall_mem_cons.mpr ⟨wl_11_186, fun _ h => absurd h List.not_mem_nil⟩⟩⟩⟩⟩⟩⟩⟩⟩⟩⟩⟩⟩⟩⟩⟩⟩⟩⟩⟩
def xLQ_11_3 : List ((Nat × List Nat) × Nat) := [((189, [0, 11, 31, 0]), 7156), ((192, [1, 0, 221]), 7032), ((195, [0, 11, 39, 0]), 7164), ((198, [0, 11, 40, 0]), 7165), ((201, [1, 0, 220]), 7028), ((204, [1, 0, 222]), 7036), ((207, [0, 11, 32, 0]), 7157), ((210, [0, 11, 33, 0]), 7158), ((213, [0, 11, 34, 0]), 7159), ((216, [0, 11, 35, 0]), 7160), ((219, [0, 11, 36, 0]), 7161), ((222, [0, 11, 37, 0]), 7162), ((225, [0, 11, 38, 0]), 7163), ((228, [1, 0, 223]), 7040), ((231, [1, 0, 225]), 7048), ((234, [1, 0, 229]), 7064), ((238, [1, 0, 228]), 7060), ((241, [0, 11, 41, 0]), 7166), ((244, [1, 0, 231]), 7072), ((248, [0, 11, 43, 0]), 7168)]
theorem xLQ_11_3_ok : ∀ q ∈ xLQ_11_3, xchkL 11 q.1 q.2 = true := List.forall_mem_cons.mpr ⟨wl_11_189, List.forall_mem_cons.mpr ⟨wl_11_192, List.forall_mem_cons.mpr ⟨wl_11_195, List.forall_mem_cons.mpr ⟨wl_11_198, List.forall_mem_cons.mpr ⟨wl_11_201, List.forall_mem_cons.mpr ⟨wl_11_204, List.forall_mem_cons.mpr ⟨wl_11_207, List.forall_mem_cons.mpr ⟨wl_11_210, List.forall_mem_cons.mpr ⟨wl_11_213, List.forall_mem_cons.mpr ⟨wl_11_216, List.forall_mem_cons.mpr ⟨wl_11_219, List.forall_mem_cons.mpr ⟨wl_11_222, List.forall_mem_cons.mpr ⟨wl_11_225, List.forall_mem_cons.mpr ⟨wl_11_228, List.forall_mem_cons.mpr ⟨wl_11_231, List.forall_mem_cons.mpr ⟨wl_11_234, List.forall_mem_cons.mpr ⟨wl_11_238, List.forall_mem_cons.mpr ⟨wl_11_241, List.forall_mem_cons.mpr ⟨wl_11_244, List.forall_mem_cons.mpr ⟨wl_11_248, fun _ h => absurd h List.not_mem_nil⟩⟩⟩⟩⟩⟩⟩⟩⟩⟩⟩⟩⟩⟩⟩⟩⟩⟩⟩⟩
def xLQ_11_4 : List ((Nat × List Nat) × Nat) := [((251, [1, 0, 233]), 7080), ((254, [0, 11, 44, 0]), 7169), ((257, [0, 11, 42, 0]), 7167), ((260, [0, 11, 46, 0]), 7171), ((263, [0, 11, 50, 0]), 7175), ((266, [0, 11, 48, 0]), 7173), ((269, [1, 0, 236]), 7092), ((272, [0, 11, 45, 0]), 7170), ((275, [0, 11, 47, 0]), 7172), ((278, [0, 11, 49, 0]), 7174), ((281, [10]), 7096), ((283, [10]), 7097), ((285, [10]), 7098), ((287, [1, 0, 237]), 7099), ((291, [10]), 7103), ((293, [10]), 7104), ((295, [10]), 7105), ((297, [10]), 7106), ((299, [10]), 7107), ((301, [10]), 7108)]
theorem xLQ_11_4_ok : ∀ q ∈ xLQ_11_4, xchkL 11 q.1 q.2 = true := List.forall_mem_cons.mpr ⟨wl_11_251, List.forall_mem_cons.mpr ⟨wl_11_254, List.forall_mem_cons.mpr ⟨wl_11_257, List.forall_mem_cons.mpr ⟨wl_11_260, List.forall_mem_cons.mpr ⟨wl_11_263, List.forall_mem_cons.mpr ⟨wl_11_266, List.forall_mem_cons.mpr ⟨wl_11_269, List.forall_mem_cons.mpr ⟨wl_11_272, List.forall_mem_cons.mpr ⟨wl_11_275, List.forall_mem_cons.mpr ⟨wl_11_278, List.forall_mem_cons.mpr ⟨wl_11_281, List.forall_mem_cons.mpr ⟨wl_11_283, List.forall_mem_cons.mpr ⟨wl_11_285, List.forall_mem_cons.mpr ⟨wl_11_287, List.forall_mem_cons.mpr ⟨wl_11_291, List.forall_mem_cons.mpr ⟨wl_11_293, List.forall_mem_cons.mpr ⟨wl_11_295, List.forall_mem_cons.mpr ⟨wl_11_297, List.forall_mem_cons.mpr ⟨wl_11_299, List.forall_mem_cons.mpr ⟨wl_11_301, fun _ h => absurd h List.not_mem_nil⟩⟩⟩⟩⟩⟩⟩⟩⟩⟩⟩⟩⟩⟩⟩⟩⟩⟩⟩⟩
def xLQ_11_5 : List ((Nat × List Nat) × Nat) := [((303, [10]), 7109), ((305, [10]), 7110), ((307, [10]), 7111), ((309, [10]), 7112), ((311, [10]), 7113), ((313, [10]), 7114), ((315, [10]), 7115), ((317, [10]), 7116), ((319, [10]), 7117), ((321, [10]), 7118), ((323, [10]), 7119), ((325, [2]), 7124), ((330, [0, 11, 51, 0]), 7176), ((333, [0, 11, 52, 0]), 7177), ((336, [0, 11, 53, 0]), 7178), ((339, [0, 11, 54, 0]), 7179), ((342, [0, 11, 55, 0]), 7180), ((345, [0, 11, 56, 0]), 7181), ((349, [0, 11, 57, 0]), 7182), ((352, [0, 11, 71, 0]), 7196)]
theorem xLQ_11_5_ok : ∀ q ∈ xLQ_11_5, xchkL 11 q.1 q.2 = true := List.forall_mem_cons.mpr ⟨wl_11_303, List.forall_mem_cons.mpr ⟨wl_11_305, List.forall_mem_cons.mpr ⟨wl_11_307, List.forall_mem_cons.mpr ⟨wl_11_309, List.forall_mem_cons.mpr ⟨wl_11_311, List.forall_mem_cons.mpr ⟨wl_11_313, List.forall_mem_cons.mpr ⟨wl_11_315, List.forall_mem_cons.mpr ⟨wl_11_317, List.forall_mem_cons.mpr ⟨wl_11_319, List.forall_mem_cons.mpr ⟨wl_11_321, List.forall_mem_cons.mpr ⟨wl_11_323, List.forall_mem_cons.mpr ⟨wl_11_325, List.forall_mem_cons.mpr ⟨wl_11_330, List.forall_mem_cons.mpr ⟨wl_11_333, List.forall_mem_cons.mpr ⟨wl_11_336, List.forall_mem_cons.mpr ⟨wl_11_339, List.forall_mem_cons.mpr ⟨wl_11_342, List.forall_mem_cons.mpr ⟨wl_11_345, List.forall_mem_cons.mpr ⟨wl_11_349, List.forall_mem_cons.mpr ⟨wl_11_352, fun _ h => absurd h List.not_mem_nil⟩⟩⟩⟩⟩⟩⟩⟩⟩⟩⟩⟩⟩⟩⟩⟩⟩⟩⟩⟩
def xLQ_11_6 : List ((Nat × List Nat) × Nat) := [((355, [0, 11, 73, 0]), 7198), ((358, [0, 11, 74, 0]), 7199), ((361, [0, 11, 75, 0]), 7200), ((364, [0, 11, 76, 0]), 7201), ((367, [0, 11, 77, 0]), 7202), ((370, [0, 11, 78, 0]), 7203), ((373, [0, 11, 79, 0]), 7204), ((376, [0, 11, 80, 0]), 7205), ((379, [0, 11, 81, 0]), 7206), ((382, [0, 11, 82, 0]), 7207), ((385, [0, 11, 58, 0]), 7183), ((388, [0, 11, 59, 0]), 7184), ((391, [0, 11, 60, 0]), 7185), ((394, [1, 0, 243]), 8152), ((398, [1, 0, 241]), 8144), ((402, [1, 0, 242]), 8148), ((405, [0, 11, 61, 0]), 7186), ((408, [0, 11, 62, 0]), 7187), ((411, [0, 11, 70, 0]), 7195), ((415, [1, 0, 246]), 8164)]
theorem xLQ_11_6_ok : ∀ q ∈ xLQ_11_6, xchkL 11 q.1 q.2 = true := List.forall_mem_cons.mpr ⟨wl_11_355, List.forall_mem_cons.mpr ⟨wl_11_358, List.forall_mem_cons.mpr ⟨wl_11_361, List.forall_mem_cons.mpr ⟨wl_11_364, List.forall_mem_cons.mpr ⟨wl_11_367, List.forall_mem_cons.mpr ⟨wl_11_370, List.forall_mem_cons.mpr ⟨wl_11_373, List.forall_mem_cons.mpr ⟨wl_11_376, List.forall_mem_cons.mpr ⟨wl_11_379, List.forall_mem_cons.mpr ⟨wl_11_382, List.forall_mem_cons.mpr ⟨wl_11_385, List.forall_mem_cons.mpr ⟨wl_11_388, List.forall_mem_cons.mpr ⟨wl_11_391, List.forall_mem_cons.mpr ⟨wl_11_394, List.forall_mem_cons.mpr ⟨wl_11_398, List.forall_mem_cons.mpr ⟨wl_11_402, List.forall_mem_cons.mpr ⟨wl_11_405, List.forall_mem_cons.mpr ⟨wl_11_408, List.forall_mem_cons.mpr ⟨wl_11_411, List.forall_mem_cons.mpr ⟨wl_11_415, fun _ h => absurd h List.not_mem_nil⟩⟩⟩⟩⟩⟩⟩⟩⟩⟩⟩⟩⟩⟩⟩⟩⟩⟩⟩⟩
def xLQ_11_7 : List ((Nat × List Nat) × Nat) := [((418, [1, 0, 247]), 8168), ((421, [0, 11, 63, 0]), 7188), ((424, [0, 11, 64, 0]), 7189), ((427, [0, 11, 65, 0]), 7190), ((430, [0, 11, 66, 0]), 7191), ((433, [0, 11, 68, 0]), 7193), ((436, [0, 11, 69, 0]), 7194), ((439, [1, 0, 249]), 8176), ((442, [1, 2, 250]), 8180), ((445, [0, 11, 67, 0]), 7192), ((448, [1, 0, 251]), 8183), ((452, [1, 0, 240]), 8140), ((455, [0, 11, 72, 0]), 7197), ((458, [1, 0, 244]), 8156), ((461, [1, 0, 245]), 8160), ((465, [1, 0, 248]), 8172), ((468, [10]), 8195), ((470, [10]), 8196), ((472, [1, 2, 262]), 8228), ((475, [1, 2, 263]), 8231)]
theorem xLQ_11_7_ok : ∀ q ∈ xLQ_11_7, xchkL 11 q.1 q.2 = true := List.forall_mem_cons.mpr ⟨wl_11_418, List.forall_mem_cons.mpr ⟨wl_11_421, List.forall_mem_cons.mpr ⟨wl_11_424, List.forall_mem_cons.mpr ⟨wl_11_427, List.forall_mem_cons.mpr ⟨wl_11_430, List.forall_mem_cons.mpr ⟨wl_11_433, List.forall_mem_cons.mpr ⟨wl_11_436, List.forall_mem_cons.mpr ⟨wl_11_439, List.forall_mem_cons.mpr ⟨wl_11_442, List.forall_mem_cons.mpr ⟨wl_11_445, List.forall_mem_cons.mpr ⟨wl_11_448, List.forall_mem_cons.mpr ⟨wl_11_452, List.forall_mem_cons.mpr ⟨wl_11_455, List.forall_mem_cons.mpr ⟨wl_11_458, List.forall_mem_cons.mpr ⟨wl_11_461, List.forall_mem_cons.mpr ⟨wl_11_465, List.forall_mem_cons.mpr ⟨wl_11_468, List.forall_mem_cons.mpr ⟨wl_11_470, List.forall_mem_cons.mpr ⟨wl_11_472, List.forall_mem_cons.mpr ⟨wl_11_475, fun _ h => absurd h List.not_mem_nil⟩⟩⟩⟩⟩⟩⟩⟩⟩⟩⟩⟩⟩⟩⟩⟩⟩⟩⟩⟩
def xLQ_11_8 : List ((Nat × List Nat) × Nat) := [((478, [1, 2, 264]), 8234), ((481, [1, 2, 259]), 8217), ((485, [1, 0, 258]), 8213), ((488, [1, 0, 260]), 8220), ((491, [1, 0, 261]), 8224), ((494, [1, 0, 265]), 8237), ((497, [1, 0, 267]), 9005), ((500, [1, 0, 268]), 9009), ((503, [1, 0, 257]), 8209), ((506, [1, 0, 266]), 9001), ((509, [1, 0, 255]), 8201), ((512, [1, 0, 256]), 8205), ((515, [1, 2, 273]), 9029), ((518, [1, 0, 272]), 9025), ((521, [1, 2, 274]), 9032), ((524, [1, 0, 276]), 9039), ((527, [1, 0, 281]), 9059), ((530, [1, 0, 282]), 9063), ((534, [1, 2, 283]), 9067), ((537, [1, 0, 280]), 9055)]
theorem xLQ_11_8_ok : ∀ q ∈ xLQ_11_8, xchkL 11 q.1 q.2 = true := List.forall_mem_cons.mpr ⟨wl_11_478, List.forall_mem_cons.mpr ⟨wl_11_481, List.forall_mem_cons.mpr ⟨wl_11_485, List.forall_mem_cons.mpr ⟨wl_11_488, List.forall_mem_cons.mpr ⟨wl_11_491, List.forall_mem_cons.mpr ⟨wl_11_494, List.forall_mem_cons.mpr ⟨wl_11_497, List.forall_mem_cons.mpr ⟨wl_11_500, List.forall_mem_cons.mpr ⟨wl_11_503, List.forall_mem_cons.mpr ⟨wl_11_506, List.forall_mem_cons.mpr ⟨wl_11_509, List.forall_mem_cons.mpr ⟨wl_11_512, List.forall_mem_cons.mpr ⟨wl_11_515, List.forall_mem_cons.mpr ⟨wl_11_518, List.forall_mem_cons.mpr ⟨wl_11_521, List.forall_mem_cons.mpr ⟨wl_11_524, List.forall_mem_cons.mpr ⟨wl_11_527, List.forall_mem_cons.mpr ⟨wl_11_530, List.forall_mem_cons.mpr ⟨wl_11_534, List.forall_mem_cons.mpr ⟨wl_11_537, fun _ h => absurd h List.not_mem_nil⟩⟩⟩⟩⟩⟩⟩⟩⟩⟩⟩⟩⟩⟩⟩⟩⟩⟩⟩⟩
def xLQ_11_9 : List ((Nat × List Nat) × Nat) := [((540, [9]), 9070), ((541, [1, 0, 279]), 9051), ((545, [1, 0, 278]), 9047), ((548, [1, 0, 286]), 9079), ((551, [1, 0, 288]), 9087), ((554, [1, 0, 289]), 9091)]
theorem xLQ_11_9_ok : ∀ q ∈ xLQ_11_9, xchkL 11 q.1 q.2 = true := List.forall_mem_cons.mpr ⟨wl_11_540, List.forall_mem_cons.mpr ⟨wl_11_541, List.forall_mem_cons.mpr ⟨wl_11_545, List.forall_mem_cons.mpr ⟨wl_11_548, List.forall_mem_cons.mpr ⟨wl_11_551, List.forall_mem_cons.mpr ⟨wl_11_554, fun _ h => absurd h List.not_mem_nil⟩⟩⟩⟩⟩⟩
def xLQ_11 : List ((Nat × List Nat) × Nat) := xLQ_11_0 ++ (xLQ_11_1 ++ (xLQ_11_2 ++ (xLQ_11_3 ++ (xLQ_11_4 ++ (xLQ_11_5 ++ (xLQ_11_6 ++ (xLQ_11_7 ++ (xLQ_11_8 ++ (xLQ_11_9)))))))))
theorem xLQ_11_ok : ∀ q ∈ xLQ_11, xchkL 11 q.1 q.2 = true := List.forall_mem_append.mpr ⟨xLQ_11_0_ok, List.forall_mem_append.mpr ⟨xLQ_11_1_ok, List.forall_mem_append.mpr ⟨xLQ_11_2_ok, List.forall_mem_append.mpr ⟨xLQ_11_3_ok, List.forall_mem_append.mpr ⟨xLQ_11_4_ok, List.forall_mem_append.mpr ⟨xLQ_11_5_ok, List.forall_mem_append.mpr ⟨xLQ_11_6_ok, List.forall_mem_append.mpr ⟨xLQ_11_7_ok, List.forall_mem_append.mpr ⟨xLQ_11_8_ok, xLQ_11_9_ok⟩⟩⟩⟩⟩⟩⟩⟩⟩
theorem xLQ_11_is : xLkL 11 = xLQ_11.map (fun q => q.1) := by decide +kernel
theorem wl_12_3 : xchkL 12 (3, [2]) 1090 = true := by decide +kernel
theorem wl_12_9 : xchkL 12 (9, [3, 110, 128]) 3002 = true := by decide +kernel
theorem wl_12_14 : xchkL 12 (14, [0, 6, 4, 1]) 1065 = true := by decide +kernel
theorem wl_12_20 : xchkL 12 (20, [1, 1, 101]) 3011 = true := by decide +kernel
theorem wl_12_24 : xchkL 12 (24, [3, 111, 129]) 3083 = true := by decide +kernel
theorem wl_12_28 : xchkL 12 (28, [1, 1, 108]) 3140 = true := by decide +kernel
def xLQ_12_0 : List ((Nat × List Nat) × Nat) := [((3, [2]), 1090), ((9, [3, 110, 128]), 3002), ((14, [0, 6, 4, 1]), 1065), ((20, [1, 1, 101]), 3011), ((24, [3, 111, 129]), 3083), ((28, [1, 1, 108]), 3140)]
theorem xLQ_12_0_ok : ∀ q ∈ xLQ_12_0, xchkL 12 q.1 q.2 = true := List.forall_mem_cons.mpr ⟨wl_12_3, List.forall_mem_cons.mpr ⟨wl_12_9, List.forall_mem_cons.mpr ⟨wl_12_14, List.forall_mem_cons.mpr ⟨wl_12_20, List.forall_mem_cons.mpr ⟨wl_12_24, List.forall_mem_cons.mpr ⟨wl_12_28, fun _ h => absurd h List.not_mem_nil⟩⟩⟩⟩⟩⟩
def xLQ_12 : List ((Nat × List Nat) × Nat) := xLQ_12_0
theorem xLQ_12_ok : ∀ q ∈ xLQ_12, xchkL 12 q.1 q.2 = true := xLQ_12_0_ok
theorem xLQ_12_is : xLkL 12 = xLQ_12.map (fun q => q.1) := by decide +kernel
theorem wl_13_265 : xchkL 13 (265, [9]) 3176 = true := by decide +kernel
theorem wl_13_266 : xchkL 13 (266, [9]) 3177 = true := by decide +kernel
theorem wl_13_267 : xchkL 13 (267, [9]) 3178 = true := by decide +kernel
def xLQ_13_0 : List ((Nat × List Nat) × Nat) := [((265, [9]), 3176), ((266, [9]), 3177), ((267, [9]), 3178)]
theorem xLQ_13_0_ok : ∀ q ∈ xLQ_13_0, xchkL 13 q.1 q.2 = true := List.forall_mem_cons.mpr ⟨wl_13_265, List.forall_mem_cons.mpr ⟨wl_13_266, List.forall_mem_cons.mpr ⟨wl_13_267, fun _ h => absurd h List.not_mem_nil⟩⟩⟩
def xLQ_13 : List ((Nat × List Nat) × Nat) := xLQ_13_0
theorem xLQ_13_ok : ∀ q ∈ xLQ_13, xchkL 13 q.1 q.2 = true := xLQ_13_0_ok
theorem xLQ_13_is : xLkL 13 = xLQ_13.map (fun q => q.1) := by decide +kernel
def xLQ_14 : List ((Nat × List Nat) × Nat) := []
theorem xLQ_14_ok : ∀ q ∈ xLQ_14, xchkL 14 q.1 q.2 = true := fun _ h => absurd h List.not_mem_nil
theorem xLQ_14_is : xLkL 14 = xLQ_14.map (fun q => q.1) := by decide +kernel
def xLQ_15 : List ((Nat × List Nat) × Nat) := []
theorem xLQ_15_ok : ∀ q ∈ xLQ_15, xchkL 15 q.1 q.2 = true := fun _ h => absurd h List.not_mem_nil
theorem xLQ_15_is : xLkL 15 = xLQ_15.map (fun q => q.1) := by decide +kernel
def xLQ_16 : List ((Nat × List Nat) × Nat) := []
theorem xLQ_16_ok : ∀ q ∈ xLQ_16, xchkL 16 q.1 q.2 = true := fun _ h => absurd h List.not_mem_nil
theorem xLQ_16_is : xLkL 16 = xLQ_16.map (fun q => q.1) := by decide +kernel
theorem xchkL_all : ∀ (o : Nat) (q : Nat × List Nat), q ∈ xLkL o → ∃ p, xchkL o q p = true := by
  intro o q hq
  have main : ∀ (L : List ((Nat × List Nat) × Nat)), xLkL o = L.map (fun q => q.1) → (∀ q ∈ L, xchkL o q.1 q.2 = true) → ∃ p, xchkL o q p = true := fun L h1 h2 => by
    rw [h1] at hq
    obtain ⟨x, hx, rfl⟩ := List.mem_map.mp hq
    exact ⟨x.2, h2 x hx⟩
  rcases (show o = 0 ∨ o = 1 ∨ o = 2 ∨ o = 3 ∨ o = 4 ∨ o = 5 ∨ o = 6 ∨ o = 7 ∨ o = 8 ∨ o = 9 ∨ o = 10 ∨ o = 11 ∨ o = 12 ∨ o = 13 ∨ o = 14 ∨ o = 15 ∨ o = 16 ∨ (o ≠ 0 ∧ o ≠ 1 ∧ o ≠ 2 ∧ o ≠ 3 ∧ o ≠ 4 ∧ o ≠ 5 ∧ o ≠ 6 ∧ o ≠ 7 ∧ o ≠ 8 ∧ o ≠ 9 ∧ o ≠ 10 ∧ o ≠ 11 ∧ o ≠ 12 ∧ o ≠ 13 ∧ o ≠ 14 ∧ o ≠ 15 ∧ o ≠ 16) by omega) with rfl | rfl | rfl | rfl | rfl | rfl | rfl | rfl | rfl | rfl | rfl | rfl | rfl | rfl | rfl | rfl | rfl | hn
  · exact main xLQ_0 xLQ_0_is xLQ_0_ok
  · exact main xLQ_1 xLQ_1_is xLQ_1_ok
  · exact main xLQ_2 xLQ_2_is xLQ_2_ok
  · exact main xLQ_3 xLQ_3_is xLQ_3_ok
  · exact main xLQ_4 xLQ_4_is xLQ_4_ok
  · exact main xLQ_5 xLQ_5_is xLQ_5_ok
  · exact main xLQ_6 xLQ_6_is xLQ_6_ok
  · exact main xLQ_7 xLQ_7_is xLQ_7_ok
  · exact main xLQ_8 xLQ_8_is xLQ_8_ok
  · exact main xLQ_9 xLQ_9_is xLQ_9_ok
  · exact main xLQ_10 xLQ_10_is xLQ_10_ok
  · exact main xLQ_11 xLQ_11_is xLQ_11_ok
  · exact main xLQ_12 xLQ_12_is xLQ_12_ok
  · exact main xLQ_13 xLQ_13_is xLQ_13_ok
  · exact main xLQ_14 xLQ_14_is xLQ_14_ok
  · exact main xLQ_15 xLQ_15_is xLQ_15_ok
  · exact main xLQ_16 xLQ_16_is xLQ_16_ok
  · have : xLkL o = [] := by
      unfold xLkL
      rw [List.getD_eq_getElem?_getD, List.getElem?_eq_none (by show 17 ≤ o; omega)]
      rfl
    rw [this] at hq
    cases hq
def xtyc (t : Nat) (ty : FieldType) : Bool := match t, ty with
  | 0, .int => true
  | 1, .long => true
  | 2, .object _ => true
  | 2, .array _ => true
  | 3, .boolean => true
  | _, _ => false
def xty (ci : Nat) : Nat → FieldType := match ci with
  | 0 => tyX0
  | 1 => tyX1
  | 2 => tyX2
  | 3 => tyX3
  | 4 => tyX4
  | 5 => tyX6
  | 6 => tyX7
  | 7 => tyX8
  | 8 => tyX9
  | 9 => tyX10
  | 10 => tyX11
  | _ => tyX12
def xCP : List (Nat × Nat) := [(2109, 1013), (1233, 1012), (1218, 1010), (1139, 1008), (1224, 1011), (1034, 1002), (1050, 1003), (1083, 1005), (1197, 1009), (1113, 1006), (1026, 1001), (6148, 1014)]
def xchkC (ci : Nat) (p : Nat × Nat) : Bool := decide ((xcl ci).2.2 = xnf ci) && decide ((xcl ci).1 = xNm ci) && decide (xat p.1 = some (.instantiable (xcl ci).1 (xcl ci).2.2)) && decide (xat p.2 = some (.initialized (xcl ci).1)) && (List.range (xnf ci)).all (fun k => decide (parseFieldDescriptor ((xcl ci).2.1 k).2.2.1 = some (xty ci k)) && xtyc (xtg ci k) (xty ci k) && decide (((xcl ci).2.1 k).1 = (xcl ci).1))
theorem xchkC_all : (List.range 12).all (fun ci => xchkC ci (xCP.getD ci (0, 0))) = true := by decide +kernel
theorem xin_of {ws : List Cond} {ps : List Nat} (h : ws.map some = ps.map xat) : ∀ w ∈ ws, w ∈ lw_tbl := by
  intro w hw
  have h1 : some w ∈ ps.map xat := by rw [← h]; exact List.mem_map.mpr ⟨w, hw, rfl⟩
  obtain ⟨p, -, hp⟩ := List.mem_map.mp h1
  exact xat_in hp
def xlp_0 : List Nat := [2122, 2124, 2126, 2128, 2130, 2132, 2134]
theorem xinl_0 : (u_ws (xcl 0).1 (xcl 0).2.1 (xcl 0).2.2).map some = xlp_0.map xat := by decide +kernel
theorem xin_0 : ∀ w ∈ u_ws (xcl 0).1 (xcl 0).2.1 (xcl 0).2.2, w ∈ lw_tbl := xin_of xinl_0
theorem xnm_0 : ∀ a, a < (xcl 0).2.2 → ∀ b, b < (xcl 0).2.2 → a ≠ b → ((xcl 0).2.1 a).2.1 ≠ ((xcl 0).2.1 b).2.1 := nmX0
def xlp_1 : List Nat := [2009, 2011, 2013, 2015, 2017, 2019]
theorem xinl_1 : (u_ws (xcl 1).1 (xcl 1).2.1 (xcl 1).2.2).map some = xlp_1.map xat := by decide +kernel
theorem xin_1 : ∀ w ∈ u_ws (xcl 1).1 (xcl 1).2.1 (xcl 1).2.2, w ∈ lw_tbl := xin_of xinl_1
theorem xnm_1 : ∀ a, a < (xcl 1).2.2 → ∀ b, b < (xcl 1).2.2 → a ≠ b → ((xcl 1).2.1 a).2.1 ≠ ((xcl 1).2.1 b).2.1 := nmX1
def xlp_2 : List Nat := [2091, 2093, 2095, 2097, 2099, 2101, 2103, 2105]
theorem xinl_2 : (u_ws (xcl 2).1 (xcl 2).2.1 (xcl 2).2.2).map some = xlp_2.map xat := by decide +kernel
theorem xin_2 : ∀ w ∈ u_ws (xcl 2).1 (xcl 2).2.1 (xcl 2).2.2, w ∈ lw_tbl := xin_of xinl_2
theorem xnm_2 : ∀ a, a < (xcl 2).2.2 → ∀ b, b < (xcl 2).2.2 → a ≠ b → ((xcl 2).2.1 a).2.1 ≠ ((xcl 2).2.1 b).2.1 := nmX2
def xlp_3 : List Nat := [1165, 1167, 1169, 1171, 1173, 1175, 1177, 1179, 1181, 1183, 1185, 1187, 1189, 1191, 1193]
theorem xinl_3 : (u_ws (xcl 3).1 (xcl 3).2.1 (xcl 3).2.2).map some = xlp_3.map xat := by decide +kernel
theorem xin_3 : ∀ w ∈ u_ws (xcl 3).1 (xcl 3).2.1 (xcl 3).2.2, w ∈ lw_tbl := xin_of xinl_3
theorem xnm_3 : ∀ a, a < (xcl 3).2.2 → ∀ b, b < (xcl 3).2.2 → a ≠ b → ((xcl 3).2.1 a).2.1 ≠ ((xcl 3).2.1 b).2.1 := nmX3
def xlp_4 : List Nat := [2045, 2047, 2049, 2051, 2053, 2055, 2057, 2059, 2061, 2063, 2065, 2067, 2069, 2071, 2073, 2075, 2077, 2079]
theorem xinl_4 : (u_ws (xcl 4).1 (xcl 4).2.1 (xcl 4).2.2).map some = xlp_4.map xat := by decide +kernel
theorem xin_4 : ∀ w ∈ u_ws (xcl 4).1 (xcl 4).2.1 (xcl 4).2.2, w ∈ lw_tbl := xin_of xinl_4
theorem xnm_4 : ∀ a, a < (xcl 4).2.2 → ∀ b, b < (xcl 4).2.2 → a ≠ b → ((xcl 4).2.1 a).2.1 ≠ ((xcl 4).2.1 b).2.1 := nmX4
def xlp_5 : List Nat := [1043, 1045]
theorem xinl_5 : (u_ws (xcl 5).1 (xcl 5).2.1 (xcl 5).2.2).map some = xlp_5.map xat := by decide +kernel
theorem xin_5 : ∀ w ∈ u_ws (xcl 5).1 (xcl 5).2.1 (xcl 5).2.2, w ∈ lw_tbl := xin_of xinl_5
theorem xnm_5 : ∀ a, a < (xcl 5).2.2 → ∀ b, b < (xcl 5).2.2 → a ≠ b → ((xcl 5).2.1 a).2.1 ≠ ((xcl 5).2.1 b).2.1 := nmX6
def xlp_6 : List Nat := [1069, 1071, 1073, 1075, 1077, 1079]
theorem xinl_6 : (u_ws (xcl 6).1 (xcl 6).2.1 (xcl 6).2.2).map some = xlp_6.map xat := by decide +kernel
theorem xin_6 : ∀ w ∈ u_ws (xcl 6).1 (xcl 6).2.1 (xcl 6).2.2, w ∈ lw_tbl := xin_of xinl_6
theorem xnm_6 : ∀ a, a < (xcl 6).2.2 → ∀ b, b < (xcl 6).2.2 → a ≠ b → ((xcl 6).2.1 a).2.1 ≠ ((xcl 6).2.1 b).2.1 := nmX7
def xlp_7 : List Nat := [1098, 1100, 1102, 1104, 1106, 1108]
theorem xinl_7 : (u_ws (xcl 7).1 (xcl 7).2.1 (xcl 7).2.2).map some = xlp_7.map xat := by decide +kernel
theorem xin_7 : ∀ w ∈ u_ws (xcl 7).1 (xcl 7).2.1 (xcl 7).2.2, w ∈ lw_tbl := xin_of xinl_7
theorem xnm_7 : ∀ a, a < (xcl 7).2.2 → ∀ b, b < (xcl 7).2.2 → a ≠ b → ((xcl 7).2.1 a).2.1 ≠ ((xcl 7).2.1 b).2.1 := nmX8
def xlp_8 : List Nat := [1208, 1210, 1212, 1214]
theorem xinl_8 : (u_ws (xcl 8).1 (xcl 8).2.1 (xcl 8).2.2).map some = xlp_8.map xat := by decide +kernel
theorem xin_8 : ∀ w ∈ u_ws (xcl 8).1 (xcl 8).2.1 (xcl 8).2.2, w ∈ lw_tbl := xin_of xinl_8
theorem xnm_8 : ∀ a, a < (xcl 8).2.2 → ∀ b, b < (xcl 8).2.2 → a ≠ b → ((xcl 8).2.1 a).2.1 ≠ ((xcl 8).2.1 b).2.1 := nmX9
def xlp_9 : List Nat := [1130, 1132, 1134]
theorem xinl_9 : (u_ws (xcl 9).1 (xcl 9).2.1 (xcl 9).2.2).map some = xlp_9.map xat := by decide +kernel
theorem xin_9 : ∀ w ∈ u_ws (xcl 9).1 (xcl 9).2.1 (xcl 9).2.2, w ∈ lw_tbl := xin_of xinl_9
theorem xnm_9 : ∀ a, a < (xcl 9).2.2 → ∀ b, b < (xcl 9).2.2 → a ≠ b → ((xcl 9).2.1 a).2.1 ≠ ((xcl 9).2.1 b).2.1 := nmX10
def xlp_10 : List Nat := [2156, 2158, 2160, 2162, 2164, 2166, 2168, 2170, 2172, 2174, 2176, 2178, 2180, 2182, 2184, 2186, 2188, 2190, 2192]
theorem xinl_10 : (u_ws (xcl 10).1 (xcl 10).2.1 (xcl 10).2.2).map some = xlp_10.map xat := by decide +kernel
theorem xin_10 : ∀ w ∈ u_ws (xcl 10).1 (xcl 10).2.1 (xcl 10).2.2, w ∈ lw_tbl := xin_of xinl_10
theorem xnm_10 : ∀ a, a < (xcl 10).2.2 → ∀ b, b < (xcl 10).2.2 → a ≠ b → ((xcl 10).2.1 a).2.1 ≠ ((xcl 10).2.1 b).2.1 := nmX11
def xlp_11 : List Nat := [7208, 7210, 7212, 7214, 7216, 7218, 7220, 7222, 7224, 7226, 7228, 7230, 7232, 7234, 7236, 7238, 8000, 8002, 8004, 8006, 8008, 8010, 8012, 8014, 8016, 8018, 8020, 8022, 8024, 8026, 8028, 8030, 8032, 8034, 8036, 8038, 8040, 8042, 8044, 8046, 8048, 8050, 8052, 8054, 8056, 8058, 8060, 8062, 8064, 8066, 8068, 8070, 8072, 8074, 8076, 8078, 8080, 8082, 8084, 8086, 8088, 8090, 8092, 8094, 8096, 8098, 8100, 8102, 8104, 8106, 8108, 8110, 8112, 8114, 8116, 8118, 8120, 8122, 8124, 8126, 8128, 8130, 8132]
theorem xinl_11 : (u_ws (xcl 11).1 (xcl 11).2.1 (xcl 11).2.2).map some = xlp_11.map xat := by decide +kernel
theorem xin_11 : ∀ w ∈ u_ws (xcl 11).1 (xcl 11).2.1 (xcl 11).2.2, w ∈ lw_tbl := xin_of xinl_11
theorem xnm_11 : ∀ a, a < (xcl 11).2.2 → ∀ b, b < (xcl 11).2.2 → a ≠ b → ((xcl 11).2.1 a).2.1 ≠ ((xcl 11).2.1 b).2.1 := nmX12
