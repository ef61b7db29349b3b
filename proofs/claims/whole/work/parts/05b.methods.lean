/-! methods -/
def ip_kinds : List Nat := [1, 2, 2, 2, 2, 2, 2, 2, 2, 2, 2, 2, 2, 2, 2, 2, 2, 0, 0, 1, 2, 2, 0, 2, 2, 2, 0, 0, 0, 2, 2, 2, 2, 2, 2, 2, 2, 2, 2, 0, 2, 2, 2, 2, 2, 2, 2, 2, 2, 2, 2, 2, 2, 2, 2, 2, 2, 2, 2, 2, 2, 2, 2, 2, 2, 2, 2, 2, 2, 2, 2, 2, 2, 2, 2, 2, 2, 2, 2, 2, 2, 2, 2, 2, 2, 2, 2, 1, 2, 2, 2, 2, 2, 2, 2, 2, 0, 0, 0, 0, 0, 0, 1, 2, 2, 2, 2, 2, 2, 2, 2, 2, 2, 2, 2, 2, 2, 2, 2, 1, 2, 2, 2, 2, 2, 1, 2, 2, 2, 2, 2, 2, 2, 0, 2, 2, 2, 1, 0, 0, 0, 0, 0, 2, 2, 2, 2, 2, 2, 1, 2, 2, 2, 2, 2, 2, 2, 2, 2, 2, 1, 2, 2, 2, 2, 2, 2, 2, 2, 2, 2, 2, 2, 2, 2, 2, 2, 2, 2, 2, 2, 2, 2, 2, 2, 2, 2, 2, 2, 1, 2, 2, 2, 1, 0, 0, 2, 0, 0, 0, 0, 0, 0, 0, 0, 0, 0, 0, 0, 0]
def ip_kind (mi : Nat) : Nat := (ip_kinds.getD mi 9)
/-- what a method has: its code's word, its class, how it is called (0 static, 1 constructor, 2 by the receiver) -/
def ip_mOK (mi : Nat) : Prop := Cond.code (ip_y mi) (ip_bytes mi) (ip_maxL mi) (ip_ret mi) ∈ ip_gw ∧ Cond.initialized (ip_y mi).cls ∈ ip_gw ∧ (plainName (ip_y mi).cls = true ∧ ((ip_y mi).cls ≠ "java/lang/invoke/MethodHandle" ∧ (ip_y mi).cls ≠ "java/lang/invoke/VarHandle") ∧ (ip_y mi).cls = ip_own mi) ∧
  (ip_kind mi = 0 → Cond.static (ip_y mi) ∈ ip_gw) ∧ (ip_kind mi = 1 → ((ip_y mi).name = "<init>" ∧ ip_ret mi = none) ∧ Cond.instanceMethod (ip_y mi) ∈ ip_gw) ∧ (ip_kind mi = 2 → Cond.instanceMethod (ip_y mi) ∈ ip_gw ∧ Cond.selects (ip_y mi).cls (ip_y mi) (ip_y mi) ∈ ip_gw ∧ ∃ N U, ip_cls[ip_oc mi]? = some ((ip_y mi).cls, U, N))
set_option maxRecDepth 100000 in
theorem kM_0 : ip_mOK 0 := ⟨ip_gw_t (i := 28) rfl (by decide +kernel), ip_gw_t (i := 1) (by decide +kernel) (by decide +kernel), by decide +kernel, fun h => absurd h (by decide +kernel), fun _ => ⟨⟨by decide +kernel, by decide +kernel⟩, ip_gw_t (i := 27) (by decide +kernel) (by decide +kernel)⟩, fun h => absurd h (by decide +kernel)⟩
set_option maxRecDepth 100000 in
theorem kM_1 : ip_mOK 1 := ⟨ip_gw_t (i := 579) rfl (by decide +kernel), ip_gw_t (i := 1) (by decide +kernel) (by decide +kernel), by decide +kernel, fun h => absurd h (by decide +kernel), fun h => absurd h (by decide +kernel), fun _ => ⟨ip_gw_t (i := 577) (by decide +kernel) (by decide +kernel), ip_gw_t (i := 578) (by decide +kernel) (by decide +kernel), ⟨_, _, rfl⟩⟩⟩
set_option maxRecDepth 100000 in
theorem kM_2 : ip_mOK 2 := ⟨ip_gw_t (i := 658) rfl (by decide +kernel), ip_gw_t (i := 1) (by decide +kernel) (by decide +kernel), by decide +kernel, fun h => absurd h (by decide +kernel), fun h => absurd h (by decide +kernel), fun _ => ⟨ip_gw_t (i := 656) (by decide +kernel) (by decide +kernel), ip_gw_t (i := 657) (by decide +kernel) (by decide +kernel), ⟨_, _, rfl⟩⟩⟩
set_option maxRecDepth 100000 in
theorem kM_3 : ip_mOK 3 := ⟨ip_gw_t (i := 686) rfl (by decide +kernel), ip_gw_t (i := 1) (by decide +kernel) (by decide +kernel), by decide +kernel, fun h => absurd h (by decide +kernel), fun h => absurd h (by decide +kernel), fun _ => ⟨ip_gw_t (i := 684) (by decide +kernel) (by decide +kernel), ip_gw_t (i := 685) (by decide +kernel) (by decide +kernel), ⟨_, _, rfl⟩⟩⟩
set_option maxRecDepth 100000 in
theorem kM_4 : ip_mOK 4 := ⟨ip_gw_t (i := 914) rfl (by decide +kernel), ip_gw_t (i := 1) (by decide +kernel) (by decide +kernel), by decide +kernel, fun h => absurd h (by decide +kernel), fun h => absurd h (by decide +kernel), fun _ => ⟨ip_gw_t (i := 912) (by decide +kernel) (by decide +kernel), ip_gw_t (i := 913) (by decide +kernel) (by decide +kernel), ⟨_, _, rfl⟩⟩⟩
set_option maxRecDepth 100000 in
theorem kM_5 : ip_mOK 5 := ⟨ip_gw_t (i := 941) rfl (by decide +kernel), ip_gw_t (i := 1) (by decide +kernel) (by decide +kernel), by decide +kernel, fun h => absurd h (by decide +kernel), fun h => absurd h (by decide +kernel), fun _ => ⟨ip_gw_t (i := 939) (by decide +kernel) (by decide +kernel), ip_gw_t (i := 940) (by decide +kernel) (by decide +kernel), ⟨_, _, rfl⟩⟩⟩
set_option maxRecDepth 100000 in
theorem kM_6 : ip_mOK 6 := ⟨ip_gw_t (i := 955) rfl (by decide +kernel), ip_gw_t (i := 1) (by decide +kernel) (by decide +kernel), by decide +kernel, fun h => absurd h (by decide +kernel), fun h => absurd h (by decide +kernel), fun _ => ⟨ip_gw_t (i := 953) (by decide +kernel) (by decide +kernel), ip_gw_t (i := 954) (by decide +kernel) (by decide +kernel), ⟨_, _, rfl⟩⟩⟩
set_option maxRecDepth 100000 in
theorem kM_7 : ip_mOK 7 := ⟨ip_gw_t (i := 962) rfl (by decide +kernel), ip_gw_t (i := 1) (by decide +kernel) (by decide +kernel), by decide +kernel, fun h => absurd h (by decide +kernel), fun h => absurd h (by decide +kernel), fun _ => ⟨ip_gw_t (i := 960) (by decide +kernel) (by decide +kernel), ip_gw_t (i := 961) (by decide +kernel) (by decide +kernel), ⟨_, _, rfl⟩⟩⟩
set_option maxRecDepth 100000 in
theorem kM_8 : ip_mOK 8 := ⟨ip_gw_t (i := 969) rfl (by decide +kernel), ip_gw_t (i := 1) (by decide +kernel) (by decide +kernel), by decide +kernel, fun h => absurd h (by decide +kernel), fun h => absurd h (by decide +kernel), fun _ => ⟨ip_gw_t (i := 967) (by decide +kernel) (by decide +kernel), ip_gw_t (i := 968) (by decide +kernel) (by decide +kernel), ⟨_, _, rfl⟩⟩⟩
set_option maxRecDepth 100000 in
theorem kM_9 : ip_mOK 9 := ⟨ip_gw_t (i := 976) rfl (by decide +kernel), ip_gw_t (i := 1) (by decide +kernel) (by decide +kernel), by decide +kernel, fun h => absurd h (by decide +kernel), fun h => absurd h (by decide +kernel), fun _ => ⟨ip_gw_t (i := 974) (by decide +kernel) (by decide +kernel), ip_gw_t (i := 975) (by decide +kernel) (by decide +kernel), ⟨_, _, rfl⟩⟩⟩
set_option maxRecDepth 100000 in
theorem kM_10 : ip_mOK 10 := ⟨ip_gw_t (i := 442) rfl (by decide +kernel), ip_gw_t (i := 1) (by decide +kernel) (by decide +kernel), by decide +kernel, fun h => absurd h (by decide +kernel), fun h => absurd h (by decide +kernel), fun _ => ⟨ip_gw_t (i := 440) (by decide +kernel) (by decide +kernel), ip_gw_t (i := 441) (by decide +kernel) (by decide +kernel), ⟨_, _, rfl⟩⟩⟩
set_option maxRecDepth 100000 in
theorem kM_11 : ip_mOK 11 := ⟨ip_gw_t (i := 984) rfl (by decide +kernel), ip_gw_t (i := 1) (by decide +kernel) (by decide +kernel), by decide +kernel, fun h => absurd h (by decide +kernel), fun h => absurd h (by decide +kernel), fun _ => ⟨ip_gw_t (i := 982) (by decide +kernel) (by decide +kernel), ip_gw_t (i := 983) (by decide +kernel) (by decide +kernel), ⟨_, _, rfl⟩⟩⟩
set_option maxRecDepth 100000 in
theorem kM_12 : ip_mOK 12 := ⟨ip_gw_t (i := 1003) rfl (by decide +kernel), ip_gw_t (i := 1) (by decide +kernel) (by decide +kernel), by decide +kernel, fun h => absurd h (by decide +kernel), fun h => absurd h (by decide +kernel), fun _ => ⟨ip_gw_t (i := 1001) (by decide +kernel) (by decide +kernel), ip_gw_t (i := 1002) (by decide +kernel) (by decide +kernel), ⟨_, _, rfl⟩⟩⟩
set_option maxRecDepth 100000 in
theorem kM_13 : ip_mOK 13 := ⟨ip_gw_t (i := 450) rfl (by decide +kernel), ip_gw_t (i := 1) (by decide +kernel) (by decide +kernel), by decide +kernel, fun h => absurd h (by decide +kernel), fun h => absurd h (by decide +kernel), fun _ => ⟨ip_gw_t (i := 448) (by decide +kernel) (by decide +kernel), ip_gw_t (i := 449) (by decide +kernel) (by decide +kernel), ⟨_, _, rfl⟩⟩⟩
set_option maxRecDepth 100000 in
theorem kM_14 : ip_mOK 14 := ⟨ip_gw_t (i := 1010) rfl (by decide +kernel), ip_gw_t (i := 1) (by decide +kernel) (by decide +kernel), by decide +kernel, fun h => absurd h (by decide +kernel), fun h => absurd h (by decide +kernel), fun _ => ⟨ip_gw_t (i := 1008) (by decide +kernel) (by decide +kernel), ip_gw_t (i := 1009) (by decide +kernel) (by decide +kernel), ⟨_, _, rfl⟩⟩⟩
set_option maxRecDepth 100000 in
theorem kM_15 : ip_mOK 15 := ⟨ip_gw_t (i := 554) rfl (by decide +kernel), ip_gw_t (i := 1) (by decide +kernel) (by decide +kernel), by decide +kernel, fun h => absurd h (by decide +kernel), fun h => absurd h (by decide +kernel), fun _ => ⟨ip_gw_t (i := 552) (by decide +kernel) (by decide +kernel), ip_gw_t (i := 553) (by decide +kernel) (by decide +kernel), ⟨_, _, rfl⟩⟩⟩
set_option maxRecDepth 100000 in
theorem kM_16 : ip_mOK 16 := ⟨ip_gw_t (i := 565) rfl (by decide +kernel), ip_gw_t (i := 1) (by decide +kernel) (by decide +kernel), by decide +kernel, fun h => absurd h (by decide +kernel), fun h => absurd h (by decide +kernel), fun _ => ⟨ip_gw_t (i := 563) (by decide +kernel) (by decide +kernel), ip_gw_t (i := 564) (by decide +kernel) (by decide +kernel), ⟨_, _, rfl⟩⟩⟩
set_option maxRecDepth 100000 in
theorem kM_17 : ip_mOK 17 := ⟨ip_gw_t (i := 987) rfl (by decide +kernel), ip_gw_t (i := 1) (by decide +kernel) (by decide +kernel), by decide +kernel, fun _ => ip_gw_t (i := 986) (by decide +kernel) (by decide +kernel), fun h => absurd h (by decide +kernel), fun h => absurd h (by decide +kernel)⟩
set_option maxRecDepth 100000 in
theorem kM_18 : ip_mOK 18 := ⟨ip_gw_t (i := 944) rfl (by decide +kernel), ip_gw_t (i := 1) (by decide +kernel) (by decide +kernel), by decide +kernel, fun _ => ip_gw_t (i := 943) (by decide +kernel) (by decide +kernel), fun h => absurd h (by decide +kernel), fun h => absurd h (by decide +kernel)⟩
set_option maxRecDepth 100000 in
theorem kM_19 : ip_mOK 19 := ⟨ip_gw_t (i := 1016) rfl (by decide +kernel), ip_gw_t (i := 16) (by decide +kernel) (by decide +kernel), by decide +kernel, fun h => absurd h (by decide +kernel), fun _ => ⟨⟨by decide +kernel, by decide +kernel⟩, ip_gw_t (i := 1015) (by decide +kernel) (by decide +kernel)⟩, fun h => absurd h (by decide +kernel)⟩
set_option maxRecDepth 100000 in
theorem kM_20 : ip_mOK 20 := ⟨ip_gw_t (i := 1176) rfl (by decide +kernel), ip_gw_t (i := 16) (by decide +kernel) (by decide +kernel), by decide +kernel, fun h => absurd h (by decide +kernel), fun h => absurd h (by decide +kernel), fun _ => ⟨ip_gw_t (i := 1174) (by decide +kernel) (by decide +kernel), ip_gw_t (i := 1175) (by decide +kernel) (by decide +kernel), ⟨_, _, rfl⟩⟩⟩
set_option maxRecDepth 100000 in
theorem kM_21 : ip_mOK 21 := ⟨ip_gw_t (i := 1184) rfl (by decide +kernel), ip_gw_t (i := 16) (by decide +kernel) (by decide +kernel), by decide +kernel, fun h => absurd h (by decide +kernel), fun h => absurd h (by decide +kernel), fun _ => ⟨ip_gw_t (i := 1183) (by decide +kernel) (by decide +kernel), ip_gw_p (i := 48) (by decide +kernel) (by decide +kernel), ⟨_, _, rfl⟩⟩⟩
set_option maxRecDepth 100000 in
theorem kM_22 : ip_mOK 22 := ⟨ip_gw_t (i := 1191) rfl (by decide +kernel), ip_gw_t (i := 16) (by decide +kernel) (by decide +kernel), by decide +kernel, fun _ => ip_gw_t (i := 1190) (by decide +kernel) (by decide +kernel), fun h => absurd h (by decide +kernel), fun h => absurd h (by decide +kernel)⟩
set_option maxRecDepth 100000 in
theorem kM_23 : ip_mOK 23 := ⟨ip_gw_t (i := 1180) rfl (by decide +kernel), ip_gw_t (i := 16) (by decide +kernel) (by decide +kernel), by decide +kernel, fun h => absurd h (by decide +kernel), fun h => absurd h (by decide +kernel), fun _ => ⟨ip_gw_t (i := 1178) (by decide +kernel) (by decide +kernel), ip_gw_t (i := 1179) (by decide +kernel) (by decide +kernel), ⟨_, _, rfl⟩⟩⟩
set_option maxRecDepth 100000 in
theorem kM_24 : ip_mOK 24 := ⟨ip_gw_t (i := 1188) rfl (by decide +kernel), ip_gw_t (i := 16) (by decide +kernel) (by decide +kernel), by decide +kernel, fun h => absurd h (by decide +kernel), fun h => absurd h (by decide +kernel), fun _ => ⟨ip_gw_t (i := 1186) (by decide +kernel) (by decide +kernel), ip_gw_t (i := 1187) (by decide +kernel) (by decide +kernel), ⟨_, _, rfl⟩⟩⟩
set_option maxRecDepth 100000 in
theorem kM_25 : ip_mOK 25 := ⟨ip_gw_t (i := 1220) rfl (by decide +kernel), ip_gw_t (i := 16) (by decide +kernel) (by decide +kernel), by decide +kernel, fun h => absurd h (by decide +kernel), fun h => absurd h (by decide +kernel), fun _ => ⟨ip_gw_t (i := 1219) (by decide +kernel) (by decide +kernel), ip_gw_p (i := 52) (by decide +kernel) (by decide +kernel), ⟨_, _, rfl⟩⟩⟩
set_option maxRecDepth 100000 in
theorem kM_26 : ip_mOK 26 := ⟨ip_gw_t (i := 1209) rfl (by decide +kernel), ip_gw_t (i := 16) (by decide +kernel) (by decide +kernel), by decide +kernel, fun _ => ip_gw_t (i := 1208) (by decide +kernel) (by decide +kernel), fun h => absurd h (by decide +kernel), fun h => absurd h (by decide +kernel)⟩
set_option maxRecDepth 100000 in
theorem kM_27 : ip_mOK 27 := ⟨ip_gw_t (i := 1212) rfl (by decide +kernel), ip_gw_t (i := 16) (by decide +kernel) (by decide +kernel), by decide +kernel, fun _ => ip_gw_t (i := 1211) (by decide +kernel) (by decide +kernel), fun h => absurd h (by decide +kernel), fun h => absurd h (by decide +kernel)⟩
set_option maxRecDepth 100000 in
theorem kM_28 : ip_mOK 28 := ⟨ip_gw_t (i := 1206) rfl (by decide +kernel), ip_gw_t (i := 16) (by decide +kernel) (by decide +kernel), by decide +kernel, fun _ => ip_gw_t (i := 1205) (by decide +kernel) (by decide +kernel), fun h => absurd h (by decide +kernel), fun h => absurd h (by decide +kernel)⟩
set_option maxRecDepth 100000 in
theorem kM_29 : ip_mOK 29 := ⟨ip_gw_t (i := 1203) rfl (by decide +kernel), ip_gw_t (i := 16) (by decide +kernel) (by decide +kernel), by decide +kernel, fun h => absurd h (by decide +kernel), fun h => absurd h (by decide +kernel), fun _ => ⟨ip_gw_t (i := 1202) (by decide +kernel) (by decide +kernel), ip_gw_p (i := 50) (by decide +kernel) (by decide +kernel), ⟨_, _, rfl⟩⟩⟩
set_option maxRecDepth 100000 in
theorem kM_30 : ip_mOK 30 := ⟨ip_gw_t (i := 1216) rfl (by decide +kernel), ip_gw_t (i := 16) (by decide +kernel) (by decide +kernel), by decide +kernel, fun h => absurd h (by decide +kernel), fun h => absurd h (by decide +kernel), fun _ => ⟨ip_gw_t (i := 1215) (by decide +kernel) (by decide +kernel), ip_gw_p (i := 51) (by decide +kernel) (by decide +kernel), ⟨_, _, rfl⟩⟩⟩
set_option maxRecDepth 100000 in
theorem kM_31 : ip_mOK 31 := ⟨ip_gw_t (i := 1199) rfl (by decide +kernel), ip_gw_t (i := 16) (by decide +kernel) (by decide +kernel), by decide +kernel, fun h => absurd h (by decide +kernel), fun h => absurd h (by decide +kernel), fun _ => ⟨ip_gw_t (i := 1198) (by decide +kernel) (by decide +kernel), ip_gw_p (i := 49) (by decide +kernel) (by decide +kernel), ⟨_, _, rfl⟩⟩⟩
set_option maxRecDepth 100000 in
theorem kM_32 : ip_mOK 32 := ⟨ip_gw_t (i := 1251) rfl (by decide +kernel), ip_gw_t (i := 16) (by decide +kernel) (by decide +kernel), by decide +kernel, fun h => absurd h (by decide +kernel), fun h => absurd h (by decide +kernel), fun _ => ⟨ip_gw_t (i := 1250) (by decide +kernel) (by decide +kernel), ip_gw_p (i := 59) (by decide +kernel) (by decide +kernel), ⟨_, _, rfl⟩⟩⟩
set_option maxRecDepth 100000 in
theorem kM_33 : ip_mOK 33 := ⟨ip_gw_t (i := 1259) rfl (by decide +kernel), ip_gw_t (i := 16) (by decide +kernel) (by decide +kernel), by decide +kernel, fun h => absurd h (by decide +kernel), fun h => absurd h (by decide +kernel), fun _ => ⟨ip_gw_t (i := 1258) (by decide +kernel) (by decide +kernel), ip_gw_p (i := 61) (by decide +kernel) (by decide +kernel), ⟨_, _, rfl⟩⟩⟩
set_option maxRecDepth 100000 in
theorem kM_34 : ip_mOK 34 := ⟨ip_gw_t (i := 1275) rfl (by decide +kernel), ip_gw_t (i := 16) (by decide +kernel) (by decide +kernel), by decide +kernel, fun h => absurd h (by decide +kernel), fun h => absurd h (by decide +kernel), fun _ => ⟨ip_gw_t (i := 1274) (by decide +kernel) (by decide +kernel), ip_gw_p (i := 65) (by decide +kernel) (by decide +kernel), ⟨_, _, rfl⟩⟩⟩
set_option maxRecDepth 100000 in
theorem kM_35 : ip_mOK 35 := ⟨ip_gw_t (i := 1247) rfl (by decide +kernel), ip_gw_t (i := 16) (by decide +kernel) (by decide +kernel), by decide +kernel, fun h => absurd h (by decide +kernel), fun h => absurd h (by decide +kernel), fun _ => ⟨ip_gw_t (i := 1246) (by decide +kernel) (by decide +kernel), ip_gw_p (i := 58) (by decide +kernel) (by decide +kernel), ⟨_, _, rfl⟩⟩⟩
set_option maxRecDepth 100000 in
theorem kM_36 : ip_mOK 36 := ⟨ip_gw_t (i := 1279) rfl (by decide +kernel), ip_gw_t (i := 16) (by decide +kernel) (by decide +kernel), by decide +kernel, fun h => absurd h (by decide +kernel), fun h => absurd h (by decide +kernel), fun _ => ⟨ip_gw_t (i := 1278) (by decide +kernel) (by decide +kernel), ip_gw_p (i := 66) (by decide +kernel) (by decide +kernel), ⟨_, _, rfl⟩⟩⟩
set_option maxRecDepth 100000 in
theorem kM_37 : ip_mOK 37 := ⟨ip_gw_t (i := 1243) rfl (by decide +kernel), ip_gw_t (i := 16) (by decide +kernel) (by decide +kernel), by decide +kernel, fun h => absurd h (by decide +kernel), fun h => absurd h (by decide +kernel), fun _ => ⟨ip_gw_t (i := 1242) (by decide +kernel) (by decide +kernel), ip_gw_p (i := 57) (by decide +kernel) (by decide +kernel), ⟨_, _, rfl⟩⟩⟩
set_option maxRecDepth 100000 in
theorem kM_38 : ip_mOK 38 := ⟨ip_gw_t (i := 1239) rfl (by decide +kernel), ip_gw_t (i := 16) (by decide +kernel) (by decide +kernel), by decide +kernel, fun h => absurd h (by decide +kernel), fun h => absurd h (by decide +kernel), fun _ => ⟨ip_gw_t (i := 1238) (by decide +kernel) (by decide +kernel), ip_gw_p (i := 56) (by decide +kernel) (by decide +kernel), ⟨_, _, rfl⟩⟩⟩
set_option maxRecDepth 100000 in
theorem kM_39 : ip_mOK 39 := ⟨ip_gw_t (i := 1235) rfl (by decide +kernel), ip_gw_t (i := 16) (by decide +kernel) (by decide +kernel), by decide +kernel, fun _ => ip_gw_t (i := 1234) (by decide +kernel) (by decide +kernel), fun h => absurd h (by decide +kernel), fun h => absurd h (by decide +kernel)⟩
set_option maxRecDepth 100000 in
theorem kM_40 : ip_mOK 40 := ⟨ip_gw_t (i := 1232) rfl (by decide +kernel), ip_gw_t (i := 16) (by decide +kernel) (by decide +kernel), by decide +kernel, fun h => absurd h (by decide +kernel), fun h => absurd h (by decide +kernel), fun _ => ⟨ip_gw_t (i := 1231) (by decide +kernel) (by decide +kernel), ip_gw_p (i := 55) (by decide +kernel) (by decide +kernel), ⟨_, _, rfl⟩⟩⟩
set_option maxRecDepth 100000 in
theorem kM_41 : ip_mOK 41 := ⟨ip_gw_t (i := 1271) rfl (by decide +kernel), ip_gw_t (i := 16) (by decide +kernel) (by decide +kernel), by decide +kernel, fun h => absurd h (by decide +kernel), fun h => absurd h (by decide +kernel), fun _ => ⟨ip_gw_t (i := 1270) (by decide +kernel) (by decide +kernel), ip_gw_p (i := 64) (by decide +kernel) (by decide +kernel), ⟨_, _, rfl⟩⟩⟩
set_option maxRecDepth 100000 in
theorem kM_42 : ip_mOK 42 := ⟨ip_gw_t (i := 1263) rfl (by decide +kernel), ip_gw_t (i := 16) (by decide +kernel) (by decide +kernel), by decide +kernel, fun h => absurd h (by decide +kernel), fun h => absurd h (by decide +kernel), fun _ => ⟨ip_gw_t (i := 1262) (by decide +kernel) (by decide +kernel), ip_gw_p (i := 62) (by decide +kernel) (by decide +kernel), ⟨_, _, rfl⟩⟩⟩
set_option maxRecDepth 100000 in
theorem kM_43 : ip_mOK 43 := ⟨ip_gw_t (i := 1228) rfl (by decide +kernel), ip_gw_t (i := 16) (by decide +kernel) (by decide +kernel), by decide +kernel, fun h => absurd h (by decide +kernel), fun h => absurd h (by decide +kernel), fun _ => ⟨ip_gw_t (i := 1227) (by decide +kernel) (by decide +kernel), ip_gw_p (i := 54) (by decide +kernel) (by decide +kernel), ⟨_, _, rfl⟩⟩⟩
set_option maxRecDepth 100000 in
theorem kM_44 : ip_mOK 44 := ⟨ip_gw_t (i := 1255) rfl (by decide +kernel), ip_gw_t (i := 16) (by decide +kernel) (by decide +kernel), by decide +kernel, fun h => absurd h (by decide +kernel), fun h => absurd h (by decide +kernel), fun _ => ⟨ip_gw_t (i := 1254) (by decide +kernel) (by decide +kernel), ip_gw_p (i := 60) (by decide +kernel) (by decide +kernel), ⟨_, _, rfl⟩⟩⟩
set_option maxRecDepth 100000 in
theorem kM_45 : ip_mOK 45 := ⟨ip_gw_t (i := 1267) rfl (by decide +kernel), ip_gw_t (i := 16) (by decide +kernel) (by decide +kernel), by decide +kernel, fun h => absurd h (by decide +kernel), fun h => absurd h (by decide +kernel), fun _ => ⟨ip_gw_t (i := 1266) (by decide +kernel) (by decide +kernel), ip_gw_p (i := 63) (by decide +kernel) (by decide +kernel), ⟨_, _, rfl⟩⟩⟩
set_option maxRecDepth 100000 in
theorem kM_46 : ip_mOK 46 := ⟨ip_gw_t (i := 1283) rfl (by decide +kernel), ip_gw_t (i := 16) (by decide +kernel) (by decide +kernel), by decide +kernel, fun h => absurd h (by decide +kernel), fun h => absurd h (by decide +kernel), fun _ => ⟨ip_gw_t (i := 1282) (by decide +kernel) (by decide +kernel), ip_gw_p (i := 67) (by decide +kernel) (by decide +kernel), ⟨_, _, rfl⟩⟩⟩
set_option maxRecDepth 100000 in
theorem kM_47 : ip_mOK 47 := ⟨ip_gw_t (i := 1037) rfl (by decide +kernel), ip_gw_t (i := 16) (by decide +kernel) (by decide +kernel), by decide +kernel, fun h => absurd h (by decide +kernel), fun h => absurd h (by decide +kernel), fun _ => ⟨ip_gw_t (i := 1036) (by decide +kernel) (by decide +kernel), ip_gw_p (i := 43) (by decide +kernel) (by decide +kernel), ⟨_, _, rfl⟩⟩⟩
set_option maxRecDepth 100000 in
theorem kM_48 : ip_mOK 48 := ⟨ip_gw_t (i := 1287) rfl (by decide +kernel), ip_gw_t (i := 16) (by decide +kernel) (by decide +kernel), by decide +kernel, fun h => absurd h (by decide +kernel), fun h => absurd h (by decide +kernel), fun _ => ⟨ip_gw_t (i := 1286) (by decide +kernel) (by decide +kernel), ip_gw_p (i := 68) (by decide +kernel) (by decide +kernel), ⟨_, _, rfl⟩⟩⟩
set_option maxRecDepth 100000 in
theorem kM_49 : ip_mOK 49 := ⟨ip_gw_t (i := 1291) rfl (by decide +kernel), ip_gw_t (i := 16) (by decide +kernel) (by decide +kernel), by decide +kernel, fun h => absurd h (by decide +kernel), fun h => absurd h (by decide +kernel), fun _ => ⟨ip_gw_t (i := 1290) (by decide +kernel) (by decide +kernel), ip_gw_p (i := 69) (by decide +kernel) (by decide +kernel), ⟨_, _, rfl⟩⟩⟩
set_option maxRecDepth 100000 in
theorem kM_50 : ip_mOK 50 := ⟨ip_gw_t (i := 1295) rfl (by decide +kernel), ip_gw_t (i := 16) (by decide +kernel) (by decide +kernel), by decide +kernel, fun h => absurd h (by decide +kernel), fun h => absurd h (by decide +kernel), fun _ => ⟨ip_gw_t (i := 1294) (by decide +kernel) (by decide +kernel), ip_gw_p (i := 70) (by decide +kernel) (by decide +kernel), ⟨_, _, rfl⟩⟩⟩
set_option maxRecDepth 100000 in
theorem kM_51 : ip_mOK 51 := ⟨ip_gw_t (i := 1299) rfl (by decide +kernel), ip_gw_t (i := 16) (by decide +kernel) (by decide +kernel), by decide +kernel, fun h => absurd h (by decide +kernel), fun h => absurd h (by decide +kernel), fun _ => ⟨ip_gw_t (i := 1298) (by decide +kernel) (by decide +kernel), ip_gw_p (i := 71) (by decide +kernel) (by decide +kernel), ⟨_, _, rfl⟩⟩⟩
set_option maxRecDepth 100000 in
theorem kM_52 : ip_mOK 52 := ⟨ip_gw_t (i := 1224) rfl (by decide +kernel), ip_gw_t (i := 16) (by decide +kernel) (by decide +kernel), by decide +kernel, fun h => absurd h (by decide +kernel), fun h => absurd h (by decide +kernel), fun _ => ⟨ip_gw_t (i := 1223) (by decide +kernel) (by decide +kernel), ip_gw_p (i := 53) (by decide +kernel) (by decide +kernel), ⟨_, _, rfl⟩⟩⟩
set_option maxRecDepth 100000 in
theorem kM_53 : ip_mOK 53 := ⟨ip_gw_t (i := 1021) rfl (by decide +kernel), ip_gw_t (i := 16) (by decide +kernel) (by decide +kernel), by decide +kernel, fun h => absurd h (by decide +kernel), fun h => absurd h (by decide +kernel), fun _ => ⟨ip_gw_t (i := 1020) (by decide +kernel) (by decide +kernel), ip_gw_p (i := 39) (by decide +kernel) (by decide +kernel), ⟨_, _, rfl⟩⟩⟩
set_option maxRecDepth 100000 in
theorem kM_54 : ip_mOK 54 := ⟨ip_gw_t (i := 1195) rfl (by decide +kernel), ip_gw_t (i := 16) (by decide +kernel) (by decide +kernel), by decide +kernel, fun h => absurd h (by decide +kernel), fun h => absurd h (by decide +kernel), fun _ => ⟨ip_gw_t (i := 1193) (by decide +kernel) (by decide +kernel), ip_gw_t (i := 1194) (by decide +kernel) (by decide +kernel), ⟨_, _, rfl⟩⟩⟩
set_option maxRecDepth 100000 in
theorem kM_55 : ip_mOK 55 := ⟨ip_gw_t (i := 1303) rfl (by decide +kernel), ip_gw_t (i := 16) (by decide +kernel) (by decide +kernel), by decide +kernel, fun h => absurd h (by decide +kernel), fun h => absurd h (by decide +kernel), fun _ => ⟨ip_gw_t (i := 1301) (by decide +kernel) (by decide +kernel), ip_gw_t (i := 1302) (by decide +kernel) (by decide +kernel), ⟨_, _, rfl⟩⟩⟩
set_option maxRecDepth 100000 in
theorem kM_56 : ip_mOK 56 := ⟨ip_gw_t (i := 1029) rfl (by decide +kernel), ip_gw_t (i := 16) (by decide +kernel) (by decide +kernel), by decide +kernel, fun h => absurd h (by decide +kernel), fun h => absurd h (by decide +kernel), fun _ => ⟨ip_gw_t (i := 1028) (by decide +kernel) (by decide +kernel), ip_gw_p (i := 41) (by decide +kernel) (by decide +kernel), ⟨_, _, rfl⟩⟩⟩
set_option maxRecDepth 100000 in
theorem kM_57 : ip_mOK 57 := ⟨ip_gw_t (i := 1045) rfl (by decide +kernel), ip_gw_t (i := 16) (by decide +kernel) (by decide +kernel), by decide +kernel, fun h => absurd h (by decide +kernel), fun h => absurd h (by decide +kernel), fun _ => ⟨ip_gw_t (i := 1044) (by decide +kernel) (by decide +kernel), ip_gw_p (i := 45) (by decide +kernel) (by decide +kernel), ⟨_, _, rfl⟩⟩⟩
set_option maxRecDepth 100000 in
theorem kM_58 : ip_mOK 58 := ⟨ip_gw_t (i := 1033) rfl (by decide +kernel), ip_gw_t (i := 16) (by decide +kernel) (by decide +kernel), by decide +kernel, fun h => absurd h (by decide +kernel), fun h => absurd h (by decide +kernel), fun _ => ⟨ip_gw_t (i := 1032) (by decide +kernel) (by decide +kernel), ip_gw_p (i := 42) (by decide +kernel) (by decide +kernel), ⟨_, _, rfl⟩⟩⟩
set_option maxRecDepth 100000 in
theorem kM_59 : ip_mOK 59 := ⟨ip_gw_t (i := 1025) rfl (by decide +kernel), ip_gw_t (i := 16) (by decide +kernel) (by decide +kernel), by decide +kernel, fun h => absurd h (by decide +kernel), fun h => absurd h (by decide +kernel), fun _ => ⟨ip_gw_t (i := 1024) (by decide +kernel) (by decide +kernel), ip_gw_p (i := 40) (by decide +kernel) (by decide +kernel), ⟨_, _, rfl⟩⟩⟩
set_option maxRecDepth 100000 in
theorem kM_60 : ip_mOK 60 := ⟨ip_gw_t (i := 1049) rfl (by decide +kernel), ip_gw_t (i := 16) (by decide +kernel) (by decide +kernel), by decide +kernel, fun h => absurd h (by decide +kernel), fun h => absurd h (by decide +kernel), fun _ => ⟨ip_gw_t (i := 1048) (by decide +kernel) (by decide +kernel), ip_gw_p (i := 46) (by decide +kernel) (by decide +kernel), ⟨_, _, rfl⟩⟩⟩
set_option maxRecDepth 100000 in
theorem kM_61 : ip_mOK 61 := ⟨ip_gw_t (i := 1053) rfl (by decide +kernel), ip_gw_t (i := 16) (by decide +kernel) (by decide +kernel), by decide +kernel, fun h => absurd h (by decide +kernel), fun h => absurd h (by decide +kernel), fun _ => ⟨ip_gw_t (i := 1052) (by decide +kernel) (by decide +kernel), ip_gw_p (i := 47) (by decide +kernel) (by decide +kernel), ⟨_, _, rfl⟩⟩⟩
set_option maxRecDepth 100000 in
theorem kM_62 : ip_mOK 62 := ⟨ip_gw_t (i := 1041) rfl (by decide +kernel), ip_gw_t (i := 16) (by decide +kernel) (by decide +kernel), by decide +kernel, fun h => absurd h (by decide +kernel), fun h => absurd h (by decide +kernel), fun _ => ⟨ip_gw_t (i := 1040) (by decide +kernel) (by decide +kernel), ip_gw_p (i := 44) (by decide +kernel) (by decide +kernel), ⟨_, _, rfl⟩⟩⟩
set_option maxRecDepth 100000 in
theorem kM_63 : ip_mOK 63 := ⟨ip_gw_t (i := 1307) rfl (by decide +kernel), ip_gw_t (i := 16) (by decide +kernel) (by decide +kernel), by decide +kernel, fun h => absurd h (by decide +kernel), fun h => absurd h (by decide +kernel), fun _ => ⟨ip_gw_t (i := 1305) (by decide +kernel) (by decide +kernel), ip_gw_t (i := 1306) (by decide +kernel) (by decide +kernel), ⟨_, _, rfl⟩⟩⟩
set_option maxRecDepth 100000 in
theorem kM_64 : ip_mOK 64 := ⟨ip_gw_t (i := 1311) rfl (by decide +kernel), ip_gw_t (i := 16) (by decide +kernel) (by decide +kernel), by decide +kernel, fun h => absurd h (by decide +kernel), fun h => absurd h (by decide +kernel), fun _ => ⟨ip_gw_t (i := 1309) (by decide +kernel) (by decide +kernel), ip_gw_t (i := 1310) (by decide +kernel) (by decide +kernel), ⟨_, _, rfl⟩⟩⟩
set_option maxRecDepth 100000 in
theorem kM_65 : ip_mOK 65 := ⟨ip_gw_t (i := 1315) rfl (by decide +kernel), ip_gw_t (i := 16) (by decide +kernel) (by decide +kernel), by decide +kernel, fun h => absurd h (by decide +kernel), fun h => absurd h (by decide +kernel), fun _ => ⟨ip_gw_t (i := 1313) (by decide +kernel) (by decide +kernel), ip_gw_t (i := 1314) (by decide +kernel) (by decide +kernel), ⟨_, _, rfl⟩⟩⟩
set_option maxRecDepth 100000 in
theorem kM_66 : ip_mOK 66 := ⟨ip_gw_t (i := 1319) rfl (by decide +kernel), ip_gw_t (i := 16) (by decide +kernel) (by decide +kernel), by decide +kernel, fun h => absurd h (by decide +kernel), fun h => absurd h (by decide +kernel), fun _ => ⟨ip_gw_t (i := 1317) (by decide +kernel) (by decide +kernel), ip_gw_t (i := 1318) (by decide +kernel) (by decide +kernel), ⟨_, _, rfl⟩⟩⟩
set_option maxRecDepth 100000 in
theorem kM_67 : ip_mOK 67 := ⟨ip_gw_t (i := 1323) rfl (by decide +kernel), ip_gw_t (i := 16) (by decide +kernel) (by decide +kernel), by decide +kernel, fun h => absurd h (by decide +kernel), fun h => absurd h (by decide +kernel), fun _ => ⟨ip_gw_t (i := 1321) (by decide +kernel) (by decide +kernel), ip_gw_t (i := 1322) (by decide +kernel) (by decide +kernel), ⟨_, _, rfl⟩⟩⟩
set_option maxRecDepth 100000 in
theorem kM_68 : ip_mOK 68 := ⟨ip_gw_t (i := 1327) rfl (by decide +kernel), ip_gw_t (i := 16) (by decide +kernel) (by decide +kernel), by decide +kernel, fun h => absurd h (by decide +kernel), fun h => absurd h (by decide +kernel), fun _ => ⟨ip_gw_t (i := 1325) (by decide +kernel) (by decide +kernel), ip_gw_t (i := 1326) (by decide +kernel) (by decide +kernel), ⟨_, _, rfl⟩⟩⟩
set_option maxRecDepth 100000 in
theorem kM_69 : ip_mOK 69 := ⟨ip_gw_t (i := 1331) rfl (by decide +kernel), ip_gw_t (i := 16) (by decide +kernel) (by decide +kernel), by decide +kernel, fun h => absurd h (by decide +kernel), fun h => absurd h (by decide +kernel), fun _ => ⟨ip_gw_t (i := 1329) (by decide +kernel) (by decide +kernel), ip_gw_t (i := 1330) (by decide +kernel) (by decide +kernel), ⟨_, _, rfl⟩⟩⟩
set_option maxRecDepth 100000 in
theorem kM_70 : ip_mOK 70 := ⟨ip_gw_t (i := 1335) rfl (by decide +kernel), ip_gw_t (i := 16) (by decide +kernel) (by decide +kernel), by decide +kernel, fun h => absurd h (by decide +kernel), fun h => absurd h (by decide +kernel), fun _ => ⟨ip_gw_t (i := 1333) (by decide +kernel) (by decide +kernel), ip_gw_t (i := 1334) (by decide +kernel) (by decide +kernel), ⟨_, _, rfl⟩⟩⟩
set_option maxRecDepth 100000 in
theorem kM_71 : ip_mOK 71 := ⟨ip_gw_t (i := 1351) rfl (by decide +kernel), ip_gw_t (i := 16) (by decide +kernel) (by decide +kernel), by decide +kernel, fun h => absurd h (by decide +kernel), fun h => absurd h (by decide +kernel), fun _ => ⟨ip_gw_t (i := 1350) (by decide +kernel) (by decide +kernel), ip_gw_p (i := 74) (by decide +kernel) (by decide +kernel), ⟨_, _, rfl⟩⟩⟩
set_option maxRecDepth 100000 in
theorem kM_72 : ip_mOK 72 := ⟨ip_gw_t (i := 1347) rfl (by decide +kernel), ip_gw_t (i := 16) (by decide +kernel) (by decide +kernel), by decide +kernel, fun h => absurd h (by decide +kernel), fun h => absurd h (by decide +kernel), fun _ => ⟨ip_gw_t (i := 1346) (by decide +kernel) (by decide +kernel), ip_gw_p (i := 73) (by decide +kernel) (by decide +kernel), ⟨_, _, rfl⟩⟩⟩
set_option maxRecDepth 100000 in
theorem kM_73 : ip_mOK 73 := ⟨ip_gw_t (i := 1359) rfl (by decide +kernel), ip_gw_t (i := 16) (by decide +kernel) (by decide +kernel), by decide +kernel, fun h => absurd h (by decide +kernel), fun h => absurd h (by decide +kernel), fun _ => ⟨ip_gw_t (i := 1358) (by decide +kernel) (by decide +kernel), ip_gw_p (i := 76) (by decide +kernel) (by decide +kernel), ⟨_, _, rfl⟩⟩⟩
set_option maxRecDepth 100000 in
theorem kM_74 : ip_mOK 74 := ⟨ip_gw_t (i := 1375) rfl (by decide +kernel), ip_gw_t (i := 16) (by decide +kernel) (by decide +kernel), by decide +kernel, fun h => absurd h (by decide +kernel), fun h => absurd h (by decide +kernel), fun _ => ⟨ip_gw_t (i := 1374) (by decide +kernel) (by decide +kernel), ip_gw_p (i := 80) (by decide +kernel) (by decide +kernel), ⟨_, _, rfl⟩⟩⟩
set_option maxRecDepth 100000 in
theorem kM_75 : ip_mOK 75 := ⟨ip_gw_t (i := 1355) rfl (by decide +kernel), ip_gw_t (i := 16) (by decide +kernel) (by decide +kernel), by decide +kernel, fun h => absurd h (by decide +kernel), fun h => absurd h (by decide +kernel), fun _ => ⟨ip_gw_t (i := 1354) (by decide +kernel) (by decide +kernel), ip_gw_p (i := 75) (by decide +kernel) (by decide +kernel), ⟨_, _, rfl⟩⟩⟩
set_option maxRecDepth 100000 in
theorem kM_76 : ip_mOK 76 := ⟨ip_gw_t (i := 1379) rfl (by decide +kernel), ip_gw_t (i := 16) (by decide +kernel) (by decide +kernel), by decide +kernel, fun h => absurd h (by decide +kernel), fun h => absurd h (by decide +kernel), fun _ => ⟨ip_gw_t (i := 1378) (by decide +kernel) (by decide +kernel), ip_gw_p (i := 81) (by decide +kernel) (by decide +kernel), ⟨_, _, rfl⟩⟩⟩
set_option maxRecDepth 100000 in
theorem kM_77 : ip_mOK 77 := ⟨ip_gw_t (i := 1363) rfl (by decide +kernel), ip_gw_t (i := 16) (by decide +kernel) (by decide +kernel), by decide +kernel, fun h => absurd h (by decide +kernel), fun h => absurd h (by decide +kernel), fun _ => ⟨ip_gw_t (i := 1362) (by decide +kernel) (by decide +kernel), ip_gw_p (i := 77) (by decide +kernel) (by decide +kernel), ⟨_, _, rfl⟩⟩⟩
set_option maxRecDepth 100000 in
theorem kM_78 : ip_mOK 78 := ⟨ip_gw_t (i := 1343) rfl (by decide +kernel), ip_gw_t (i := 16) (by decide +kernel) (by decide +kernel), by decide +kernel, fun h => absurd h (by decide +kernel), fun h => absurd h (by decide +kernel), fun _ => ⟨ip_gw_t (i := 1342) (by decide +kernel) (by decide +kernel), ip_gw_p (i := 72) (by decide +kernel) (by decide +kernel), ⟨_, _, rfl⟩⟩⟩
set_option maxRecDepth 100000 in
theorem kM_79 : ip_mOK 79 := ⟨ip_gw_t (i := 1367) rfl (by decide +kernel), ip_gw_t (i := 16) (by decide +kernel) (by decide +kernel), by decide +kernel, fun h => absurd h (by decide +kernel), fun h => absurd h (by decide +kernel), fun _ => ⟨ip_gw_t (i := 1366) (by decide +kernel) (by decide +kernel), ip_gw_p (i := 78) (by decide +kernel) (by decide +kernel), ⟨_, _, rfl⟩⟩⟩
set_option maxRecDepth 100000 in
theorem kM_80 : ip_mOK 80 := ⟨ip_gw_t (i := 1371) rfl (by decide +kernel), ip_gw_t (i := 16) (by decide +kernel) (by decide +kernel), by decide +kernel, fun h => absurd h (by decide +kernel), fun h => absurd h (by decide +kernel), fun _ => ⟨ip_gw_t (i := 1370) (by decide +kernel) (by decide +kernel), ip_gw_p (i := 79) (by decide +kernel) (by decide +kernel), ⟨_, _, rfl⟩⟩⟩
set_option maxRecDepth 100000 in
theorem kM_81 : ip_mOK 81 := ⟨ip_gw_t (i := 1383) rfl (by decide +kernel), ip_gw_t (i := 16) (by decide +kernel) (by decide +kernel), by decide +kernel, fun h => absurd h (by decide +kernel), fun h => absurd h (by decide +kernel), fun _ => ⟨ip_gw_t (i := 1382) (by decide +kernel) (by decide +kernel), ip_gw_p (i := 82) (by decide +kernel) (by decide +kernel), ⟨_, _, rfl⟩⟩⟩
set_option maxRecDepth 100000 in
theorem kM_82 : ip_mOK 82 := ⟨ip_gw_t (i := 1387) rfl (by decide +kernel), ip_gw_t (i := 16) (by decide +kernel) (by decide +kernel), by decide +kernel, fun h => absurd h (by decide +kernel), fun h => absurd h (by decide +kernel), fun _ => ⟨ip_gw_t (i := 1386) (by decide +kernel) (by decide +kernel), ip_gw_p (i := 83) (by decide +kernel) (by decide +kernel), ⟨_, _, rfl⟩⟩⟩
set_option maxRecDepth 100000 in
theorem kM_83 : ip_mOK 83 := ⟨ip_gw_t (i := 1339) rfl (by decide +kernel), ip_gw_t (i := 16) (by decide +kernel) (by decide +kernel), by decide +kernel, fun h => absurd h (by decide +kernel), fun h => absurd h (by decide +kernel), fun _ => ⟨ip_gw_t (i := 1337) (by decide +kernel) (by decide +kernel), ip_gw_t (i := 1338) (by decide +kernel) (by decide +kernel), ⟨_, _, rfl⟩⟩⟩
set_option maxRecDepth 100000 in
theorem kM_84 : ip_mOK 84 := ⟨ip_gw_t (i := 1391) rfl (by decide +kernel), ip_gw_t (i := 16) (by decide +kernel) (by decide +kernel), by decide +kernel, fun h => absurd h (by decide +kernel), fun h => absurd h (by decide +kernel), fun _ => ⟨ip_gw_t (i := 1389) (by decide +kernel) (by decide +kernel), ip_gw_t (i := 1390) (by decide +kernel) (by decide +kernel), ⟨_, _, rfl⟩⟩⟩
set_option maxRecDepth 100000 in
theorem kM_85 : ip_mOK 85 := ⟨ip_gw_t (i := 1395) rfl (by decide +kernel), ip_gw_t (i := 16) (by decide +kernel) (by decide +kernel), by decide +kernel, fun h => absurd h (by decide +kernel), fun h => absurd h (by decide +kernel), fun _ => ⟨ip_gw_t (i := 1393) (by decide +kernel) (by decide +kernel), ip_gw_t (i := 1394) (by decide +kernel) (by decide +kernel), ⟨_, _, rfl⟩⟩⟩
set_option maxRecDepth 100000 in
theorem kM_86 : ip_mOK 86 := ⟨ip_gw_t (i := 1399) rfl (by decide +kernel), ip_gw_t (i := 16) (by decide +kernel) (by decide +kernel), by decide +kernel, fun h => absurd h (by decide +kernel), fun h => absurd h (by decide +kernel), fun _ => ⟨ip_gw_t (i := 1397) (by decide +kernel) (by decide +kernel), ip_gw_t (i := 1398) (by decide +kernel) (by decide +kernel), ⟨_, _, rfl⟩⟩⟩
set_option maxRecDepth 100000 in
theorem kM_87 : ip_mOK 87 := ⟨ip_gw_t (i := 36) rfl (by decide +kernel), ip_gw_t (i := 2) (by decide +kernel) (by decide +kernel), by decide +kernel, fun h => absurd h (by decide +kernel), fun _ => ⟨⟨by decide +kernel, by decide +kernel⟩, ip_gw_t (i := 35) (by decide +kernel) (by decide +kernel)⟩, fun h => absurd h (by decide +kernel)⟩
set_option maxRecDepth 100000 in
theorem kM_88 : ip_mOK 88 := ⟨ip_gw_t (i := 550) rfl (by decide +kernel), ip_gw_t (i := 2) (by decide +kernel) (by decide +kernel), by decide +kernel, fun h => absurd h (by decide +kernel), fun h => absurd h (by decide +kernel), fun _ => ⟨ip_gw_t (i := 548) (by decide +kernel) (by decide +kernel), ip_gw_t (i := 549) (by decide +kernel) (by decide +kernel), ⟨_, _, rfl⟩⟩⟩
set_option maxRecDepth 100000 in
theorem kM_89 : ip_mOK 89 := ⟨ip_gw_t (i := 713) rfl (by decide +kernel), ip_gw_t (i := 2) (by decide +kernel) (by decide +kernel), by decide +kernel, fun h => absurd h (by decide +kernel), fun h => absurd h (by decide +kernel), fun _ => ⟨ip_gw_t (i := 711) (by decide +kernel) (by decide +kernel), ip_gw_t (i := 712) (by decide +kernel) (by decide +kernel), ⟨_, _, rfl⟩⟩⟩
set_option maxRecDepth 100000 in
theorem kM_90 : ip_mOK 90 := ⟨ip_gw_t (i := 458) rfl (by decide +kernel), ip_gw_t (i := 2) (by decide +kernel) (by decide +kernel), by decide +kernel, fun h => absurd h (by decide +kernel), fun h => absurd h (by decide +kernel), fun _ => ⟨ip_gw_t (i := 456) (by decide +kernel) (by decide +kernel), ip_gw_t (i := 457) (by decide +kernel) (by decide +kernel), ⟨_, _, rfl⟩⟩⟩
set_option maxRecDepth 100000 in
theorem kM_91 : ip_mOK 91 := ⟨ip_gw_t (i := 475) rfl (by decide +kernel), ip_gw_t (i := 2) (by decide +kernel) (by decide +kernel), by decide +kernel, fun h => absurd h (by decide +kernel), fun h => absurd h (by decide +kernel), fun _ => ⟨ip_gw_t (i := 473) (by decide +kernel) (by decide +kernel), ip_gw_t (i := 474) (by decide +kernel) (by decide +kernel), ⟨_, _, rfl⟩⟩⟩
set_option maxRecDepth 100000 in
theorem kM_92 : ip_mOK 92 := ⟨ip_gw_t (i := 650) rfl (by decide +kernel), ip_gw_t (i := 2) (by decide +kernel) (by decide +kernel), by decide +kernel, fun h => absurd h (by decide +kernel), fun h => absurd h (by decide +kernel), fun _ => ⟨ip_gw_t (i := 648) (by decide +kernel) (by decide +kernel), ip_gw_t (i := 649) (by decide +kernel) (by decide +kernel), ⟨_, _, rfl⟩⟩⟩
set_option maxRecDepth 100000 in
theorem kM_93 : ip_mOK 93 := ⟨ip_gw_t (i := 469) rfl (by decide +kernel), ip_gw_t (i := 2) (by decide +kernel) (by decide +kernel), by decide +kernel, fun h => absurd h (by decide +kernel), fun h => absurd h (by decide +kernel), fun _ => ⟨ip_gw_t (i := 467) (by decide +kernel) (by decide +kernel), ip_gw_t (i := 468) (by decide +kernel) (by decide +kernel), ⟨_, _, rfl⟩⟩⟩
set_option maxRecDepth 100000 in
theorem kM_94 : ip_mOK 94 := ⟨ip_gw_t (i := 679) rfl (by decide +kernel), ip_gw_t (i := 2) (by decide +kernel) (by decide +kernel), by decide +kernel, fun h => absurd h (by decide +kernel), fun h => absurd h (by decide +kernel), fun _ => ⟨ip_gw_t (i := 677) (by decide +kernel) (by decide +kernel), ip_gw_t (i := 678) (by decide +kernel) (by decide +kernel), ⟨_, _, rfl⟩⟩⟩
set_option maxRecDepth 100000 in
theorem kM_95 : ip_mOK 95 := ⟨ip_gw_t (i := 558) rfl (by decide +kernel), ip_gw_t (i := 2) (by decide +kernel) (by decide +kernel), by decide +kernel, fun h => absurd h (by decide +kernel), fun h => absurd h (by decide +kernel), fun _ => ⟨ip_gw_t (i := 556) (by decide +kernel) (by decide +kernel), ip_gw_t (i := 557) (by decide +kernel) (by decide +kernel), ⟨_, _, rfl⟩⟩⟩
set_option maxRecDepth 100000 in
theorem kM_96 : ip_mOK 96 := ⟨ip_gw_t (i := 366) rfl (by decide +kernel), ip_gw_t (i := 15) (by decide +kernel) (by decide +kernel), by decide +kernel, fun _ => ip_gw_t (i := 365) (by decide +kernel) (by decide +kernel), fun h => absurd h (by decide +kernel), fun h => absurd h (by decide +kernel)⟩
set_option maxRecDepth 100000 in
theorem kM_97 : ip_mOK 97 := ⟨ip_gw_t (i := 373) rfl (by decide +kernel), ip_gw_t (i := 15) (by decide +kernel) (by decide +kernel), by decide +kernel, fun _ => ip_gw_t (i := 372) (by decide +kernel) (by decide +kernel), fun h => absurd h (by decide +kernel), fun h => absurd h (by decide +kernel)⟩
set_option maxRecDepth 100000 in
theorem kM_98 : ip_mOK 98 := ⟨ip_gw_t (i := 392) rfl (by decide +kernel), ip_gw_t (i := 15) (by decide +kernel) (by decide +kernel), by decide +kernel, fun _ => ip_gw_t (i := 391) (by decide +kernel) (by decide +kernel), fun h => absurd h (by decide +kernel), fun h => absurd h (by decide +kernel)⟩
set_option maxRecDepth 100000 in
theorem kM_99 : ip_mOK 99 := ⟨ip_gw_t (i := 405) rfl (by decide +kernel), ip_gw_t (i := 15) (by decide +kernel) (by decide +kernel), by decide +kernel, fun _ => ip_gw_t (i := 404) (by decide +kernel) (by decide +kernel), fun h => absurd h (by decide +kernel), fun h => absurd h (by decide +kernel)⟩
set_option maxRecDepth 100000 in
theorem kM_100 : ip_mOK 100 := ⟨ip_gw_t (i := 408) rfl (by decide +kernel), ip_gw_t (i := 15) (by decide +kernel) (by decide +kernel), by decide +kernel, fun _ => ip_gw_t (i := 407) (by decide +kernel) (by decide +kernel), fun h => absurd h (by decide +kernel), fun h => absurd h (by decide +kernel)⟩
set_option maxRecDepth 100000 in
theorem kM_101 : ip_mOK 101 := ⟨ip_gw_t (i := 891) rfl (by decide +kernel), ip_gw_t (i := 15) (by decide +kernel) (by decide +kernel), by decide +kernel, fun _ => ip_gw_t (i := 890) (by decide +kernel) (by decide +kernel), fun h => absurd h (by decide +kernel), fun h => absurd h (by decide +kernel)⟩
set_option maxRecDepth 100000 in
theorem kM_102 : ip_mOK 102 := ⟨ip_gw_t (i := 50) rfl (by decide +kernel), ip_gw_t (i := 3) (by decide +kernel) (by decide +kernel), by decide +kernel, fun h => absurd h (by decide +kernel), fun _ => ⟨⟨by decide +kernel, by decide +kernel⟩, ip_gw_t (i := 49) (by decide +kernel) (by decide +kernel)⟩, fun h => absurd h (by decide +kernel)⟩
set_option maxRecDepth 100000 in
theorem kM_103 : ip_mOK 103 := ⟨ip_gw_t (i := 694) rfl (by decide +kernel), ip_gw_t (i := 3) (by decide +kernel) (by decide +kernel), by decide +kernel, fun h => absurd h (by decide +kernel), fun h => absurd h (by decide +kernel), fun _ => ⟨ip_gw_t (i := 692) (by decide +kernel) (by decide +kernel), ip_gw_t (i := 693) (by decide +kernel) (by decide +kernel), ⟨_, _, rfl⟩⟩⟩
set_option maxRecDepth 100000 in
theorem kM_104 : ip_mOK 104 := ⟨ip_gw_t (i := 571) rfl (by decide +kernel), ip_gw_t (i := 3) (by decide +kernel) (by decide +kernel), by decide +kernel, fun h => absurd h (by decide +kernel), fun h => absurd h (by decide +kernel), fun _ => ⟨ip_gw_t (i := 569) (by decide +kernel) (by decide +kernel), ip_gw_t (i := 570) (by decide +kernel) (by decide +kernel), ⟨_, _, rfl⟩⟩⟩
set_option maxRecDepth 100000 in
theorem kM_105 : ip_mOK 105 := ⟨ip_gw_t (i := 784) rfl (by decide +kernel), ip_gw_t (i := 3) (by decide +kernel) (by decide +kernel), by decide +kernel, fun h => absurd h (by decide +kernel), fun h => absurd h (by decide +kernel), fun _ => ⟨ip_gw_t (i := 782) (by decide +kernel) (by decide +kernel), ip_gw_t (i := 783) (by decide +kernel) (by decide +kernel), ⟨_, _, rfl⟩⟩⟩
set_option maxRecDepth 100000 in
theorem kM_106 : ip_mOK 106 := ⟨ip_gw_t (i := 764) rfl (by decide +kernel), ip_gw_t (i := 3) (by decide +kernel) (by decide +kernel), by decide +kernel, fun h => absurd h (by decide +kernel), fun h => absurd h (by decide +kernel), fun _ => ⟨ip_gw_t (i := 762) (by decide +kernel) (by decide +kernel), ip_gw_t (i := 763) (by decide +kernel) (by decide +kernel), ⟨_, _, rfl⟩⟩⟩
set_option maxRecDepth 100000 in
theorem kM_107 : ip_mOK 107 := ⟨ip_gw_t (i := 515) rfl (by decide +kernel), ip_gw_t (i := 3) (by decide +kernel) (by decide +kernel), by decide +kernel, fun h => absurd h (by decide +kernel), fun h => absurd h (by decide +kernel), fun _ => ⟨ip_gw_t (i := 513) (by decide +kernel) (by decide +kernel), ip_gw_t (i := 514) (by decide +kernel) (by decide +kernel), ⟨_, _, rfl⟩⟩⟩
set_option maxRecDepth 100000 in
theorem kM_108 : ip_mOK 108 := ⟨ip_gw_t (i := 412) rfl (by decide +kernel), ip_gw_t (i := 3) (by decide +kernel) (by decide +kernel), by decide +kernel, fun h => absurd h (by decide +kernel), fun h => absurd h (by decide +kernel), fun _ => ⟨ip_gw_t (i := 410) (by decide +kernel) (by decide +kernel), ip_gw_t (i := 411) (by decide +kernel) (by decide +kernel), ⟨_, _, rfl⟩⟩⟩
set_option maxRecDepth 100000 in
theorem kM_109 : ip_mOK 109 := ⟨ip_gw_t (i := 503) rfl (by decide +kernel), ip_gw_t (i := 3) (by decide +kernel) (by decide +kernel), by decide +kernel, fun h => absurd h (by decide +kernel), fun h => absurd h (by decide +kernel), fun _ => ⟨ip_gw_t (i := 501) (by decide +kernel) (by decide +kernel), ip_gw_t (i := 502) (by decide +kernel) (by decide +kernel), ⟨_, _, rfl⟩⟩⟩
set_option maxRecDepth 100000 in
theorem kM_110 : ip_mOK 110 := ⟨ip_gw_t (i := 528) rfl (by decide +kernel), ip_gw_t (i := 3) (by decide +kernel) (by decide +kernel), by decide +kernel, fun h => absurd h (by decide +kernel), fun h => absurd h (by decide +kernel), fun _ => ⟨ip_gw_t (i := 526) (by decide +kernel) (by decide +kernel), ip_gw_t (i := 527) (by decide +kernel) (by decide +kernel), ⟨_, _, rfl⟩⟩⟩
set_option maxRecDepth 100000 in
theorem kM_111 : ip_mOK 111 := ⟨ip_gw_t (i := 847) rfl (by decide +kernel), ip_gw_t (i := 3) (by decide +kernel) (by decide +kernel), by decide +kernel, fun h => absurd h (by decide +kernel), fun h => absurd h (by decide +kernel), fun _ => ⟨ip_gw_t (i := 845) (by decide +kernel) (by decide +kernel), ip_gw_t (i := 846) (by decide +kernel) (by decide +kernel), ⟨_, _, rfl⟩⟩⟩
set_option maxRecDepth 100000 in
theorem kM_112 : ip_mOK 112 := ⟨ip_gw_t (i := 852) rfl (by decide +kernel), ip_gw_t (i := 3) (by decide +kernel) (by decide +kernel), by decide +kernel, fun h => absurd h (by decide +kernel), fun h => absurd h (by decide +kernel), fun _ => ⟨ip_gw_t (i := 850) (by decide +kernel) (by decide +kernel), ip_gw_t (i := 851) (by decide +kernel) (by decide +kernel), ⟨_, _, rfl⟩⟩⟩
set_option maxRecDepth 100000 in
theorem kM_113 : ip_mOK 113 := ⟨ip_gw_t (i := 416) rfl (by decide +kernel), ip_gw_t (i := 3) (by decide +kernel) (by decide +kernel), by decide +kernel, fun h => absurd h (by decide +kernel), fun h => absurd h (by decide +kernel), fun _ => ⟨ip_gw_t (i := 414) (by decide +kernel) (by decide +kernel), ip_gw_t (i := 415) (by decide +kernel) (by decide +kernel), ⟨_, _, rfl⟩⟩⟩
set_option maxRecDepth 100000 in
theorem kM_114 : ip_mOK 114 := ⟨ip_gw_t (i := 401) rfl (by decide +kernel), ip_gw_t (i := 3) (by decide +kernel) (by decide +kernel), by decide +kernel, fun h => absurd h (by decide +kernel), fun h => absurd h (by decide +kernel), fun _ => ⟨ip_gw_t (i := 399) (by decide +kernel) (by decide +kernel), ip_gw_t (i := 400) (by decide +kernel) (by decide +kernel), ⟨_, _, rfl⟩⟩⟩
set_option maxRecDepth 100000 in
theorem kM_115 : ip_mOK 115 := ⟨ip_gw_t (i := 879) rfl (by decide +kernel), ip_gw_t (i := 3) (by decide +kernel) (by decide +kernel), by decide +kernel, fun h => absurd h (by decide +kernel), fun h => absurd h (by decide +kernel), fun _ => ⟨ip_gw_t (i := 877) (by decide +kernel) (by decide +kernel), ip_gw_t (i := 878) (by decide +kernel) (by decide +kernel), ⟨_, _, rfl⟩⟩⟩
set_option maxRecDepth 100000 in
theorem kM_116 : ip_mOK 116 := ⟨ip_gw_t (i := 396) rfl (by decide +kernel), ip_gw_t (i := 3) (by decide +kernel) (by decide +kernel), by decide +kernel, fun h => absurd h (by decide +kernel), fun h => absurd h (by decide +kernel), fun _ => ⟨ip_gw_t (i := 394) (by decide +kernel) (by decide +kernel), ip_gw_t (i := 395) (by decide +kernel) (by decide +kernel), ⟨_, _, rfl⟩⟩⟩
set_option maxRecDepth 100000 in
theorem kM_117 : ip_mOK 117 := ⟨ip_gw_t (i := 896) rfl (by decide +kernel), ip_gw_t (i := 3) (by decide +kernel) (by decide +kernel), by decide +kernel, fun h => absurd h (by decide +kernel), fun h => absurd h (by decide +kernel), fun _ => ⟨ip_gw_t (i := 894) (by decide +kernel) (by decide +kernel), ip_gw_t (i := 895) (by decide +kernel) (by decide +kernel), ⟨_, _, rfl⟩⟩⟩
set_option maxRecDepth 100000 in
theorem kM_118 : ip_mOK 118 := ⟨ip_gw_t (i := 900) rfl (by decide +kernel), ip_gw_t (i := 3) (by decide +kernel) (by decide +kernel), by decide +kernel, fun h => absurd h (by decide +kernel), fun h => absurd h (by decide +kernel), fun _ => ⟨ip_gw_t (i := 898) (by decide +kernel) (by decide +kernel), ip_gw_t (i := 899) (by decide +kernel) (by decide +kernel), ⟨_, _, rfl⟩⟩⟩
set_option maxRecDepth 100000 in
theorem kM_119 : ip_mOK 119 := ⟨ip_gw_t (i := 350) rfl (by decide +kernel), ip_gw_t (i := 14) (by decide +kernel) (by decide +kernel), by decide +kernel, fun h => absurd h (by decide +kernel), fun _ => ⟨⟨by decide +kernel, by decide +kernel⟩, ip_gw_t (i := 349) (by decide +kernel) (by decide +kernel)⟩, fun h => absurd h (by decide +kernel)⟩
set_option maxRecDepth 100000 in
theorem kM_120 : ip_mOK 120 := ⟨ip_gw_t (i := 446) rfl (by decide +kernel), ip_gw_t (i := 14) (by decide +kernel) (by decide +kernel), by decide +kernel, fun h => absurd h (by decide +kernel), fun h => absurd h (by decide +kernel), fun _ => ⟨ip_gw_t (i := 444) (by decide +kernel) (by decide +kernel), ip_gw_t (i := 445) (by decide +kernel) (by decide +kernel), ⟨_, _, rfl⟩⟩⟩
set_option maxRecDepth 100000 in
theorem kM_121 : ip_mOK 121 := ⟨ip_gw_t (i := 370) rfl (by decide +kernel), ip_gw_t (i := 14) (by decide +kernel) (by decide +kernel), by decide +kernel, fun h => absurd h (by decide +kernel), fun h => absurd h (by decide +kernel), fun _ => ⟨ip_gw_t (i := 368) (by decide +kernel) (by decide +kernel), ip_gw_t (i := 369) (by decide +kernel) (by decide +kernel), ⟨_, _, rfl⟩⟩⟩
set_option maxRecDepth 100000 in
theorem kM_122 : ip_mOK 122 := ⟨ip_gw_t (i := 381) rfl (by decide +kernel), ip_gw_t (i := 14) (by decide +kernel) (by decide +kernel), by decide +kernel, fun h => absurd h (by decide +kernel), fun h => absurd h (by decide +kernel), fun _ => ⟨ip_gw_t (i := 379) (by decide +kernel) (by decide +kernel), ip_gw_t (i := 380) (by decide +kernel) (by decide +kernel), ⟨_, _, rfl⟩⟩⟩
set_option maxRecDepth 100000 in
theorem kM_123 : ip_mOK 123 := ⟨ip_gw_t (i := 991) rfl (by decide +kernel), ip_gw_t (i := 14) (by decide +kernel) (by decide +kernel), by decide +kernel, fun h => absurd h (by decide +kernel), fun h => absurd h (by decide +kernel), fun _ => ⟨ip_gw_t (i := 989) (by decide +kernel) (by decide +kernel), ip_gw_t (i := 990) (by decide +kernel) (by decide +kernel), ⟨_, _, rfl⟩⟩⟩
set_option maxRecDepth 100000 in
theorem kM_124 : ip_mOK 124 := ⟨ip_gw_t (i := 996) rfl (by decide +kernel), ip_gw_t (i := 14) (by decide +kernel) (by decide +kernel), by decide +kernel, fun h => absurd h (by decide +kernel), fun h => absurd h (by decide +kernel), fun _ => ⟨ip_gw_t (i := 994) (by decide +kernel) (by decide +kernel), ip_gw_t (i := 995) (by decide +kernel) (by decide +kernel), ⟨_, _, rfl⟩⟩⟩
set_option maxRecDepth 100000 in
theorem kM_125 : ip_mOK 125 := ⟨ip_gw_t (i := 178) rfl (by decide +kernel), ip_gw_t (i := 7) (by decide +kernel) (by decide +kernel), by decide +kernel, fun h => absurd h (by decide +kernel), fun _ => ⟨⟨by decide +kernel, by decide +kernel⟩, ip_gw_t (i := 177) (by decide +kernel) (by decide +kernel)⟩, fun h => absurd h (by decide +kernel)⟩
set_option maxRecDepth 100000 in
theorem kM_126 : ip_mOK 126 := ⟨ip_gw_t (i := 277) rfl (by decide +kernel), ip_gw_t (i := 7) (by decide +kernel) (by decide +kernel), by decide +kernel, fun h => absurd h (by decide +kernel), fun h => absurd h (by decide +kernel), fun _ => ⟨ip_gw_t (i := 275) (by decide +kernel) (by decide +kernel), ip_gw_t (i := 276) (by decide +kernel) (by decide +kernel), ⟨_, _, rfl⟩⟩⟩
set_option maxRecDepth 100000 in
theorem kM_127 : ip_mOK 127 := ⟨ip_gw_t (i := 740) rfl (by decide +kernel), ip_gw_t (i := 7) (by decide +kernel) (by decide +kernel), by decide +kernel, fun h => absurd h (by decide +kernel), fun h => absurd h (by decide +kernel), fun _ => ⟨ip_gw_t (i := 738) (by decide +kernel) (by decide +kernel), ip_gw_t (i := 739) (by decide +kernel) (by decide +kernel), ⟨_, _, rfl⟩⟩⟩
set_option maxRecDepth 100000 in
theorem kM_128 : ip_mOK 128 := ⟨ip_gw_t (i := 887) rfl (by decide +kernel), ip_gw_t (i := 7) (by decide +kernel) (by decide +kernel), by decide +kernel, fun h => absurd h (by decide +kernel), fun h => absurd h (by decide +kernel), fun _ => ⟨ip_gw_t (i := 885) (by decide +kernel) (by decide +kernel), ip_gw_t (i := 886) (by decide +kernel) (by decide +kernel), ⟨_, _, rfl⟩⟩⟩
set_option maxRecDepth 100000 in
theorem kM_129 : ip_mOK 129 := ⟨ip_gw_t (i := 760) rfl (by decide +kernel), ip_gw_t (i := 7) (by decide +kernel) (by decide +kernel), by decide +kernel, fun h => absurd h (by decide +kernel), fun h => absurd h (by decide +kernel), fun _ => ⟨ip_gw_t (i := 758) (by decide +kernel) (by decide +kernel), ip_gw_t (i := 759) (by decide +kernel) (by decide +kernel), ⟨_, _, rfl⟩⟩⟩
set_option maxRecDepth 100000 in
theorem kM_130 : ip_mOK 130 := ⟨ip_gw_t (i := 823) rfl (by decide +kernel), ip_gw_t (i := 7) (by decide +kernel) (by decide +kernel), by decide +kernel, fun h => absurd h (by decide +kernel), fun h => absurd h (by decide +kernel), fun _ => ⟨ip_gw_t (i := 821) (by decide +kernel) (by decide +kernel), ip_gw_t (i := 822) (by decide +kernel) (by decide +kernel), ⟨_, _, rfl⟩⟩⟩
set_option maxRecDepth 100000 in
theorem kM_131 : ip_mOK 131 := ⟨ip_gw_t (i := 704) rfl (by decide +kernel), ip_gw_t (i := 7) (by decide +kernel) (by decide +kernel), by decide +kernel, fun h => absurd h (by decide +kernel), fun h => absurd h (by decide +kernel), fun _ => ⟨ip_gw_t (i := 702) (by decide +kernel) (by decide +kernel), ip_gw_t (i := 703) (by decide +kernel) (by decide +kernel), ⟨_, _, rfl⟩⟩⟩
set_option maxRecDepth 100000 in
theorem kM_132 : ip_mOK 132 := ⟨ip_gw_t (i := 708) rfl (by decide +kernel), ip_gw_t (i := 7) (by decide +kernel) (by decide +kernel), by decide +kernel, fun h => absurd h (by decide +kernel), fun h => absurd h (by decide +kernel), fun _ => ⟨ip_gw_t (i := 707) (by decide +kernel) (by decide +kernel), ip_gw_p (i := 11) (by decide +kernel) (by decide +kernel), ⟨_, _, rfl⟩⟩⟩
set_option maxRecDepth 100000 in
theorem kM_133 : ip_mOK 133 := ⟨ip_gw_t (i := 716) rfl (by decide +kernel), ip_gw_t (i := 7) (by decide +kernel) (by decide +kernel), by decide +kernel, fun _ => ip_gw_t (i := 715) (by decide +kernel) (by decide +kernel), fun h => absurd h (by decide +kernel), fun h => absurd h (by decide +kernel)⟩
set_option maxRecDepth 100000 in
theorem kM_134 : ip_mOK 134 := ⟨ip_gw_t (i := 721) rfl (by decide +kernel), ip_gw_t (i := 7) (by decide +kernel) (by decide +kernel), by decide +kernel, fun h => absurd h (by decide +kernel), fun h => absurd h (by decide +kernel), fun _ => ⟨ip_gw_t (i := 720) (by decide +kernel) (by decide +kernel), ip_gw_p (i := 12) (by decide +kernel) (by decide +kernel), ⟨_, _, rfl⟩⟩⟩
set_option maxRecDepth 100000 in
theorem kM_135 : ip_mOK 135 := ⟨ip_gw_t (i := 732) rfl (by decide +kernel), ip_gw_t (i := 7) (by decide +kernel) (by decide +kernel), by decide +kernel, fun h => absurd h (by decide +kernel), fun h => absurd h (by decide +kernel), fun _ => ⟨ip_gw_t (i := 731) (by decide +kernel) (by decide +kernel), ip_gw_p (i := 13) (by decide +kernel) (by decide +kernel), ⟨_, _, rfl⟩⟩⟩
set_option maxRecDepth 100000 in
theorem kM_136 : ip_mOK 136 := ⟨ip_gw_t (i := 736) rfl (by decide +kernel), ip_gw_t (i := 7) (by decide +kernel) (by decide +kernel), by decide +kernel, fun h => absurd h (by decide +kernel), fun h => absurd h (by decide +kernel), fun _ => ⟨ip_gw_t (i := 735) (by decide +kernel) (by decide +kernel), ip_gw_p (i := 14) (by decide +kernel) (by decide +kernel), ⟨_, _, rfl⟩⟩⟩
set_option maxRecDepth 100000 in
theorem kM_137 : ip_mOK 137 := ⟨ip_gw_t (i := 56) rfl (by decide +kernel), ip_gw_t (i := 4) (by decide +kernel) (by decide +kernel), by decide +kernel, fun h => absurd h (by decide +kernel), fun _ => ⟨⟨by decide +kernel, by decide +kernel⟩, ip_gw_t (i := 55) (by decide +kernel) (by decide +kernel)⟩, fun h => absurd h (by decide +kernel)⟩
set_option maxRecDepth 100000 in
theorem kM_138 : ip_mOK 138 := ⟨ip_gw_t (i := 263) rfl (by decide +kernel), ip_gw_t (i := 4) (by decide +kernel) (by decide +kernel), by decide +kernel, fun _ => ip_gw_t (i := 262) (by decide +kernel) (by decide +kernel), fun h => absurd h (by decide +kernel), fun h => absurd h (by decide +kernel)⟩
set_option maxRecDepth 100000 in
theorem kM_139 : ip_mOK 139 := ⟨ip_gw_t (i := 487) rfl (by decide +kernel), ip_gw_t (i := 4) (by decide +kernel) (by decide +kernel), by decide +kernel, fun _ => ip_gw_t (i := 486) (by decide +kernel) (by decide +kernel), fun h => absurd h (by decide +kernel), fun h => absurd h (by decide +kernel)⟩
set_option maxRecDepth 100000 in
theorem kM_140 : ip_mOK 140 := ⟨ip_gw_t (i := 266) rfl (by decide +kernel), ip_gw_t (i := 4) (by decide +kernel) (by decide +kernel), by decide +kernel, fun _ => ip_gw_t (i := 265) (by decide +kernel) (by decide +kernel), fun h => absurd h (by decide +kernel), fun h => absurd h (by decide +kernel)⟩
set_option maxRecDepth 100000 in
theorem kM_141 : ip_mOK 141 := ⟨ip_gw_t (i := 269) rfl (by decide +kernel), ip_gw_t (i := 4) (by decide +kernel) (by decide +kernel), by decide +kernel, fun _ => ip_gw_t (i := 268) (by decide +kernel) (by decide +kernel), fun h => absurd h (by decide +kernel), fun h => absurd h (by decide +kernel)⟩
set_option maxRecDepth 100000 in
theorem kM_142 : ip_mOK 142 := ⟨ip_gw_t (i := 211) rfl (by decide +kernel), ip_gw_t (i := 4) (by decide +kernel) (by decide +kernel), by decide +kernel, fun _ => ip_gw_t (i := 210) (by decide +kernel) (by decide +kernel), fun h => absurd h (by decide +kernel), fun h => absurd h (by decide +kernel)⟩
set_option maxRecDepth 100000 in
theorem kM_143 : ip_mOK 143 := ⟨ip_gw_t (i := 389) rfl (by decide +kernel), ip_gw_t (i := 4) (by decide +kernel) (by decide +kernel), by decide +kernel, fun h => absurd h (by decide +kernel), fun h => absurd h (by decide +kernel), fun _ => ⟨ip_gw_t (i := 387) (by decide +kernel) (by decide +kernel), ip_gw_t (i := 388) (by decide +kernel) (by decide +kernel), ⟨_, _, rfl⟩⟩⟩
set_option maxRecDepth 100000 in
theorem kM_144 : ip_mOK 144 := ⟨ip_gw_t (i := 756) rfl (by decide +kernel), ip_gw_t (i := 4) (by decide +kernel) (by decide +kernel), by decide +kernel, fun h => absurd h (by decide +kernel), fun h => absurd h (by decide +kernel), fun _ => ⟨ip_gw_t (i := 754) (by decide +kernel) (by decide +kernel), ip_gw_t (i := 755) (by decide +kernel) (by decide +kernel), ⟨_, _, rfl⟩⟩⟩
set_option maxRecDepth 100000 in
theorem kM_145 : ip_mOK 145 := ⟨ip_gw_t (i := 698) rfl (by decide +kernel), ip_gw_t (i := 4) (by decide +kernel) (by decide +kernel), by decide +kernel, fun h => absurd h (by decide +kernel), fun h => absurd h (by decide +kernel), fun _ => ⟨ip_gw_t (i := 696) (by decide +kernel) (by decide +kernel), ip_gw_t (i := 697) (by decide +kernel) (by decide +kernel), ⟨_, _, rfl⟩⟩⟩
set_option maxRecDepth 100000 in
theorem kM_146 : ip_mOK 146 := ⟨ip_gw_t (i := 772) rfl (by decide +kernel), ip_gw_t (i := 4) (by decide +kernel) (by decide +kernel), by decide +kernel, fun h => absurd h (by decide +kernel), fun h => absurd h (by decide +kernel), fun _ => ⟨ip_gw_t (i := 770) (by decide +kernel) (by decide +kernel), ip_gw_t (i := 771) (by decide +kernel) (by decide +kernel), ⟨_, _, rfl⟩⟩⟩
set_option maxRecDepth 100000 in
theorem kM_147 : ip_mOK 147 := ⟨ip_gw_t (i := 483) rfl (by decide +kernel), ip_gw_t (i := 4) (by decide +kernel) (by decide +kernel), by decide +kernel, fun h => absurd h (by decide +kernel), fun h => absurd h (by decide +kernel), fun _ => ⟨ip_gw_t (i := 481) (by decide +kernel) (by decide +kernel), ip_gw_t (i := 482) (by decide +kernel) (by decide +kernel), ⟨_, _, rfl⟩⟩⟩
set_option maxRecDepth 100000 in
theorem kM_148 : ip_mOK 148 := ⟨ip_gw_t (i := 768) rfl (by decide +kernel), ip_gw_t (i := 4) (by decide +kernel) (by decide +kernel), by decide +kernel, fun h => absurd h (by decide +kernel), fun h => absurd h (by decide +kernel), fun _ => ⟨ip_gw_t (i := 766) (by decide +kernel) (by decide +kernel), ip_gw_t (i := 767) (by decide +kernel) (by decide +kernel), ⟨_, _, rfl⟩⟩⟩
set_option maxRecDepth 100000 in
theorem kM_149 : ip_mOK 149 := ⟨ip_gw_t (i := 337) rfl (by decide +kernel), ip_gw_t (i := 13) (by decide +kernel) (by decide +kernel), by decide +kernel, fun h => absurd h (by decide +kernel), fun _ => ⟨⟨by decide +kernel, by decide +kernel⟩, ip_gw_t (i := 336) (by decide +kernel) (by decide +kernel)⟩, fun h => absurd h (by decide +kernel)⟩
set_option maxRecDepth 100000 in
theorem kM_150 : ip_mOK 150 := ⟨ip_gw_t (i := 454) rfl (by decide +kernel), ip_gw_t (i := 13) (by decide +kernel) (by decide +kernel), by decide +kernel, fun h => absurd h (by decide +kernel), fun h => absurd h (by decide +kernel), fun _ => ⟨ip_gw_t (i := 452) (by decide +kernel) (by decide +kernel), ip_gw_t (i := 453) (by decide +kernel) (by decide +kernel), ⟨_, _, rfl⟩⟩⟩
set_option maxRecDepth 100000 in
theorem kM_151 : ip_mOK 151 := ⟨ip_gw_t (i := 462) rfl (by decide +kernel), ip_gw_t (i := 13) (by decide +kernel) (by decide +kernel), by decide +kernel, fun h => absurd h (by decide +kernel), fun h => absurd h (by decide +kernel), fun _ => ⟨ip_gw_t (i := 461) (by decide +kernel) (by decide +kernel), ip_gw_p (i := 1) (by decide +kernel) (by decide +kernel), ⟨_, _, rfl⟩⟩⟩
set_option maxRecDepth 100000 in
theorem kM_152 : ip_mOK 152 := ⟨ip_gw_t (i := 498) rfl (by decide +kernel), ip_gw_t (i := 13) (by decide +kernel) (by decide +kernel), by decide +kernel, fun h => absurd h (by decide +kernel), fun h => absurd h (by decide +kernel), fun _ => ⟨ip_gw_t (i := 497) (by decide +kernel) (by decide +kernel), ip_gw_p (i := 4) (by decide +kernel) (by decide +kernel), ⟨_, _, rfl⟩⟩⟩
set_option maxRecDepth 100000 in
theorem kM_153 : ip_mOK 153 := ⟨ip_gw_t (i := 509) rfl (by decide +kernel), ip_gw_t (i := 13) (by decide +kernel) (by decide +kernel), by decide +kernel, fun h => absurd h (by decide +kernel), fun h => absurd h (by decide +kernel), fun _ => ⟨ip_gw_t (i := 508) (by decide +kernel) (by decide +kernel), ip_gw_p (i := 5) (by decide +kernel) (by decide +kernel), ⟨_, _, rfl⟩⟩⟩
set_option maxRecDepth 100000 in
theorem kM_154 : ip_mOK 154 := ⟨ip_gw_t (i := 532) rfl (by decide +kernel), ip_gw_t (i := 13) (by decide +kernel) (by decide +kernel), by decide +kernel, fun h => absurd h (by decide +kernel), fun h => absurd h (by decide +kernel), fun _ => ⟨ip_gw_t (i := 531) (by decide +kernel) (by decide +kernel), ip_gw_p (i := 7) (by decide +kernel) (by decide +kernel), ⟨_, _, rfl⟩⟩⟩
set_option maxRecDepth 100000 in
theorem kM_155 : ip_mOK 155 := ⟨ip_gw_t (i := 537) rfl (by decide +kernel), ip_gw_t (i := 13) (by decide +kernel) (by decide +kernel), by decide +kernel, fun h => absurd h (by decide +kernel), fun h => absurd h (by decide +kernel), fun _ => ⟨ip_gw_t (i := 536) (by decide +kernel) (by decide +kernel), ip_gw_p (i := 8) (by decide +kernel) (by decide +kernel), ⟨_, _, rfl⟩⟩⟩
set_option maxRecDepth 100000 in
theorem kM_156 : ip_mOK 156 := ⟨ip_gw_t (i := 543) rfl (by decide +kernel), ip_gw_t (i := 13) (by decide +kernel) (by decide +kernel), by decide +kernel, fun h => absurd h (by decide +kernel), fun h => absurd h (by decide +kernel), fun _ => ⟨ip_gw_t (i := 542) (by decide +kernel) (by decide +kernel), ip_gw_p (i := 9) (by decide +kernel) (by decide +kernel), ⟨_, _, rfl⟩⟩⟩
set_option maxRecDepth 100000 in
theorem kM_157 : ip_mOK 157 := ⟨ip_gw_t (i := 479) rfl (by decide +kernel), ip_gw_t (i := 13) (by decide +kernel) (by decide +kernel), by decide +kernel, fun h => absurd h (by decide +kernel), fun h => absurd h (by decide +kernel), fun _ => ⟨ip_gw_t (i := 478) (by decide +kernel) (by decide +kernel), ip_gw_p (i := 2) (by decide +kernel) (by decide +kernel), ⟨_, _, rfl⟩⟩⟩
set_option maxRecDepth 100000 in
theorem kM_158 : ip_mOK 158 := ⟨ip_gw_t (i := 519) rfl (by decide +kernel), ip_gw_t (i := 13) (by decide +kernel) (by decide +kernel), by decide +kernel, fun h => absurd h (by decide +kernel), fun h => absurd h (by decide +kernel), fun _ => ⟨ip_gw_t (i := 518) (by decide +kernel) (by decide +kernel), ip_gw_p (i := 6) (by decide +kernel) (by decide +kernel), ⟨_, _, rfl⟩⟩⟩
set_option maxRecDepth 100000 in
theorem kM_159 : ip_mOK 159 := ⟨ip_gw_t (i := 493) rfl (by decide +kernel), ip_gw_t (i := 13) (by decide +kernel) (by decide +kernel), by decide +kernel, fun h => absurd h (by decide +kernel), fun h => absurd h (by decide +kernel), fun _ => ⟨ip_gw_t (i := 492) (by decide +kernel) (by decide +kernel), ip_gw_p (i := 3) (by decide +kernel) (by decide +kernel), ⟨_, _, rfl⟩⟩⟩
set_option maxRecDepth 100000 in
theorem kM_160 : ip_mOK 160 := ⟨ip_gw_t (i := 172) rfl (by decide +kernel), ip_gw_t (i := 6) (by decide +kernel) (by decide +kernel), by decide +kernel, fun h => absurd h (by decide +kernel), fun _ => ⟨⟨by decide +kernel, by decide +kernel⟩, ip_gw_t (i := 171) (by decide +kernel) (by decide +kernel)⟩, fun h => absurd h (by decide +kernel)⟩
set_option maxRecDepth 100000 in
theorem kM_161 : ip_mOK 161 := ⟨ip_gw_t (i := 905) rfl (by decide +kernel), ip_gw_t (i := 6) (by decide +kernel) (by decide +kernel), by decide +kernel, fun h => absurd h (by decide +kernel), fun h => absurd h (by decide +kernel), fun _ => ⟨ip_gw_t (i := 903) (by decide +kernel) (by decide +kernel), ip_gw_t (i := 904) (by decide +kernel) (by decide +kernel), ⟨_, _, rfl⟩⟩⟩
set_option maxRecDepth 100000 in
theorem kM_162 : ip_mOK 162 := ⟨ip_gw_t (i := 918) rfl (by decide +kernel), ip_gw_t (i := 6) (by decide +kernel) (by decide +kernel), by decide +kernel, fun h => absurd h (by decide +kernel), fun h => absurd h (by decide +kernel), fun _ => ⟨ip_gw_t (i := 916) (by decide +kernel) (by decide +kernel), ip_gw_t (i := 917) (by decide +kernel) (by decide +kernel), ⟨_, _, rfl⟩⟩⟩
set_option maxRecDepth 100000 in
theorem kM_163 : ip_mOK 163 := ⟨ip_gw_t (i := 690) rfl (by decide +kernel), ip_gw_t (i := 6) (by decide +kernel) (by decide +kernel), by decide +kernel, fun h => absurd h (by decide +kernel), fun h => absurd h (by decide +kernel), fun _ => ⟨ip_gw_t (i := 688) (by decide +kernel) (by decide +kernel), ip_gw_t (i := 689) (by decide +kernel) (by decide +kernel), ⟨_, _, rfl⟩⟩⟩
set_option maxRecDepth 100000 in
theorem kM_164 : ip_mOK 164 := ⟨ip_gw_t (i := 303) rfl (by decide +kernel), ip_gw_t (i := 6) (by decide +kernel) (by decide +kernel), by decide +kernel, fun h => absurd h (by decide +kernel), fun h => absurd h (by decide +kernel), fun _ => ⟨ip_gw_t (i := 302) (by decide +kernel) (by decide +kernel), ip_gw_p (i := 0) (by decide +kernel) (by decide +kernel), ⟨_, _, rfl⟩⟩⟩
set_option maxRecDepth 100000 in
theorem kM_165 : ip_mOK 165 := ⟨ip_gw_t (i := 744) rfl (by decide +kernel), ip_gw_t (i := 6) (by decide +kernel) (by decide +kernel), by decide +kernel, fun h => absurd h (by decide +kernel), fun h => absurd h (by decide +kernel), fun _ => ⟨ip_gw_t (i := 743) (by decide +kernel) (by decide +kernel), ip_gw_p (i := 15) (by decide +kernel) (by decide +kernel), ⟨_, _, rfl⟩⟩⟩
set_option maxRecDepth 100000 in
theorem kM_166 : ip_mOK 166 := ⟨ip_gw_t (i := 883) rfl (by decide +kernel), ip_gw_t (i := 6) (by decide +kernel) (by decide +kernel), by decide +kernel, fun h => absurd h (by decide +kernel), fun h => absurd h (by decide +kernel), fun _ => ⟨ip_gw_t (i := 882) (by decide +kernel) (by decide +kernel), ip_gw_p (i := 38) (by decide +kernel) (by decide +kernel), ⟨_, _, rfl⟩⟩⟩
set_option maxRecDepth 100000 in
theorem kM_167 : ip_mOK 167 := ⟨ip_gw_t (i := 748) rfl (by decide +kernel), ip_gw_t (i := 6) (by decide +kernel) (by decide +kernel), by decide +kernel, fun h => absurd h (by decide +kernel), fun h => absurd h (by decide +kernel), fun _ => ⟨ip_gw_t (i := 747) (by decide +kernel) (by decide +kernel), ip_gw_p (i := 16) (by decide +kernel) (by decide +kernel), ⟨_, _, rfl⟩⟩⟩
set_option maxRecDepth 100000 in
theorem kM_168 : ip_mOK 168 := ⟨ip_gw_t (i := 788) rfl (by decide +kernel), ip_gw_t (i := 6) (by decide +kernel) (by decide +kernel), by decide +kernel, fun h => absurd h (by decide +kernel), fun h => absurd h (by decide +kernel), fun _ => ⟨ip_gw_t (i := 787) (by decide +kernel) (by decide +kernel), ip_gw_p (i := 20) (by decide +kernel) (by decide +kernel), ⟨_, _, rfl⟩⟩⟩
set_option maxRecDepth 100000 in
theorem kM_169 : ip_mOK 169 := ⟨ip_gw_t (i := 802) rfl (by decide +kernel), ip_gw_t (i := 6) (by decide +kernel) (by decide +kernel), by decide +kernel, fun h => absurd h (by decide +kernel), fun h => absurd h (by decide +kernel), fun _ => ⟨ip_gw_t (i := 801) (by decide +kernel) (by decide +kernel), ip_gw_p (i := 23) (by decide +kernel) (by decide +kernel), ⟨_, _, rfl⟩⟩⟩
set_option maxRecDepth 100000 in
theorem kM_170 : ip_mOK 170 := ⟨ip_gw_t (i := 827) rfl (by decide +kernel), ip_gw_t (i := 6) (by decide +kernel) (by decide +kernel), by decide +kernel, fun h => absurd h (by decide +kernel), fun h => absurd h (by decide +kernel), fun _ => ⟨ip_gw_t (i := 826) (by decide +kernel) (by decide +kernel), ip_gw_p (i := 28) (by decide +kernel) (by decide +kernel), ⟨_, _, rfl⟩⟩⟩
set_option maxRecDepth 100000 in
theorem kM_171 : ip_mOK 171 := ⟨ip_gw_t (i := 835) rfl (by decide +kernel), ip_gw_t (i := 6) (by decide +kernel) (by decide +kernel), by decide +kernel, fun h => absurd h (by decide +kernel), fun h => absurd h (by decide +kernel), fun _ => ⟨ip_gw_t (i := 834) (by decide +kernel) (by decide +kernel), ip_gw_p (i := 30) (by decide +kernel) (by decide +kernel), ⟨_, _, rfl⟩⟩⟩
set_option maxRecDepth 100000 in
theorem kM_172 : ip_mOK 172 := ⟨ip_gw_t (i := 857) rfl (by decide +kernel), ip_gw_t (i := 6) (by decide +kernel) (by decide +kernel), by decide +kernel, fun h => absurd h (by decide +kernel), fun h => absurd h (by decide +kernel), fun _ => ⟨ip_gw_t (i := 856) (by decide +kernel) (by decide +kernel), ip_gw_p (i := 33) (by decide +kernel) (by decide +kernel), ⟨_, _, rfl⟩⟩⟩
set_option maxRecDepth 100000 in
theorem kM_173 : ip_mOK 173 := ⟨ip_gw_t (i := 866) rfl (by decide +kernel), ip_gw_t (i := 6) (by decide +kernel) (by decide +kernel), by decide +kernel, fun h => absurd h (by decide +kernel), fun h => absurd h (by decide +kernel), fun _ => ⟨ip_gw_t (i := 865) (by decide +kernel) (by decide +kernel), ip_gw_p (i := 35) (by decide +kernel) (by decide +kernel), ⟨_, _, rfl⟩⟩⟩
set_option maxRecDepth 100000 in
theorem kM_174 : ip_mOK 174 := ⟨ip_gw_t (i := 870) rfl (by decide +kernel), ip_gw_t (i := 6) (by decide +kernel) (by decide +kernel), by decide +kernel, fun h => absurd h (by decide +kernel), fun h => absurd h (by decide +kernel), fun _ => ⟨ip_gw_t (i := 869) (by decide +kernel) (by decide +kernel), ip_gw_p (i := 36) (by decide +kernel) (by decide +kernel), ⟨_, _, rfl⟩⟩⟩
set_option maxRecDepth 100000 in
theorem kM_175 : ip_mOK 175 := ⟨ip_gw_t (i := 815) rfl (by decide +kernel), ip_gw_t (i := 6) (by decide +kernel) (by decide +kernel), by decide +kernel, fun h => absurd h (by decide +kernel), fun h => absurd h (by decide +kernel), fun _ => ⟨ip_gw_t (i := 814) (by decide +kernel) (by decide +kernel), ip_gw_p (i := 26) (by decide +kernel) (by decide +kernel), ⟨_, _, rfl⟩⟩⟩
set_option maxRecDepth 100000 in
theorem kM_176 : ip_mOK 176 := ⟨ip_gw_t (i := 780) rfl (by decide +kernel), ip_gw_t (i := 6) (by decide +kernel) (by decide +kernel), by decide +kernel, fun h => absurd h (by decide +kernel), fun h => absurd h (by decide +kernel), fun _ => ⟨ip_gw_t (i := 779) (by decide +kernel) (by decide +kernel), ip_gw_p (i := 19) (by decide +kernel) (by decide +kernel), ⟨_, _, rfl⟩⟩⟩
set_option maxRecDepth 100000 in
theorem kM_177 : ip_mOK 177 := ⟨ip_gw_t (i := 776) rfl (by decide +kernel), ip_gw_t (i := 6) (by decide +kernel) (by decide +kernel), by decide +kernel, fun h => absurd h (by decide +kernel), fun h => absurd h (by decide +kernel), fun _ => ⟨ip_gw_t (i := 775) (by decide +kernel) (by decide +kernel), ip_gw_p (i := 18) (by decide +kernel) (by decide +kernel), ⟨_, _, rfl⟩⟩⟩
set_option maxRecDepth 100000 in
theorem kM_178 : ip_mOK 178 := ⟨ip_gw_t (i := 792) rfl (by decide +kernel), ip_gw_t (i := 6) (by decide +kernel) (by decide +kernel), by decide +kernel, fun h => absurd h (by decide +kernel), fun h => absurd h (by decide +kernel), fun _ => ⟨ip_gw_t (i := 791) (by decide +kernel) (by decide +kernel), ip_gw_p (i := 21) (by decide +kernel) (by decide +kernel), ⟨_, _, rfl⟩⟩⟩
set_option maxRecDepth 100000 in
theorem kM_179 : ip_mOK 179 := ⟨ip_gw_t (i := 752) rfl (by decide +kernel), ip_gw_t (i := 6) (by decide +kernel) (by decide +kernel), by decide +kernel, fun h => absurd h (by decide +kernel), fun h => absurd h (by decide +kernel), fun _ => ⟨ip_gw_t (i := 751) (by decide +kernel) (by decide +kernel), ip_gw_p (i := 17) (by decide +kernel) (by decide +kernel), ⟨_, _, rfl⟩⟩⟩
set_option maxRecDepth 100000 in
theorem kM_180 : ip_mOK 180 := ⟨ip_gw_t (i := 810) rfl (by decide +kernel), ip_gw_t (i := 6) (by decide +kernel) (by decide +kernel), by decide +kernel, fun h => absurd h (by decide +kernel), fun h => absurd h (by decide +kernel), fun _ => ⟨ip_gw_t (i := 809) (by decide +kernel) (by decide +kernel), ip_gw_p (i := 25) (by decide +kernel) (by decide +kernel), ⟨_, _, rfl⟩⟩⟩
set_option maxRecDepth 100000 in
theorem kM_181 : ip_mOK 181 := ⟨ip_gw_t (i := 796) rfl (by decide +kernel), ip_gw_t (i := 6) (by decide +kernel) (by decide +kernel), by decide +kernel, fun h => absurd h (by decide +kernel), fun h => absurd h (by decide +kernel), fun _ => ⟨ip_gw_t (i := 795) (by decide +kernel) (by decide +kernel), ip_gw_p (i := 22) (by decide +kernel) (by decide +kernel), ⟨_, _, rfl⟩⟩⟩
set_option maxRecDepth 100000 in
theorem kM_182 : ip_mOK 182 := ⟨ip_gw_t (i := 806) rfl (by decide +kernel), ip_gw_t (i := 6) (by decide +kernel) (by decide +kernel), by decide +kernel, fun h => absurd h (by decide +kernel), fun h => absurd h (by decide +kernel), fun _ => ⟨ip_gw_t (i := 805) (by decide +kernel) (by decide +kernel), ip_gw_p (i := 24) (by decide +kernel) (by decide +kernel), ⟨_, _, rfl⟩⟩⟩
set_option maxRecDepth 100000 in
theorem kM_183 : ip_mOK 183 := ⟨ip_gw_t (i := 819) rfl (by decide +kernel), ip_gw_t (i := 6) (by decide +kernel) (by decide +kernel), by decide +kernel, fun h => absurd h (by decide +kernel), fun h => absurd h (by decide +kernel), fun _ => ⟨ip_gw_t (i := 818) (by decide +kernel) (by decide +kernel), ip_gw_p (i := 27) (by decide +kernel) (by decide +kernel), ⟨_, _, rfl⟩⟩⟩
set_option maxRecDepth 100000 in
theorem kM_184 : ip_mOK 184 := ⟨ip_gw_t (i := 831) rfl (by decide +kernel), ip_gw_t (i := 6) (by decide +kernel) (by decide +kernel), by decide +kernel, fun h => absurd h (by decide +kernel), fun h => absurd h (by decide +kernel), fun _ => ⟨ip_gw_t (i := 830) (by decide +kernel) (by decide +kernel), ip_gw_p (i := 29) (by decide +kernel) (by decide +kernel), ⟨_, _, rfl⟩⟩⟩
set_option maxRecDepth 100000 in
theorem kM_185 : ip_mOK 185 := ⟨ip_gw_t (i := 839) rfl (by decide +kernel), ip_gw_t (i := 6) (by decide +kernel) (by decide +kernel), by decide +kernel, fun h => absurd h (by decide +kernel), fun h => absurd h (by decide +kernel), fun _ => ⟨ip_gw_t (i := 838) (by decide +kernel) (by decide +kernel), ip_gw_p (i := 31) (by decide +kernel) (by decide +kernel), ⟨_, _, rfl⟩⟩⟩
set_option maxRecDepth 100000 in
theorem kM_186 : ip_mOK 186 := ⟨ip_gw_t (i := 843) rfl (by decide +kernel), ip_gw_t (i := 6) (by decide +kernel) (by decide +kernel), by decide +kernel, fun h => absurd h (by decide +kernel), fun h => absurd h (by decide +kernel), fun _ => ⟨ip_gw_t (i := 842) (by decide +kernel) (by decide +kernel), ip_gw_p (i := 32) (by decide +kernel) (by decide +kernel), ⟨_, _, rfl⟩⟩⟩
set_option maxRecDepth 100000 in
theorem kM_187 : ip_mOK 187 := ⟨ip_gw_t (i := 861) rfl (by decide +kernel), ip_gw_t (i := 6) (by decide +kernel) (by decide +kernel), by decide +kernel, fun h => absurd h (by decide +kernel), fun h => absurd h (by decide +kernel), fun _ => ⟨ip_gw_t (i := 860) (by decide +kernel) (by decide +kernel), ip_gw_p (i := 34) (by decide +kernel) (by decide +kernel), ⟨_, _, rfl⟩⟩⟩
set_option maxRecDepth 100000 in
theorem kM_188 : ip_mOK 188 := ⟨ip_gw_t (i := 874) rfl (by decide +kernel), ip_gw_t (i := 6) (by decide +kernel) (by decide +kernel), by decide +kernel, fun h => absurd h (by decide +kernel), fun h => absurd h (by decide +kernel), fun _ => ⟨ip_gw_t (i := 873) (by decide +kernel) (by decide +kernel), ip_gw_p (i := 37) (by decide +kernel) (by decide +kernel), ⟨_, _, rfl⟩⟩⟩
set_option maxRecDepth 100000 in
theorem kM_189 : ip_mOK 189 := ⟨ip_gw_t (i := 70) rfl (by decide +kernel), ip_gw_t (i := 5) (by decide +kernel) (by decide +kernel), by decide +kernel, fun h => absurd h (by decide +kernel), fun _ => ⟨⟨by decide +kernel, by decide +kernel⟩, ip_gw_t (i := 69) (by decide +kernel) (by decide +kernel)⟩, fun h => absurd h (by decide +kernel)⟩
set_option maxRecDepth 100000 in
theorem kM_190 : ip_mOK 190 := ⟨ip_gw_t (i := 75) rfl (by decide +kernel), ip_gw_t (i := 5) (by decide +kernel) (by decide +kernel), by decide +kernel, fun h => absurd h (by decide +kernel), fun h => absurd h (by decide +kernel), fun _ => ⟨ip_gw_t (i := 73) (by decide +kernel) (by decide +kernel), ip_gw_t (i := 74) (by decide +kernel) (by decide +kernel), ⟨_, _, rfl⟩⟩⟩
set_option maxRecDepth 100000 in
theorem kM_191 : ip_mOK 191 := ⟨ip_gw_t (i := 377) rfl (by decide +kernel), ip_gw_t (i := 5) (by decide +kernel) (by decide +kernel), by decide +kernel, fun h => absurd h (by decide +kernel), fun h => absurd h (by decide +kernel), fun _ => ⟨ip_gw_t (i := 375) (by decide +kernel) (by decide +kernel), ip_gw_t (i := 376) (by decide +kernel) (by decide +kernel), ⟨_, _, rfl⟩⟩⟩
set_option maxRecDepth 100000 in
theorem kM_192 : ip_mOK 192 := ⟨ip_gw_t (i := 385) rfl (by decide +kernel), ip_gw_t (i := 5) (by decide +kernel) (by decide +kernel), by decide +kernel, fun h => absurd h (by decide +kernel), fun h => absurd h (by decide +kernel), fun _ => ⟨ip_gw_t (i := 383) (by decide +kernel) (by decide +kernel), ip_gw_t (i := 384) (by decide +kernel) (by decide +kernel), ⟨_, _, rfl⟩⟩⟩
set_option maxRecDepth 100000 in
theorem kM_193 : ip_mOK 193 := ⟨ip_gw_t (i := 184) rfl (by decide +kernel), ip_gw_t (i := 8) (by decide +kernel) (by decide +kernel), by decide +kernel, fun h => absurd h (by decide +kernel), fun _ => ⟨⟨by decide +kernel, by decide +kernel⟩, ip_gw_t (i := 183) (by decide +kernel) (by decide +kernel)⟩, fun h => absurd h (by decide +kernel)⟩
set_option maxRecDepth 100000 in
theorem kM_194 : ip_mOK 194 := ⟨ip_gw_t (i := 188) rfl (by decide +kernel), ip_gw_t (i := 8) (by decide +kernel) (by decide +kernel), by decide +kernel, fun _ => ip_gw_t (i := 187) (by decide +kernel) (by decide +kernel), fun h => absurd h (by decide +kernel), fun h => absurd h (by decide +kernel)⟩
set_option maxRecDepth 100000 in
theorem kM_195 : ip_mOK 195 := ⟨ip_gw_t (i := 201) rfl (by decide +kernel), ip_gw_t (i := 8) (by decide +kernel) (by decide +kernel), by decide +kernel, fun _ => ip_gw_t (i := 200) (by decide +kernel) (by decide +kernel), fun h => absurd h (by decide +kernel), fun h => absurd h (by decide +kernel)⟩
set_option maxRecDepth 100000 in
theorem kM_196 : ip_mOK 196 := ⟨ip_gw_t (i := 727) rfl (by decide +kernel), ip_gw_t (i := 8) (by decide +kernel) (by decide +kernel), by decide +kernel, fun h => absurd h (by decide +kernel), fun h => absurd h (by decide +kernel), fun _ => ⟨ip_gw_t (i := 725) (by decide +kernel) (by decide +kernel), ip_gw_t (i := 726) (by decide +kernel) (by decide +kernel), ⟨_, _, rfl⟩⟩⟩
