/-! the words behind the tables -/
def ip_gw : List Cond := lw_tbl.filter goodWord
theorem ip_gw_t {i : Nat} {w : Cond} (h : tables_1[i]? = some w) (hg : goodWord w = true) : w ∈ ip_gw := List.mem_filter.mpr ⟨List.mem_append_right _ (List.mem_of_getElem? h), hg⟩
theorem ip_gw_p {i : Nat} {w : Cond} (h : (k2_sels lw_privs)[i]? = some w) (hg : goodWord w = true) : w ∈ ip_gw := List.mem_filter.mpr ⟨List.mem_append_left _ (List.mem_of_getElem? h), hg⟩
theorem ip_gw_good : GoodIn ip_gw ip_gw := fun w hw => ⟨hw, good_of_word (List.mem_filter.mp hw).2⟩
theorem ip_uw {C : String} {U : u_T} {N : Nat} (ps : List Nat) (h : ∀ j, j < N → tables_1[ps.getD j 0]? = some (u_lay C U j) ∧ goodWord (u_lay C U j) = true) : ∀ w ∈ u_ws C U N, w ∈ ip_gw := by
  intro w hw
  obtain ⟨j, hj, rfl⟩ := List.mem_map.mp hw
  exact ip_gw_t (h j (List.mem_range.mp hj)).1 (h j (List.mem_range.mp hj)).2
theorem ip_lk2_mem {α : Type} {l : List (Nat × Nat × α)} {k j : Nat} {x : α} (h : ip_lk2 l k j = some x) : (k, j, x) ∈ l := by
  induction l with
  | nil => simp [ip_lk2] at h
  | cons q l ih =>
    unfold ip_lk2 at h
    split at h
    · rename_i hc
      obtain ⟨a, b, c⟩ := q
      simp only at hc
      cases h
      rw [← hc.1, ← hc.2]
      exact List.mem_cons_self
    · exact List.mem_cons_of_mem _ (ih h)
theorem ip_lkN_mem {α : Type} {l : List (Nat × α)} {k : Nat} {x : α} (h : ip_lkN l k = some x) : (k, x) ∈ l := by
  induction l with
  | nil => simp [ip_lkN] at h
  | cons q l ih =>
    unfold ip_lkN at h
    split at h
    · rename_i hc
      obtain ⟨a, b⟩ := q
      simp only at hc
      cases h
      rw [← hc]
      exact List.mem_cons_self
    · exact List.mem_cons_of_mem _ (ih h)
/-- what a class of objects has: its fields' words, types, names; it can be made -/
def ip_cOK (ci : Nat) (q : vw_C) : Prop := (∀ w ∈ u_ws q.1 q.2.1 q.2.2, w ∈ ip_gw) ∧ (∀ k, k < q.2.2 → parseFieldDescriptor (q.2.1 k).2.2.1 = some (ip_fty ci k)) ∧ (∀ a, a < q.2.2 → ∀ b, b < q.2.2 → a ≠ b → (q.2.1 a).2.1 ≠ (q.2.1 b).2.1) ∧ q.2.2 = ip_nf ci ∧ Cond.instantiable q.1 q.2.2 ∈ ip_gw ∧ Cond.initialized q.1 ∈ ip_gw
set_option maxRecDepth 100000 in
theorem kO_0 : ip_cOK 0 ("CoreText", kT_0, 7) := ⟨ip_uw [424, 426, 428, 430, 432, 434, 436] (by decide +kernel), by decide +kernel, by decide +kernel, by decide +kernel, ip_gw_t (i := 25) (by decide +kernel) (by decide +kernel), ip_gw_t (i := 1) (by decide +kernel) (by decide +kernel)⟩
set_option maxRecDepth 100000 in
theorem kO_1 : ip_cOK 1 ("CoreTextModel", kT_1, 39) := ⟨ip_uw [1093, 1095, 1097, 1099, 1101, 1103, 1105, 1107, 1109, 1111, 1113, 1115, 1117, 1119, 1121, 1123, 1125, 1127, 1129, 1131, 1133, 1135, 1137, 1139, 1141, 1143, 1145, 1147, 1149, 1151, 1153, 1155, 1157, 1159, 1161, 1163, 1165, 1167, 1169] (by decide +kernel), by decide +kernel, by decide +kernel, by decide +kernel, ip_gw_t (i := 1013) (by decide +kernel) (by decide +kernel), ip_gw_t (i := 16) (by decide +kernel) (by decide +kernel)⟩
set_option maxRecDepth 100000 in
theorem kO_2 : ip_cOK 2 ("CoreText$Bytes", kT_2, 2) := ⟨ip_uw [40, 42] (by decide +kernel), by decide +kernel, by decide +kernel, by decide +kernel, ip_gw_t (i := 33) (by decide +kernel) (by decide +kernel), ip_gw_t (i := 2) (by decide +kernel) (by decide +kernel)⟩
set_option maxRecDepth 100000 in
theorem kO_3 : ip_cOK 3 ("CoreText$Core", kT_3, 15) := ⟨ip_uw [137, 139, 141, 143, 145, 147, 149, 151, 153, 155, 157, 159, 161, 163, 165] (by decide +kernel), by decide +kernel, by decide +kernel, by decide +kernel, ip_gw_t (i := 47) (by decide +kernel) (by decide +kernel), ip_gw_t (i := 3) (by decide +kernel) (by decide +kernel)⟩
set_option maxRecDepth 100000 in
theorem kO_4 : ip_cOK 4 ("CoreText$Findings", kT_4, 3) := ⟨ip_uw [357, 359, 361] (by decide +kernel), by decide +kernel, by decide +kernel, by decide +kernel, ip_gw_t (i := 347) (by decide +kernel) (by decide +kernel), ip_gw_t (i := 14) (by decide +kernel) (by decide +kernel)⟩
set_option maxRecDepth 100000 in
theorem kO_5 : ip_cOK 5 ("CoreText$Lexer", kT_5, 7) := ⟨ip_uw [285, 287, 289, 291, 293, 295, 297] (by decide +kernel), by decide +kernel, by decide +kernel, by decide +kernel, ip_gw_t (i := 175) (by decide +kernel) (by decide +kernel), ip_gw_t (i := 7) (by decide +kernel) (by decide +kernel)⟩
set_option maxRecDepth 100000 in
theorem kO_6 : ip_cOK 6 ("CoreText$Names", kT_6, 2) := ⟨ip_uw [60, 62] (by decide +kernel), by decide +kernel, by decide +kernel, by decide +kernel, ip_gw_t (i := 53) (by decide +kernel) (by decide +kernel), ip_gw_t (i := 4) (by decide +kernel) (by decide +kernel)⟩
set_option maxRecDepth 100000 in
theorem kO_7 : ip_cOK 7 ("CoreText$Printer", kT_7, 2) := ⟨ip_uw [341, 343] (by decide +kernel), by decide +kernel, by decide +kernel, by decide +kernel, ip_gw_t (i := 334) (by decide +kernel) (by decide +kernel), ip_gw_t (i := 13) (by decide +kernel) (by decide +kernel)⟩
set_option maxRecDepth 100000 in
theorem kO_8 : ip_cOK 8 ("CoreText$Reader", kT_8, 9) := ⟨ip_uw [314, 316, 318, 320, 322, 324, 326, 328, 330] (by decide +kernel), by decide +kernel, by decide +kernel, by decide +kernel, ip_gw_t (i := 169) (by decide +kernel) (by decide +kernel), ip_gw_t (i := 6) (by decide +kernel) (by decide +kernel)⟩
set_option maxRecDepth 100000 in
theorem kO_9 : ip_cOK 9 ("CoreText$Row", kT_9, 2) := ⟨ip_uw [78, 80] (by decide +kernel), by decide +kernel, by decide +kernel, by decide +kernel, ip_gw_t (i := 67) (by decide +kernel) (by decide +kernel), ip_gw_t (i := 5) (by decide +kernel) (by decide +kernel)⟩
set_option maxRecDepth 100000 in
theorem kO_10 : ip_cOK 10 ("CoreText$Words", kT_10, 1) := ⟨ip_uw [271] (by decide +kernel), by decide +kernel, by decide +kernel, by decide +kernel, ip_gw_t (i := 181) (by decide +kernel) (by decide +kernel), ip_gw_t (i := 8) (by decide +kernel) (by decide +kernel)⟩
theorem ip_clsOK {ci : Nat} {q : vw_C} (h : ip_cls[ci]? = some q) : ip_cOK ci q := by
  match ci, h with
  | 0, h => cases h; exact kO_0
  | 1, h => cases h; exact kO_1
  | 2, h => cases h; exact kO_2
  | 3, h => cases h; exact kO_3
  | 4, h => cases h; exact kO_4
  | 5, h => cases h; exact kO_5
  | 6, h => cases h; exact kO_6
  | 7, h => cases h; exact kO_7
  | 8, h => cases h; exact kO_8
  | 9, h => cases h; exact kO_9
  | 10, h => cases h; exact kO_10
  | n + 11, h => simp [ip_cls] at h
def ip_fps : List Nat := [417, 418, 419, 420, 421, 422, 423, 87, 108, 111, 115, 120, 124, 97, 127, 132, 101, 93, 1054, 1057, 1059, 1065, 1066, 1067, 1068, 1069, 1070, 1071, 1072, 1073, 1074, 1075, 1076, 1078, 1079, 1080, 1081, 1082, 1085, 1086, 1087, 1088, 1055, 1056, 1060, 1061, 1091, 1062, 1090, 1089, 1092, 1064, 1077, 1063, 1083, 1084, 1058, 38, 39, 85, 114, 106, 96, 130, 119, 91, 123, 84, 89, 94, 99, 103, 105, 110, 113, 117, 121, 125, 129, 134, 135, 136, 354, 355, 356, 278, 279, 280, 282, 281, 283, 284, 58, 59, 339, 340, 90, 86, 95, 100, 107, 118, 122, 126, 131, 305, 306, 307, 308, 309, 310, 311, 312, 313, 88, 92, 104, 109, 98, 128, 133, 102, 116, 112, 76, 77, 270]
def ip_fw (q : Nat × Nat × Nat × Nat) : Option Cond := match ip_cls[q.2.2.1]? with
  | some r => if q.2.2.2 < r.2.2 then some (.fieldLink (ip_onm q.1) q.2.1 (r.2.1 q.2.2.2).1 (r.2.1 q.2.2.2).2.1 (r.2.1 q.2.2.2).2.2.1) else none
  | none => none
set_option maxRecDepth 100000 in
theorem ip_fpsOK : ∀ i, i < ip_flds.length → ip_fw (ip_flds.getD i (0, 0, 0, 0)) = tables_1[ip_fps.getD i 0]? ∧ (ip_fw (ip_flds.getD i (0, 0, 0, 0))).isSome = true ∧ (match ip_fw (ip_flds.getD i (0, 0, 0, 0)) with
  | some w => goodWord w
  | none => false) = true := by decide +kernel
theorem ip_fldOK {mi ix ci j : Nat} (h : ip_fld mi ix = some (ci, j)) : ∃ r : vw_C, ip_cls[ci]? = some r ∧ j < r.2.2 ∧ Cond.fieldLink (ip_own mi) ix (r.2.1 j).1 (r.2.1 j).2.1 (r.2.1 j).2.2.1 ∈ ip_gw := by
  obtain ⟨i, hi⟩ := List.getElem?_of_mem (ip_lk2_mem h)
  have hl := (List.getElem?_eq_some_iff.mp hi).1
  obtain ⟨h1, h2, h3⟩ := ip_fpsOK i hl
  have e : ip_flds.getD i (0, 0, 0, 0) = (ip_o mi, ix, ci, j) := by rw [List.getD_eq_getElem?_getD, hi]; rfl
  rw [e] at h1 h2 h3
  unfold ip_fw at h1 h2 h3
  dsimp only at h1 h2 h3
  cases hr : ip_cls[ci]? with
  | none => rw [hr] at h2; cases h2
  | some r =>
    rw [hr] at h1 h2 h3
    dsimp only at h1 h2 h3
    by_cases hj : j < r.2.2
    · rw [if_pos hj] at h1 h3
      exact ⟨r, rfl, hj, ip_gw_t h1.symm h3⟩
    · rw [if_neg hj] at h2; cases h2
set_option maxRecDepth 100000 in
theorem kd_0 : ∀ q ∈ kc_0, decode (ip_bytes 0) q.1 = .ok (q.2.1, q.2.2) ∧ ip_okl q.2.1 q.2.2 = true := by decide +kernel
set_option maxRecDepth 100000 in
theorem kd_1 : ∀ q ∈ kc_1, decode (ip_bytes 1) q.1 = .ok (q.2.1, q.2.2) ∧ ip_okl q.2.1 q.2.2 = true := by decide +kernel
set_option maxRecDepth 100000 in
theorem kd_2 : ∀ q ∈ kc_2, decode (ip_bytes 2) q.1 = .ok (q.2.1, q.2.2) ∧ ip_okl q.2.1 q.2.2 = true := by decide +kernel
set_option maxRecDepth 100000 in
theorem kd_3 : ∀ q ∈ kc_3, decode (ip_bytes 3) q.1 = .ok (q.2.1, q.2.2) ∧ ip_okl q.2.1 q.2.2 = true := by decide +kernel
set_option maxRecDepth 100000 in
theorem kd_4 : ∀ q ∈ kc_4, decode (ip_bytes 4) q.1 = .ok (q.2.1, q.2.2) ∧ ip_okl q.2.1 q.2.2 = true := by decide +kernel
set_option maxRecDepth 100000 in
theorem kd_5 : ∀ q ∈ kc_5, decode (ip_bytes 5) q.1 = .ok (q.2.1, q.2.2) ∧ ip_okl q.2.1 q.2.2 = true := by decide +kernel
set_option maxRecDepth 100000 in
theorem kd_6 : ∀ q ∈ kc_6, decode (ip_bytes 6) q.1 = .ok (q.2.1, q.2.2) ∧ ip_okl q.2.1 q.2.2 = true := by decide +kernel
set_option maxRecDepth 100000 in
theorem kd_7 : ∀ q ∈ kc_7, decode (ip_bytes 7) q.1 = .ok (q.2.1, q.2.2) ∧ ip_okl q.2.1 q.2.2 = true := by decide +kernel
set_option maxRecDepth 100000 in
theorem kd_8 : ∀ q ∈ kc_8, decode (ip_bytes 8) q.1 = .ok (q.2.1, q.2.2) ∧ ip_okl q.2.1 q.2.2 = true := by decide +kernel
set_option maxRecDepth 100000 in
theorem kd_9 : ∀ q ∈ kc_9, decode (ip_bytes 9) q.1 = .ok (q.2.1, q.2.2) ∧ ip_okl q.2.1 q.2.2 = true := by decide +kernel
set_option maxRecDepth 100000 in
theorem kd_10 : ∀ q ∈ kc_10, decode (ip_bytes 10) q.1 = .ok (q.2.1, q.2.2) ∧ ip_okl q.2.1 q.2.2 = true := by decide +kernel
set_option maxRecDepth 100000 in
theorem kd_11 : ∀ q ∈ kc_11, decode (ip_bytes 11) q.1 = .ok (q.2.1, q.2.2) ∧ ip_okl q.2.1 q.2.2 = true := by decide +kernel
set_option maxRecDepth 100000 in
theorem kd_12 : ∀ q ∈ kc_12, decode (ip_bytes 12) q.1 = .ok (q.2.1, q.2.2) ∧ ip_okl q.2.1 q.2.2 = true := by decide +kernel
set_option maxRecDepth 100000 in
theorem kd_13 : ∀ q ∈ kc_13, decode (ip_bytes 13) q.1 = .ok (q.2.1, q.2.2) ∧ ip_okl q.2.1 q.2.2 = true := by decide +kernel
set_option maxRecDepth 100000 in
theorem kd_14 : ∀ q ∈ kc_14, decode (ip_bytes 14) q.1 = .ok (q.2.1, q.2.2) ∧ ip_okl q.2.1 q.2.2 = true := by decide +kernel
set_option maxRecDepth 100000 in
theorem kd_15 : ∀ q ∈ kc_15, decode (ip_bytes 15) q.1 = .ok (q.2.1, q.2.2) ∧ ip_okl q.2.1 q.2.2 = true := by decide +kernel
set_option maxRecDepth 100000 in
theorem kd_16 : ∀ q ∈ kc_16, decode (ip_bytes 16) q.1 = .ok (q.2.1, q.2.2) ∧ ip_okl q.2.1 q.2.2 = true := by decide +kernel
set_option maxRecDepth 100000 in
theorem kd_17 : ∀ q ∈ kc_17, decode (ip_bytes 17) q.1 = .ok (q.2.1, q.2.2) ∧ ip_okl q.2.1 q.2.2 = true := by decide +kernel
set_option maxRecDepth 100000 in
theorem kd_18 : ∀ q ∈ kc_18, decode (ip_bytes 18) q.1 = .ok (q.2.1, q.2.2) ∧ ip_okl q.2.1 q.2.2 = true := by decide +kernel
set_option maxRecDepth 100000 in
theorem kd_20 : ∀ q ∈ kc_20, decode (ip_bytes 20) q.1 = .ok (q.2.1, q.2.2) ∧ ip_okl q.2.1 q.2.2 = true := by decide +kernel
set_option maxRecDepth 100000 in
theorem kd_21 : ∀ q ∈ kc_21, decode (ip_bytes 21) q.1 = .ok (q.2.1, q.2.2) ∧ ip_okl q.2.1 q.2.2 = true := by decide +kernel
set_option maxRecDepth 100000 in
theorem kd_22 : ∀ q ∈ kc_22, decode (ip_bytes 22) q.1 = .ok (q.2.1, q.2.2) ∧ ip_okl q.2.1 q.2.2 = true := by decide +kernel
set_option maxRecDepth 100000 in
theorem kd_23 : ∀ q ∈ kc_23, decode (ip_bytes 23) q.1 = .ok (q.2.1, q.2.2) ∧ ip_okl q.2.1 q.2.2 = true := by decide +kernel
set_option maxRecDepth 100000 in
theorem kd_24 : ∀ q ∈ kc_24, decode (ip_bytes 24) q.1 = .ok (q.2.1, q.2.2) ∧ ip_okl q.2.1 q.2.2 = true := by decide +kernel
set_option maxRecDepth 100000 in
theorem kd_25 : ∀ q ∈ kc_25, decode (ip_bytes 25) q.1 = .ok (q.2.1, q.2.2) ∧ ip_okl q.2.1 q.2.2 = true := by decide +kernel
set_option maxRecDepth 100000 in
theorem kd_26 : ∀ q ∈ kc_26, decode (ip_bytes 26) q.1 = .ok (q.2.1, q.2.2) ∧ ip_okl q.2.1 q.2.2 = true := by decide +kernel
set_option maxRecDepth 100000 in
theorem kd_27 : ∀ q ∈ kc_27, decode (ip_bytes 27) q.1 = .ok (q.2.1, q.2.2) ∧ ip_okl q.2.1 q.2.2 = true := by decide +kernel
set_option maxRecDepth 100000 in
theorem kd_28 : ∀ q ∈ kc_28, decode (ip_bytes 28) q.1 = .ok (q.2.1, q.2.2) ∧ ip_okl q.2.1 q.2.2 = true := by decide +kernel
set_option maxRecDepth 100000 in
theorem kd_29 : ∀ q ∈ kc_29, decode (ip_bytes 29) q.1 = .ok (q.2.1, q.2.2) ∧ ip_okl q.2.1 q.2.2 = true := by decide +kernel
set_option maxRecDepth 100000 in
theorem kd_30 : ∀ q ∈ kc_30, decode (ip_bytes 30) q.1 = .ok (q.2.1, q.2.2) ∧ ip_okl q.2.1 q.2.2 = true := by decide +kernel
set_option maxRecDepth 100000 in
theorem kd_31 : ∀ q ∈ kc_31, decode (ip_bytes 31) q.1 = .ok (q.2.1, q.2.2) ∧ ip_okl q.2.1 q.2.2 = true := by decide +kernel
set_option maxRecDepth 100000 in
theorem kd_32 : ∀ q ∈ kc_32, decode (ip_bytes 32) q.1 = .ok (q.2.1, q.2.2) ∧ ip_okl q.2.1 q.2.2 = true := by decide +kernel
set_option maxRecDepth 100000 in
theorem kd_33 : ∀ q ∈ kc_33, decode (ip_bytes 33) q.1 = .ok (q.2.1, q.2.2) ∧ ip_okl q.2.1 q.2.2 = true := by decide +kernel
set_option maxRecDepth 100000 in
theorem kd_34 : ∀ q ∈ kc_34, decode (ip_bytes 34) q.1 = .ok (q.2.1, q.2.2) ∧ ip_okl q.2.1 q.2.2 = true := by decide +kernel
set_option maxRecDepth 100000 in
theorem kd_35 : ∀ q ∈ kc_35, decode (ip_bytes 35) q.1 = .ok (q.2.1, q.2.2) ∧ ip_okl q.2.1 q.2.2 = true := by decide +kernel
set_option maxRecDepth 100000 in
theorem kd_36 : ∀ q ∈ kc_36, decode (ip_bytes 36) q.1 = .ok (q.2.1, q.2.2) ∧ ip_okl q.2.1 q.2.2 = true := by decide +kernel
set_option maxRecDepth 100000 in
theorem kd_37 : ∀ q ∈ kc_37, decode (ip_bytes 37) q.1 = .ok (q.2.1, q.2.2) ∧ ip_okl q.2.1 q.2.2 = true := by decide +kernel
set_option maxRecDepth 100000 in
theorem kd_38 : ∀ q ∈ kc_38, decode (ip_bytes 38) q.1 = .ok (q.2.1, q.2.2) ∧ ip_okl q.2.1 q.2.2 = true := by decide +kernel
set_option maxRecDepth 100000 in
theorem kd_39 : ∀ q ∈ kc_39, decode (ip_bytes 39) q.1 = .ok (q.2.1, q.2.2) ∧ ip_okl q.2.1 q.2.2 = true := by decide +kernel
set_option maxRecDepth 100000 in
theorem kd_40 : ∀ q ∈ kc_40, decode (ip_bytes 40) q.1 = .ok (q.2.1, q.2.2) ∧ ip_okl q.2.1 q.2.2 = true := by decide +kernel
set_option maxRecDepth 100000 in
theorem kd_41 : ∀ q ∈ kc_41, decode (ip_bytes 41) q.1 = .ok (q.2.1, q.2.2) ∧ ip_okl q.2.1 q.2.2 = true := by decide +kernel
set_option maxRecDepth 100000 in
theorem kd_42 : ∀ q ∈ kc_42, decode (ip_bytes 42) q.1 = .ok (q.2.1, q.2.2) ∧ ip_okl q.2.1 q.2.2 = true := by decide +kernel
set_option maxRecDepth 100000 in
theorem kd_43 : ∀ q ∈ kc_43, decode (ip_bytes 43) q.1 = .ok (q.2.1, q.2.2) ∧ ip_okl q.2.1 q.2.2 = true := by decide +kernel
set_option maxRecDepth 100000 in
theorem kd_44 : ∀ q ∈ kc_44, decode (ip_bytes 44) q.1 = .ok (q.2.1, q.2.2) ∧ ip_okl q.2.1 q.2.2 = true := by decide +kernel
set_option maxRecDepth 100000 in
theorem kd_45 : ∀ q ∈ kc_45, decode (ip_bytes 45) q.1 = .ok (q.2.1, q.2.2) ∧ ip_okl q.2.1 q.2.2 = true := by decide +kernel
set_option maxRecDepth 100000 in
theorem kd_46 : ∀ q ∈ kc_46, decode (ip_bytes 46) q.1 = .ok (q.2.1, q.2.2) ∧ ip_okl q.2.1 q.2.2 = true := by decide +kernel
set_option maxRecDepth 100000 in
theorem kd_47 : ∀ q ∈ kc_47, decode (ip_bytes 47) q.1 = .ok (q.2.1, q.2.2) ∧ ip_okl q.2.1 q.2.2 = true := by decide +kernel
set_option maxRecDepth 100000 in
theorem kd_48 : ∀ q ∈ kc_48, decode (ip_bytes 48) q.1 = .ok (q.2.1, q.2.2) ∧ ip_okl q.2.1 q.2.2 = true := by decide +kernel
set_option maxRecDepth 100000 in
theorem kd_49 : ∀ q ∈ kc_49, decode (ip_bytes 49) q.1 = .ok (q.2.1, q.2.2) ∧ ip_okl q.2.1 q.2.2 = true := by decide +kernel
set_option maxRecDepth 100000 in
theorem kd_50 : ∀ q ∈ kc_50, decode (ip_bytes 50) q.1 = .ok (q.2.1, q.2.2) ∧ ip_okl q.2.1 q.2.2 = true := by decide +kernel
set_option maxRecDepth 100000 in
theorem kd_51 : ∀ q ∈ kc_51, decode (ip_bytes 51) q.1 = .ok (q.2.1, q.2.2) ∧ ip_okl q.2.1 q.2.2 = true := by decide +kernel
set_option maxRecDepth 100000 in
theorem kd_52 : ∀ q ∈ kc_52, decode (ip_bytes 52) q.1 = .ok (q.2.1, q.2.2) ∧ ip_okl q.2.1 q.2.2 = true := by decide +kernel
set_option maxRecDepth 100000 in
theorem kd_53 : ∀ q ∈ kc_53, decode (ip_bytes 53) q.1 = .ok (q.2.1, q.2.2) ∧ ip_okl q.2.1 q.2.2 = true := by decide +kernel
set_option maxRecDepth 100000 in
theorem kd_54 : ∀ q ∈ kc_54, decode (ip_bytes 54) q.1 = .ok (q.2.1, q.2.2) ∧ ip_okl q.2.1 q.2.2 = true := by decide +kernel
set_option maxRecDepth 100000 in
theorem kd_55 : ∀ q ∈ kc_55, decode (ip_bytes 55) q.1 = .ok (q.2.1, q.2.2) ∧ ip_okl q.2.1 q.2.2 = true := by decide +kernel
set_option maxRecDepth 100000 in
theorem kd_56 : ∀ q ∈ kc_56, decode (ip_bytes 56) q.1 = .ok (q.2.1, q.2.2) ∧ ip_okl q.2.1 q.2.2 = true := by decide +kernel
set_option maxRecDepth 100000 in
theorem kd_57 : ∀ q ∈ kc_57, decode (ip_bytes 57) q.1 = .ok (q.2.1, q.2.2) ∧ ip_okl q.2.1 q.2.2 = true := by decide +kernel
set_option maxRecDepth 100000 in
theorem kd_58 : ∀ q ∈ kc_58, decode (ip_bytes 58) q.1 = .ok (q.2.1, q.2.2) ∧ ip_okl q.2.1 q.2.2 = true := by decide +kernel
set_option maxRecDepth 100000 in
theorem kd_59 : ∀ q ∈ kc_59, decode (ip_bytes 59) q.1 = .ok (q.2.1, q.2.2) ∧ ip_okl q.2.1 q.2.2 = true := by decide +kernel
set_option maxRecDepth 100000 in
theorem kd_60 : ∀ q ∈ kc_60, decode (ip_bytes 60) q.1 = .ok (q.2.1, q.2.2) ∧ ip_okl q.2.1 q.2.2 = true := by decide +kernel
set_option maxRecDepth 100000 in
theorem kd_61 : ∀ q ∈ kc_61, decode (ip_bytes 61) q.1 = .ok (q.2.1, q.2.2) ∧ ip_okl q.2.1 q.2.2 = true := by decide +kernel
set_option maxRecDepth 100000 in
theorem kd_62 : ∀ q ∈ kc_62, decode (ip_bytes 62) q.1 = .ok (q.2.1, q.2.2) ∧ ip_okl q.2.1 q.2.2 = true := by decide +kernel
set_option maxRecDepth 100000 in
theorem kd_63 : ∀ q ∈ kc_63, decode (ip_bytes 63) q.1 = .ok (q.2.1, q.2.2) ∧ ip_okl q.2.1 q.2.2 = true := by decide +kernel
set_option maxRecDepth 100000 in
theorem kd_64 : ∀ q ∈ kc_64, decode (ip_bytes 64) q.1 = .ok (q.2.1, q.2.2) ∧ ip_okl q.2.1 q.2.2 = true := by decide +kernel
set_option maxRecDepth 100000 in
theorem kd_65 : ∀ q ∈ kc_65, decode (ip_bytes 65) q.1 = .ok (q.2.1, q.2.2) ∧ ip_okl q.2.1 q.2.2 = true := by decide +kernel
set_option maxRecDepth 100000 in
theorem kd_66 : ∀ q ∈ kc_66, decode (ip_bytes 66) q.1 = .ok (q.2.1, q.2.2) ∧ ip_okl q.2.1 q.2.2 = true := by decide +kernel
set_option maxRecDepth 100000 in
theorem kd_67 : ∀ q ∈ kc_67, decode (ip_bytes 67) q.1 = .ok (q.2.1, q.2.2) ∧ ip_okl q.2.1 q.2.2 = true := by decide +kernel
set_option maxRecDepth 100000 in
theorem kd_68 : ∀ q ∈ kc_68, decode (ip_bytes 68) q.1 = .ok (q.2.1, q.2.2) ∧ ip_okl q.2.1 q.2.2 = true := by decide +kernel
set_option maxRecDepth 100000 in
theorem kd_69 : ∀ q ∈ kc_69, decode (ip_bytes 69) q.1 = .ok (q.2.1, q.2.2) ∧ ip_okl q.2.1 q.2.2 = true := by decide +kernel
set_option maxRecDepth 100000 in
theorem kd_70 : ∀ q ∈ kc_70, decode (ip_bytes 70) q.1 = .ok (q.2.1, q.2.2) ∧ ip_okl q.2.1 q.2.2 = true := by decide +kernel
set_option maxRecDepth 100000 in
theorem kd_71 : ∀ q ∈ kc_71, decode (ip_bytes 71) q.1 = .ok (q.2.1, q.2.2) ∧ ip_okl q.2.1 q.2.2 = true := by decide +kernel
set_option maxRecDepth 100000 in
theorem kd_72 : ∀ q ∈ kc_72, decode (ip_bytes 72) q.1 = .ok (q.2.1, q.2.2) ∧ ip_okl q.2.1 q.2.2 = true := by decide +kernel
set_option maxRecDepth 100000 in
theorem kd_73 : ∀ q ∈ kc_73, decode (ip_bytes 73) q.1 = .ok (q.2.1, q.2.2) ∧ ip_okl q.2.1 q.2.2 = true := by decide +kernel
set_option maxRecDepth 100000 in
theorem kd_74 : ∀ q ∈ kc_74, decode (ip_bytes 74) q.1 = .ok (q.2.1, q.2.2) ∧ ip_okl q.2.1 q.2.2 = true := by decide +kernel
set_option maxRecDepth 100000 in
theorem kd_75 : ∀ q ∈ kc_75, decode (ip_bytes 75) q.1 = .ok (q.2.1, q.2.2) ∧ ip_okl q.2.1 q.2.2 = true := by decide +kernel
set_option maxRecDepth 100000 in
theorem kd_76 : ∀ q ∈ kc_76, decode (ip_bytes 76) q.1 = .ok (q.2.1, q.2.2) ∧ ip_okl q.2.1 q.2.2 = true := by decide +kernel
set_option maxRecDepth 100000 in
theorem kd_77 : ∀ q ∈ kc_77, decode (ip_bytes 77) q.1 = .ok (q.2.1, q.2.2) ∧ ip_okl q.2.1 q.2.2 = true := by decide +kernel
set_option maxRecDepth 100000 in
theorem kd_78 : ∀ q ∈ kc_78, decode (ip_bytes 78) q.1 = .ok (q.2.1, q.2.2) ∧ ip_okl q.2.1 q.2.2 = true := by decide +kernel
set_option maxRecDepth 100000 in
theorem kd_79 : ∀ q ∈ kc_79, decode (ip_bytes 79) q.1 = .ok (q.2.1, q.2.2) ∧ ip_okl q.2.1 q.2.2 = true := by decide +kernel
set_option maxRecDepth 100000 in
theorem kd_80 : ∀ q ∈ kc_80, decode (ip_bytes 80) q.1 = .ok (q.2.1, q.2.2) ∧ ip_okl q.2.1 q.2.2 = true := by decide +kernel
set_option maxRecDepth 100000 in
theorem kd_81 : ∀ q ∈ kc_81, decode (ip_bytes 81) q.1 = .ok (q.2.1, q.2.2) ∧ ip_okl q.2.1 q.2.2 = true := by decide +kernel
set_option maxRecDepth 100000 in
theorem kd_82 : ∀ q ∈ kc_82, decode (ip_bytes 82) q.1 = .ok (q.2.1, q.2.2) ∧ ip_okl q.2.1 q.2.2 = true := by decide +kernel
set_option maxRecDepth 100000 in
theorem kd_83 : ∀ q ∈ kc_83, decode (ip_bytes 83) q.1 = .ok (q.2.1, q.2.2) ∧ ip_okl q.2.1 q.2.2 = true := by decide +kernel
set_option maxRecDepth 100000 in
theorem kd_84 : ∀ q ∈ kc_84, decode (ip_bytes 84) q.1 = .ok (q.2.1, q.2.2) ∧ ip_okl q.2.1 q.2.2 = true := by decide +kernel
set_option maxRecDepth 100000 in
theorem kd_85 : ∀ q ∈ kc_85, decode (ip_bytes 85) q.1 = .ok (q.2.1, q.2.2) ∧ ip_okl q.2.1 q.2.2 = true := by decide +kernel
set_option maxRecDepth 100000 in
theorem kd_86 : ∀ q ∈ kc_86, decode (ip_bytes 86) q.1 = .ok (q.2.1, q.2.2) ∧ ip_okl q.2.1 q.2.2 = true := by decide +kernel
set_option maxRecDepth 100000 in
theorem kd_87 : ∀ q ∈ kc_87, decode (ip_bytes 87) q.1 = .ok (q.2.1, q.2.2) ∧ ip_okl q.2.1 q.2.2 = true := by decide +kernel
set_option maxRecDepth 100000 in
theorem kd_88 : ∀ q ∈ kc_88, decode (ip_bytes 88) q.1 = .ok (q.2.1, q.2.2) ∧ ip_okl q.2.1 q.2.2 = true := by decide +kernel
set_option maxRecDepth 100000 in
theorem kd_89 : ∀ q ∈ kc_89, decode (ip_bytes 89) q.1 = .ok (q.2.1, q.2.2) ∧ ip_okl q.2.1 q.2.2 = true := by decide +kernel
set_option maxRecDepth 100000 in
theorem kd_90 : ∀ q ∈ kc_90, decode (ip_bytes 90) q.1 = .ok (q.2.1, q.2.2) ∧ ip_okl q.2.1 q.2.2 = true := by decide +kernel
set_option maxRecDepth 100000 in
theorem kd_91 : ∀ q ∈ kc_91, decode (ip_bytes 91) q.1 = .ok (q.2.1, q.2.2) ∧ ip_okl q.2.1 q.2.2 = true := by decide +kernel
set_option maxRecDepth 100000 in
theorem kd_92 : ∀ q ∈ kc_92, decode (ip_bytes 92) q.1 = .ok (q.2.1, q.2.2) ∧ ip_okl q.2.1 q.2.2 = true := by decide +kernel
set_option maxRecDepth 100000 in
theorem kd_93 : ∀ q ∈ kc_93, decode (ip_bytes 93) q.1 = .ok (q.2.1, q.2.2) ∧ ip_okl q.2.1 q.2.2 = true := by decide +kernel
set_option maxRecDepth 100000 in
theorem kd_94 : ∀ q ∈ kc_94, decode (ip_bytes 94) q.1 = .ok (q.2.1, q.2.2) ∧ ip_okl q.2.1 q.2.2 = true := by decide +kernel
set_option maxRecDepth 100000 in
theorem kd_95 : ∀ q ∈ kc_95, decode (ip_bytes 95) q.1 = .ok (q.2.1, q.2.2) ∧ ip_okl q.2.1 q.2.2 = true := by decide +kernel
set_option maxRecDepth 100000 in
theorem kd_96 : ∀ q ∈ kc_96, decode (ip_bytes 96) q.1 = .ok (q.2.1, q.2.2) ∧ ip_okl q.2.1 q.2.2 = true := by decide +kernel
set_option maxRecDepth 100000 in
theorem kd_97 : ∀ q ∈ kc_97, decode (ip_bytes 97) q.1 = .ok (q.2.1, q.2.2) ∧ ip_okl q.2.1 q.2.2 = true := by decide +kernel
set_option maxRecDepth 100000 in
theorem kd_98 : ∀ q ∈ kc_98, decode (ip_bytes 98) q.1 = .ok (q.2.1, q.2.2) ∧ ip_okl q.2.1 q.2.2 = true := by decide +kernel
set_option maxRecDepth 100000 in
theorem kd_99 : ∀ q ∈ kc_99, decode (ip_bytes 99) q.1 = .ok (q.2.1, q.2.2) ∧ ip_okl q.2.1 q.2.2 = true := by decide +kernel
set_option maxRecDepth 100000 in
theorem kd_100 : ∀ q ∈ kc_100, decode (ip_bytes 100) q.1 = .ok (q.2.1, q.2.2) ∧ ip_okl q.2.1 q.2.2 = true := by decide +kernel
set_option maxRecDepth 100000 in
theorem kd_101 : ∀ q ∈ kc_101, decode (ip_bytes 101) q.1 = .ok (q.2.1, q.2.2) ∧ ip_okl q.2.1 q.2.2 = true := by decide +kernel
set_option maxRecDepth 100000 in
theorem kd_102 : ∀ q ∈ kc_102, decode (ip_bytes 102) q.1 = .ok (q.2.1, q.2.2) ∧ ip_okl q.2.1 q.2.2 = true := by decide +kernel
set_option maxRecDepth 100000 in
theorem kd_103 : ∀ q ∈ kc_103, decode (ip_bytes 103) q.1 = .ok (q.2.1, q.2.2) ∧ ip_okl q.2.1 q.2.2 = true := by decide +kernel
set_option maxRecDepth 100000 in
theorem kd_104 : ∀ q ∈ kc_104, decode (ip_bytes 104) q.1 = .ok (q.2.1, q.2.2) ∧ ip_okl q.2.1 q.2.2 = true := by decide +kernel
set_option maxRecDepth 100000 in
theorem kd_105 : ∀ q ∈ kc_105, decode (ip_bytes 105) q.1 = .ok (q.2.1, q.2.2) ∧ ip_okl q.2.1 q.2.2 = true := by decide +kernel
set_option maxRecDepth 100000 in
theorem kd_106 : ∀ q ∈ kc_106, decode (ip_bytes 106) q.1 = .ok (q.2.1, q.2.2) ∧ ip_okl q.2.1 q.2.2 = true := by decide +kernel
set_option maxRecDepth 100000 in
theorem kd_107 : ∀ q ∈ kc_107, decode (ip_bytes 107) q.1 = .ok (q.2.1, q.2.2) ∧ ip_okl q.2.1 q.2.2 = true := by decide +kernel
set_option maxRecDepth 100000 in
theorem kd_108 : ∀ q ∈ kc_108, decode (ip_bytes 108) q.1 = .ok (q.2.1, q.2.2) ∧ ip_okl q.2.1 q.2.2 = true := by decide +kernel
set_option maxRecDepth 100000 in
theorem kd_109 : ∀ q ∈ kc_109, decode (ip_bytes 109) q.1 = .ok (q.2.1, q.2.2) ∧ ip_okl q.2.1 q.2.2 = true := by decide +kernel
set_option maxRecDepth 100000 in
theorem kd_110 : ∀ q ∈ kc_110, decode (ip_bytes 110) q.1 = .ok (q.2.1, q.2.2) ∧ ip_okl q.2.1 q.2.2 = true := by decide +kernel
set_option maxRecDepth 100000 in
theorem kd_111 : ∀ q ∈ kc_111, decode (ip_bytes 111) q.1 = .ok (q.2.1, q.2.2) ∧ ip_okl q.2.1 q.2.2 = true := by decide +kernel
set_option maxRecDepth 100000 in
theorem kd_112 : ∀ q ∈ kc_112, decode (ip_bytes 112) q.1 = .ok (q.2.1, q.2.2) ∧ ip_okl q.2.1 q.2.2 = true := by decide +kernel
set_option maxRecDepth 100000 in
theorem kd_113 : ∀ q ∈ kc_113, decode (ip_bytes 113) q.1 = .ok (q.2.1, q.2.2) ∧ ip_okl q.2.1 q.2.2 = true := by decide +kernel
set_option maxRecDepth 100000 in
theorem kd_114 : ∀ q ∈ kc_114, decode (ip_bytes 114) q.1 = .ok (q.2.1, q.2.2) ∧ ip_okl q.2.1 q.2.2 = true := by decide +kernel
set_option maxRecDepth 100000 in
theorem kd_115 : ∀ q ∈ kc_115, decode (ip_bytes 115) q.1 = .ok (q.2.1, q.2.2) ∧ ip_okl q.2.1 q.2.2 = true := by decide +kernel
set_option maxRecDepth 100000 in
theorem kd_116 : ∀ q ∈ kc_116, decode (ip_bytes 116) q.1 = .ok (q.2.1, q.2.2) ∧ ip_okl q.2.1 q.2.2 = true := by decide +kernel
set_option maxRecDepth 100000 in
theorem kd_117 : ∀ q ∈ kc_117, decode (ip_bytes 117) q.1 = .ok (q.2.1, q.2.2) ∧ ip_okl q.2.1 q.2.2 = true := by decide +kernel
set_option maxRecDepth 100000 in
theorem kd_118 : ∀ q ∈ kc_118, decode (ip_bytes 118) q.1 = .ok (q.2.1, q.2.2) ∧ ip_okl q.2.1 q.2.2 = true := by decide +kernel
set_option maxRecDepth 100000 in
theorem kd_119 : ∀ q ∈ kc_119, decode (ip_bytes 119) q.1 = .ok (q.2.1, q.2.2) ∧ ip_okl q.2.1 q.2.2 = true := by decide +kernel
set_option maxRecDepth 100000 in
theorem kd_120 : ∀ q ∈ kc_120, decode (ip_bytes 120) q.1 = .ok (q.2.1, q.2.2) ∧ ip_okl q.2.1 q.2.2 = true := by decide +kernel
set_option maxRecDepth 100000 in
theorem kd_121 : ∀ q ∈ kc_121, decode (ip_bytes 121) q.1 = .ok (q.2.1, q.2.2) ∧ ip_okl q.2.1 q.2.2 = true := by decide +kernel
set_option maxRecDepth 100000 in
theorem kd_122 : ∀ q ∈ kc_122, decode (ip_bytes 122) q.1 = .ok (q.2.1, q.2.2) ∧ ip_okl q.2.1 q.2.2 = true := by decide +kernel
set_option maxRecDepth 100000 in
theorem kd_123 : ∀ q ∈ kc_123, decode (ip_bytes 123) q.1 = .ok (q.2.1, q.2.2) ∧ ip_okl q.2.1 q.2.2 = true := by decide +kernel
set_option maxRecDepth 100000 in
theorem kd_124 : ∀ q ∈ kc_124, decode (ip_bytes 124) q.1 = .ok (q.2.1, q.2.2) ∧ ip_okl q.2.1 q.2.2 = true := by decide +kernel
set_option maxRecDepth 100000 in
theorem kd_125 : ∀ q ∈ kc_125, decode (ip_bytes 125) q.1 = .ok (q.2.1, q.2.2) ∧ ip_okl q.2.1 q.2.2 = true := by decide +kernel
set_option maxRecDepth 100000 in
theorem kd_126 : ∀ q ∈ kc_126, decode (ip_bytes 126) q.1 = .ok (q.2.1, q.2.2) ∧ ip_okl q.2.1 q.2.2 = true := by decide +kernel
set_option maxRecDepth 100000 in
theorem kd_127 : ∀ q ∈ kc_127, decode (ip_bytes 127) q.1 = .ok (q.2.1, q.2.2) ∧ ip_okl q.2.1 q.2.2 = true := by decide +kernel
set_option maxRecDepth 100000 in
theorem kd_128 : ∀ q ∈ kc_128, decode (ip_bytes 128) q.1 = .ok (q.2.1, q.2.2) ∧ ip_okl q.2.1 q.2.2 = true := by decide +kernel
set_option maxRecDepth 100000 in
theorem kd_129 : ∀ q ∈ kc_129, decode (ip_bytes 129) q.1 = .ok (q.2.1, q.2.2) ∧ ip_okl q.2.1 q.2.2 = true := by decide +kernel
set_option maxRecDepth 100000 in
theorem kd_130 : ∀ q ∈ kc_130, decode (ip_bytes 130) q.1 = .ok (q.2.1, q.2.2) ∧ ip_okl q.2.1 q.2.2 = true := by decide +kernel
set_option maxRecDepth 100000 in
theorem kd_131 : ∀ q ∈ kc_131, decode (ip_bytes 131) q.1 = .ok (q.2.1, q.2.2) ∧ ip_okl q.2.1 q.2.2 = true := by decide +kernel
set_option maxRecDepth 100000 in
theorem kd_132 : ∀ q ∈ kc_132, decode (ip_bytes 132) q.1 = .ok (q.2.1, q.2.2) ∧ ip_okl q.2.1 q.2.2 = true := by decide +kernel
set_option maxRecDepth 100000 in
theorem kd_133 : ∀ q ∈ kc_133, decode (ip_bytes 133) q.1 = .ok (q.2.1, q.2.2) ∧ ip_okl q.2.1 q.2.2 = true := by decide +kernel
set_option maxRecDepth 100000 in
theorem kd_134 : ∀ q ∈ kc_134, decode (ip_bytes 134) q.1 = .ok (q.2.1, q.2.2) ∧ ip_okl q.2.1 q.2.2 = true := by decide +kernel
set_option maxRecDepth 100000 in
theorem kd_135 : ∀ q ∈ kc_135, decode (ip_bytes 135) q.1 = .ok (q.2.1, q.2.2) ∧ ip_okl q.2.1 q.2.2 = true := by decide +kernel
set_option maxRecDepth 100000 in
theorem kd_136 : ∀ q ∈ kc_136, decode (ip_bytes 136) q.1 = .ok (q.2.1, q.2.2) ∧ ip_okl q.2.1 q.2.2 = true := by decide +kernel
set_option maxRecDepth 100000 in
theorem kd_137 : ∀ q ∈ kc_137, decode (ip_bytes 137) q.1 = .ok (q.2.1, q.2.2) ∧ ip_okl q.2.1 q.2.2 = true := by decide +kernel
set_option maxRecDepth 100000 in
theorem kd_138 : ∀ q ∈ kc_138, decode (ip_bytes 138) q.1 = .ok (q.2.1, q.2.2) ∧ ip_okl q.2.1 q.2.2 = true := by decide +kernel
set_option maxRecDepth 100000 in
theorem kd_139 : ∀ q ∈ kc_139, decode (ip_bytes 139) q.1 = .ok (q.2.1, q.2.2) ∧ ip_okl q.2.1 q.2.2 = true := by decide +kernel
set_option maxRecDepth 100000 in
theorem kd_140 : ∀ q ∈ kc_140, decode (ip_bytes 140) q.1 = .ok (q.2.1, q.2.2) ∧ ip_okl q.2.1 q.2.2 = true := by decide +kernel
set_option maxRecDepth 100000 in
theorem kd_141 : ∀ q ∈ kc_141, decode (ip_bytes 141) q.1 = .ok (q.2.1, q.2.2) ∧ ip_okl q.2.1 q.2.2 = true := by decide +kernel
set_option maxRecDepth 100000 in
theorem kd_142 : ∀ q ∈ kc_142, decode (ip_bytes 142) q.1 = .ok (q.2.1, q.2.2) ∧ ip_okl q.2.1 q.2.2 = true := by decide +kernel
set_option maxRecDepth 100000 in
theorem kd_143 : ∀ q ∈ kc_143, decode (ip_bytes 143) q.1 = .ok (q.2.1, q.2.2) ∧ ip_okl q.2.1 q.2.2 = true := by decide +kernel
set_option maxRecDepth 100000 in
theorem kd_144 : ∀ q ∈ kc_144, decode (ip_bytes 144) q.1 = .ok (q.2.1, q.2.2) ∧ ip_okl q.2.1 q.2.2 = true := by decide +kernel
set_option maxRecDepth 100000 in
theorem kd_145 : ∀ q ∈ kc_145, decode (ip_bytes 145) q.1 = .ok (q.2.1, q.2.2) ∧ ip_okl q.2.1 q.2.2 = true := by decide +kernel
set_option maxRecDepth 100000 in
theorem kd_146 : ∀ q ∈ kc_146, decode (ip_bytes 146) q.1 = .ok (q.2.1, q.2.2) ∧ ip_okl q.2.1 q.2.2 = true := by decide +kernel
set_option maxRecDepth 100000 in
theorem kd_147 : ∀ q ∈ kc_147, decode (ip_bytes 147) q.1 = .ok (q.2.1, q.2.2) ∧ ip_okl q.2.1 q.2.2 = true := by decide +kernel
set_option maxRecDepth 100000 in
theorem kd_148 : ∀ q ∈ kc_148, decode (ip_bytes 148) q.1 = .ok (q.2.1, q.2.2) ∧ ip_okl q.2.1 q.2.2 = true := by decide +kernel
set_option maxRecDepth 100000 in
theorem kd_149 : ∀ q ∈ kc_149, decode (ip_bytes 149) q.1 = .ok (q.2.1, q.2.2) ∧ ip_okl q.2.1 q.2.2 = true := by decide +kernel
set_option maxRecDepth 100000 in
theorem kd_150 : ∀ q ∈ kc_150, decode (ip_bytes 150) q.1 = .ok (q.2.1, q.2.2) ∧ ip_okl q.2.1 q.2.2 = true := by decide +kernel
set_option maxRecDepth 100000 in
theorem kd_151 : ∀ q ∈ kc_151, decode (ip_bytes 151) q.1 = .ok (q.2.1, q.2.2) ∧ ip_okl q.2.1 q.2.2 = true := by decide +kernel
set_option maxRecDepth 100000 in
theorem kd_152 : ∀ q ∈ kc_152, decode (ip_bytes 152) q.1 = .ok (q.2.1, q.2.2) ∧ ip_okl q.2.1 q.2.2 = true := by decide +kernel
set_option maxRecDepth 100000 in
theorem kd_153 : ∀ q ∈ kc_153, decode (ip_bytes 153) q.1 = .ok (q.2.1, q.2.2) ∧ ip_okl q.2.1 q.2.2 = true := by decide +kernel
set_option maxRecDepth 100000 in
theorem kd_154 : ∀ q ∈ kc_154, decode (ip_bytes 154) q.1 = .ok (q.2.1, q.2.2) ∧ ip_okl q.2.1 q.2.2 = true := by decide +kernel
set_option maxRecDepth 100000 in
theorem kd_155 : ∀ q ∈ kc_155, decode (ip_bytes 155) q.1 = .ok (q.2.1, q.2.2) ∧ ip_okl q.2.1 q.2.2 = true := by decide +kernel
set_option maxRecDepth 100000 in
theorem kd_156 : ∀ q ∈ kc_156, decode (ip_bytes 156) q.1 = .ok (q.2.1, q.2.2) ∧ ip_okl q.2.1 q.2.2 = true := by decide +kernel
set_option maxRecDepth 100000 in
theorem kd_157 : ∀ q ∈ kc_157, decode (ip_bytes 157) q.1 = .ok (q.2.1, q.2.2) ∧ ip_okl q.2.1 q.2.2 = true := by decide +kernel
set_option maxRecDepth 100000 in
theorem kd_158 : ∀ q ∈ kc_158, decode (ip_bytes 158) q.1 = .ok (q.2.1, q.2.2) ∧ ip_okl q.2.1 q.2.2 = true := by decide +kernel
set_option maxRecDepth 100000 in
theorem kd_159 : ∀ q ∈ kc_159, decode (ip_bytes 159) q.1 = .ok (q.2.1, q.2.2) ∧ ip_okl q.2.1 q.2.2 = true := by decide +kernel
set_option maxRecDepth 100000 in
theorem kd_160 : ∀ q ∈ kc_160, decode (ip_bytes 160) q.1 = .ok (q.2.1, q.2.2) ∧ ip_okl q.2.1 q.2.2 = true := by decide +kernel
set_option maxRecDepth 100000 in
theorem kd_161 : ∀ q ∈ kc_161, decode (ip_bytes 161) q.1 = .ok (q.2.1, q.2.2) ∧ ip_okl q.2.1 q.2.2 = true := by decide +kernel
set_option maxRecDepth 100000 in
theorem kd_162 : ∀ q ∈ kc_162, decode (ip_bytes 162) q.1 = .ok (q.2.1, q.2.2) ∧ ip_okl q.2.1 q.2.2 = true := by decide +kernel
set_option maxRecDepth 100000 in
theorem kd_163 : ∀ q ∈ kc_163, decode (ip_bytes 163) q.1 = .ok (q.2.1, q.2.2) ∧ ip_okl q.2.1 q.2.2 = true := by decide +kernel
set_option maxRecDepth 100000 in
theorem kd_164 : ∀ q ∈ kc_164, decode (ip_bytes 164) q.1 = .ok (q.2.1, q.2.2) ∧ ip_okl q.2.1 q.2.2 = true := by decide +kernel
set_option maxRecDepth 100000 in
theorem kd_165 : ∀ q ∈ kc_165, decode (ip_bytes 165) q.1 = .ok (q.2.1, q.2.2) ∧ ip_okl q.2.1 q.2.2 = true := by decide +kernel
set_option maxRecDepth 100000 in
theorem kd_166 : ∀ q ∈ kc_166, decode (ip_bytes 166) q.1 = .ok (q.2.1, q.2.2) ∧ ip_okl q.2.1 q.2.2 = true := by decide +kernel
set_option maxRecDepth 100000 in
theorem kd_167 : ∀ q ∈ kc_167, decode (ip_bytes 167) q.1 = .ok (q.2.1, q.2.2) ∧ ip_okl q.2.1 q.2.2 = true := by decide +kernel
set_option maxRecDepth 100000 in
theorem kd_168 : ∀ q ∈ kc_168, decode (ip_bytes 168) q.1 = .ok (q.2.1, q.2.2) ∧ ip_okl q.2.1 q.2.2 = true := by decide +kernel
set_option maxRecDepth 100000 in
theorem kd_169 : ∀ q ∈ kc_169, decode (ip_bytes 169) q.1 = .ok (q.2.1, q.2.2) ∧ ip_okl q.2.1 q.2.2 = true := by decide +kernel
set_option maxRecDepth 100000 in
theorem kd_170 : ∀ q ∈ kc_170, decode (ip_bytes 170) q.1 = .ok (q.2.1, q.2.2) ∧ ip_okl q.2.1 q.2.2 = true := by decide +kernel
set_option maxRecDepth 100000 in
theorem kd_171 : ∀ q ∈ kc_171, decode (ip_bytes 171) q.1 = .ok (q.2.1, q.2.2) ∧ ip_okl q.2.1 q.2.2 = true := by decide +kernel
set_option maxRecDepth 100000 in
theorem kd_172 : ∀ q ∈ kc_172, decode (ip_bytes 172) q.1 = .ok (q.2.1, q.2.2) ∧ ip_okl q.2.1 q.2.2 = true := by decide +kernel
set_option maxRecDepth 100000 in
theorem kd_173 : ∀ q ∈ kc_173, decode (ip_bytes 173) q.1 = .ok (q.2.1, q.2.2) ∧ ip_okl q.2.1 q.2.2 = true := by decide +kernel
set_option maxRecDepth 100000 in
theorem kd_174 : ∀ q ∈ kc_174, decode (ip_bytes 174) q.1 = .ok (q.2.1, q.2.2) ∧ ip_okl q.2.1 q.2.2 = true := by decide +kernel
set_option maxRecDepth 100000 in
theorem kd_175 : ∀ q ∈ kc_175, decode (ip_bytes 175) q.1 = .ok (q.2.1, q.2.2) ∧ ip_okl q.2.1 q.2.2 = true := by decide +kernel
set_option maxRecDepth 100000 in
theorem kd_176 : ∀ q ∈ kc_176, decode (ip_bytes 176) q.1 = .ok (q.2.1, q.2.2) ∧ ip_okl q.2.1 q.2.2 = true := by decide +kernel
set_option maxRecDepth 100000 in
theorem kd_177 : ∀ q ∈ kc_177, decode (ip_bytes 177) q.1 = .ok (q.2.1, q.2.2) ∧ ip_okl q.2.1 q.2.2 = true := by decide +kernel
set_option maxRecDepth 100000 in
theorem kd_178 : ∀ q ∈ kc_178, decode (ip_bytes 178) q.1 = .ok (q.2.1, q.2.2) ∧ ip_okl q.2.1 q.2.2 = true := by decide +kernel
set_option maxRecDepth 100000 in
theorem kd_179 : ∀ q ∈ kc_179, decode (ip_bytes 179) q.1 = .ok (q.2.1, q.2.2) ∧ ip_okl q.2.1 q.2.2 = true := by decide +kernel
set_option maxRecDepth 100000 in
theorem kd_180 : ∀ q ∈ kc_180, decode (ip_bytes 180) q.1 = .ok (q.2.1, q.2.2) ∧ ip_okl q.2.1 q.2.2 = true := by decide +kernel
set_option maxRecDepth 100000 in
theorem kd_181 : ∀ q ∈ kc_181, decode (ip_bytes 181) q.1 = .ok (q.2.1, q.2.2) ∧ ip_okl q.2.1 q.2.2 = true := by decide +kernel
set_option maxRecDepth 100000 in
theorem kd_182 : ∀ q ∈ kc_182, decode (ip_bytes 182) q.1 = .ok (q.2.1, q.2.2) ∧ ip_okl q.2.1 q.2.2 = true := by decide +kernel
set_option maxRecDepth 100000 in
theorem kd_183 : ∀ q ∈ kc_183, decode (ip_bytes 183) q.1 = .ok (q.2.1, q.2.2) ∧ ip_okl q.2.1 q.2.2 = true := by decide +kernel
set_option maxRecDepth 100000 in
theorem kd_184 : ∀ q ∈ kc_184, decode (ip_bytes 184) q.1 = .ok (q.2.1, q.2.2) ∧ ip_okl q.2.1 q.2.2 = true := by decide +kernel
set_option maxRecDepth 100000 in
theorem kd_185 : ∀ q ∈ kc_185, decode (ip_bytes 185) q.1 = .ok (q.2.1, q.2.2) ∧ ip_okl q.2.1 q.2.2 = true := by decide +kernel
set_option maxRecDepth 100000 in
theorem kd_186 : ∀ q ∈ kc_186, decode (ip_bytes 186) q.1 = .ok (q.2.1, q.2.2) ∧ ip_okl q.2.1 q.2.2 = true := by decide +kernel
set_option maxRecDepth 100000 in
theorem kd_187 : ∀ q ∈ kc_187, decode (ip_bytes 187) q.1 = .ok (q.2.1, q.2.2) ∧ ip_okl q.2.1 q.2.2 = true := by decide +kernel
set_option maxRecDepth 100000 in
theorem kd_188 : ∀ q ∈ kc_188, decode (ip_bytes 188) q.1 = .ok (q.2.1, q.2.2) ∧ ip_okl q.2.1 q.2.2 = true := by decide +kernel
set_option maxRecDepth 100000 in
theorem kd_189 : ∀ q ∈ kc_189, decode (ip_bytes 189) q.1 = .ok (q.2.1, q.2.2) ∧ ip_okl q.2.1 q.2.2 = true := by decide +kernel
set_option maxRecDepth 100000 in
theorem kd_190 : ∀ q ∈ kc_190, decode (ip_bytes 190) q.1 = .ok (q.2.1, q.2.2) ∧ ip_okl q.2.1 q.2.2 = true := by decide +kernel
set_option maxRecDepth 100000 in
theorem kd_191 : ∀ q ∈ kc_191, decode (ip_bytes 191) q.1 = .ok (q.2.1, q.2.2) ∧ ip_okl q.2.1 q.2.2 = true := by decide +kernel
set_option maxRecDepth 100000 in
theorem kd_192 : ∀ q ∈ kc_192, decode (ip_bytes 192) q.1 = .ok (q.2.1, q.2.2) ∧ ip_okl q.2.1 q.2.2 = true := by decide +kernel
set_option maxRecDepth 100000 in
theorem kd_193 : ∀ q ∈ kc_193, decode (ip_bytes 193) q.1 = .ok (q.2.1, q.2.2) ∧ ip_okl q.2.1 q.2.2 = true := by decide +kernel
set_option maxRecDepth 100000 in
theorem kd_194 : ∀ q ∈ kc_194, decode (ip_bytes 194) q.1 = .ok (q.2.1, q.2.2) ∧ ip_okl q.2.1 q.2.2 = true := by decide +kernel
set_option maxRecDepth 100000 in
theorem kd_195 : ∀ q ∈ kc_195, decode (ip_bytes 195) q.1 = .ok (q.2.1, q.2.2) ∧ ip_okl q.2.1 q.2.2 = true := by decide +kernel
set_option maxRecDepth 100000 in
theorem kd_196 : ∀ q ∈ kc_196, decode (ip_bytes 196) q.1 = .ok (q.2.1, q.2.2) ∧ ip_okl q.2.1 q.2.2 = true := by decide +kernel
set_option maxRecDepth 100000 in
theorem kd_197 : ∀ q ∈ kc_197, decode (ip_bytes 197) q.1 = .ok (q.2.1, q.2.2) ∧ ip_okl q.2.1 q.2.2 = true := by decide +kernel
set_option maxRecDepth 100000 in
theorem kd_198 : ∀ q ∈ kc_198, decode (ip_bytes 198) q.1 = .ok (q.2.1, q.2.2) ∧ ip_okl q.2.1 q.2.2 = true := by decide +kernel
set_option maxRecDepth 100000 in
theorem kd_199 : ∀ q ∈ kc_199, decode (ip_bytes 199) q.1 = .ok (q.2.1, q.2.2) ∧ ip_okl q.2.1 q.2.2 = true := by decide +kernel
set_option maxRecDepth 100000 in
theorem kd_200 : ∀ q ∈ kc_200, decode (ip_bytes 200) q.1 = .ok (q.2.1, q.2.2) ∧ ip_okl q.2.1 q.2.2 = true := by decide +kernel
set_option maxRecDepth 100000 in
theorem kd_201 : ∀ q ∈ kc_201, decode (ip_bytes 201) q.1 = .ok (q.2.1, q.2.2) ∧ ip_okl q.2.1 q.2.2 = true := by decide +kernel
set_option maxRecDepth 100000 in
theorem kd_202 : ∀ q ∈ kc_202, decode (ip_bytes 202) q.1 = .ok (q.2.1, q.2.2) ∧ ip_okl q.2.1 q.2.2 = true := by decide +kernel
set_option maxRecDepth 100000 in
theorem kd_203 : ∀ q ∈ kc_203, decode (ip_bytes 203) q.1 = .ok (q.2.1, q.2.2) ∧ ip_okl q.2.1 q.2.2 = true := by decide +kernel
set_option maxRecDepth 100000 in
theorem kd_204 : ∀ q ∈ kc_204, decode (ip_bytes 204) q.1 = .ok (q.2.1, q.2.2) ∧ ip_okl q.2.1 q.2.2 = true := by decide +kernel
set_option maxRecDepth 100000 in
theorem kd_205 : ∀ q ∈ kc_205, decode (ip_bytes 205) q.1 = .ok (q.2.1, q.2.2) ∧ ip_okl q.2.1 q.2.2 = true := by decide +kernel
set_option maxRecDepth 100000 in
theorem kd_206 : ∀ q ∈ kc_206, decode (ip_bytes 206) q.1 = .ok (q.2.1, q.2.2) ∧ ip_okl q.2.1 q.2.2 = true := by decide +kernel
set_option maxRecDepth 100000 in
theorem kd_207 : ∀ q ∈ kc_207, decode (ip_bytes 207) q.1 = .ok (q.2.1, q.2.2) ∧ ip_okl q.2.1 q.2.2 = true := by decide +kernel
set_option maxRecDepth 100000 in
theorem kd_208 : ∀ q ∈ kc_208, decode (ip_bytes 208) q.1 = .ok (q.2.1, q.2.2) ∧ ip_okl q.2.1 q.2.2 = true := by decide +kernel
