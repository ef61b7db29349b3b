/-! methods: code, links, rooms -/
theorem kq_0 : ip_code 0 = kc_0 := rfl
theorem kx_0 : ∀ q ∈ ip_code 0, decode (ip_bytes 0) q.1 = .ok (q.2.1, q.2.2) ∧ ip_okl q.2.1 q.2.2 = true := by rw [kq_0]; exact kd_0
theorem kq_1 : ip_code 1 = kc_1 := rfl
theorem kx_1 : ∀ q ∈ ip_code 1, decode (ip_bytes 1) q.1 = .ok (q.2.1, q.2.2) ∧ ip_okl q.2.1 q.2.2 = true := by rw [kq_1]; exact kd_1
theorem kq_2 : ip_code 2 = kc_2 := rfl
theorem kx_2 : ∀ q ∈ ip_code 2, decode (ip_bytes 2) q.1 = .ok (q.2.1, q.2.2) ∧ ip_okl q.2.1 q.2.2 = true := by rw [kq_2]; exact kd_2
theorem kq_3 : ip_code 3 = kc_3 := rfl
theorem kx_3 : ∀ q ∈ ip_code 3, decode (ip_bytes 3) q.1 = .ok (q.2.1, q.2.2) ∧ ip_okl q.2.1 q.2.2 = true := by rw [kq_3]; exact kd_3
theorem kq_4 : ip_code 4 = kc_4 := rfl
theorem kx_4 : ∀ q ∈ ip_code 4, decode (ip_bytes 4) q.1 = .ok (q.2.1, q.2.2) ∧ ip_okl q.2.1 q.2.2 = true := by rw [kq_4]; exact kd_4
theorem kq_5 : ip_code 5 = kc_5 := rfl
theorem kx_5 : ∀ q ∈ ip_code 5, decode (ip_bytes 5) q.1 = .ok (q.2.1, q.2.2) ∧ ip_okl q.2.1 q.2.2 = true := by rw [kq_5]; exact kd_5
theorem kq_6 : ip_code 6 = kc_6 := rfl
theorem kx_6 : ∀ q ∈ ip_code 6, decode (ip_bytes 6) q.1 = .ok (q.2.1, q.2.2) ∧ ip_okl q.2.1 q.2.2 = true := by rw [kq_6]; exact kd_6
theorem kq_7 : ip_code 7 = kc_7 := rfl
theorem kx_7 : ∀ q ∈ ip_code 7, decode (ip_bytes 7) q.1 = .ok (q.2.1, q.2.2) ∧ ip_okl q.2.1 q.2.2 = true := by rw [kq_7]; exact kd_7
theorem kq_8 : ip_code 8 = kc_8 := rfl
theorem kx_8 : ∀ q ∈ ip_code 8, decode (ip_bytes 8) q.1 = .ok (q.2.1, q.2.2) ∧ ip_okl q.2.1 q.2.2 = true := by rw [kq_8]; exact kd_8
theorem kq_9 : ip_code 9 = kc_9 := rfl
theorem kx_9 : ∀ q ∈ ip_code 9, decode (ip_bytes 9) q.1 = .ok (q.2.1, q.2.2) ∧ ip_okl q.2.1 q.2.2 = true := by rw [kq_9]; exact kd_9
theorem kq_10 : ip_code 10 = kc_10 := rfl
theorem kx_10 : ∀ q ∈ ip_code 10, decode (ip_bytes 10) q.1 = .ok (q.2.1, q.2.2) ∧ ip_okl q.2.1 q.2.2 = true := by rw [kq_10]; exact kd_10
theorem kq_11 : ip_code 11 = kc_11 := rfl
theorem kx_11 : ∀ q ∈ ip_code 11, decode (ip_bytes 11) q.1 = .ok (q.2.1, q.2.2) ∧ ip_okl q.2.1 q.2.2 = true := by rw [kq_11]; exact kd_11
theorem kq_12 : ip_code 12 = kc_12 := rfl
theorem kx_12 : ∀ q ∈ ip_code 12, decode (ip_bytes 12) q.1 = .ok (q.2.1, q.2.2) ∧ ip_okl q.2.1 q.2.2 = true := by rw [kq_12]; exact kd_12
theorem kq_13 : ip_code 13 = kc_13 := rfl
theorem kx_13 : ∀ q ∈ ip_code 13, decode (ip_bytes 13) q.1 = .ok (q.2.1, q.2.2) ∧ ip_okl q.2.1 q.2.2 = true := by rw [kq_13]; exact kd_13
theorem kq_14 : ip_code 14 = kc_14 := rfl
theorem kx_14 : ∀ q ∈ ip_code 14, decode (ip_bytes 14) q.1 = .ok (q.2.1, q.2.2) ∧ ip_okl q.2.1 q.2.2 = true := by rw [kq_14]; exact kd_14
theorem kq_15 : ip_code 15 = kc_15 := rfl
theorem kx_15 : ∀ q ∈ ip_code 15, decode (ip_bytes 15) q.1 = .ok (q.2.1, q.2.2) ∧ ip_okl q.2.1 q.2.2 = true := by rw [kq_15]; exact kd_15
theorem kq_16 : ip_code 16 = kc_16 := rfl
theorem kx_16 : ∀ q ∈ ip_code 16, decode (ip_bytes 16) q.1 = .ok (q.2.1, q.2.2) ∧ ip_okl q.2.1 q.2.2 = true := by rw [kq_16]; exact kd_16
theorem kq_17 : ip_code 17 = kc_17 := rfl
theorem kx_17 : ∀ q ∈ ip_code 17, decode (ip_bytes 17) q.1 = .ok (q.2.1, q.2.2) ∧ ip_okl q.2.1 q.2.2 = true := by rw [kq_17]; exact kd_17
theorem kq_18 : ip_code 18 = kc_18 := rfl
theorem kx_18 : ∀ q ∈ ip_code 18, decode (ip_bytes 18) q.1 = .ok (q.2.1, q.2.2) ∧ ip_okl q.2.1 q.2.2 = true := by rw [kq_18]; exact kd_18
theorem kq_19 : ip_code 19 = kc_19 := rfl
theorem kx_19 : ∀ q ∈ ip_code 19, decode (ip_bytes 19) q.1 = .ok (q.2.1, q.2.2) ∧ ip_okl q.2.1 q.2.2 = true := by rw [kq_19]; exact kd_19
theorem kq_20 : ip_code 20 = kc_20 := rfl
theorem kx_20 : ∀ q ∈ ip_code 20, decode (ip_bytes 20) q.1 = .ok (q.2.1, q.2.2) ∧ ip_okl q.2.1 q.2.2 = true := by rw [kq_20]; exact kd_20
theorem kq_21 : ip_code 21 = kc_21 := rfl
theorem kx_21 : ∀ q ∈ ip_code 21, decode (ip_bytes 21) q.1 = .ok (q.2.1, q.2.2) ∧ ip_okl q.2.1 q.2.2 = true := by rw [kq_21]; exact kd_21
theorem kq_22 : ip_code 22 = kc_22 := rfl
theorem kx_22 : ∀ q ∈ ip_code 22, decode (ip_bytes 22) q.1 = .ok (q.2.1, q.2.2) ∧ ip_okl q.2.1 q.2.2 = true := by rw [kq_22]; exact kd_22
theorem kq_23 : ip_code 23 = kc_23 := rfl
theorem kx_23 : ∀ q ∈ ip_code 23, decode (ip_bytes 23) q.1 = .ok (q.2.1, q.2.2) ∧ ip_okl q.2.1 q.2.2 = true := by rw [kq_23]; exact kd_23
theorem kq_24 : ip_code 24 = kc_24 := rfl
theorem kx_24 : ∀ q ∈ ip_code 24, decode (ip_bytes 24) q.1 = .ok (q.2.1, q.2.2) ∧ ip_okl q.2.1 q.2.2 = true := by rw [kq_24]; exact kd_24
theorem kq_25 : ip_code 25 = kc_25 := rfl
theorem kx_25 : ∀ q ∈ ip_code 25, decode (ip_bytes 25) q.1 = .ok (q.2.1, q.2.2) ∧ ip_okl q.2.1 q.2.2 = true := by rw [kq_25]; exact kd_25
theorem kq_26 : ip_code 26 = kc_26 := rfl
theorem kx_26 : ∀ q ∈ ip_code 26, decode (ip_bytes 26) q.1 = .ok (q.2.1, q.2.2) ∧ ip_okl q.2.1 q.2.2 = true := by rw [kq_26]; exact kd_26
theorem kq_27 : ip_code 27 = kc_27 := rfl
theorem kx_27 : ∀ q ∈ ip_code 27, decode (ip_bytes 27) q.1 = .ok (q.2.1, q.2.2) ∧ ip_okl q.2.1 q.2.2 = true := by rw [kq_27]; exact kd_27
theorem kq_28 : ip_code 28 = kc_28 := rfl
theorem kx_28 : ∀ q ∈ ip_code 28, decode (ip_bytes 28) q.1 = .ok (q.2.1, q.2.2) ∧ ip_okl q.2.1 q.2.2 = true := by rw [kq_28]; exact kd_28
theorem kq_29 : ip_code 29 = kc_29 := rfl
theorem kx_29 : ∀ q ∈ ip_code 29, decode (ip_bytes 29) q.1 = .ok (q.2.1, q.2.2) ∧ ip_okl q.2.1 q.2.2 = true := by rw [kq_29]; exact kd_29
theorem kq_30 : ip_code 30 = kc_30 := rfl
theorem kx_30 : ∀ q ∈ ip_code 30, decode (ip_bytes 30) q.1 = .ok (q.2.1, q.2.2) ∧ ip_okl q.2.1 q.2.2 = true := by rw [kq_30]; exact kd_30
theorem kq_31 : ip_code 31 = kc_31 := rfl
theorem kx_31 : ∀ q ∈ ip_code 31, decode (ip_bytes 31) q.1 = .ok (q.2.1, q.2.2) ∧ ip_okl q.2.1 q.2.2 = true := by rw [kq_31]; exact kd_31
theorem kq_32 : ip_code 32 = kc_32 := rfl
theorem kx_32 : ∀ q ∈ ip_code 32, decode (ip_bytes 32) q.1 = .ok (q.2.1, q.2.2) ∧ ip_okl q.2.1 q.2.2 = true := by rw [kq_32]; exact kd_32
theorem kq_33 : ip_code 33 = kc_33 := rfl
theorem kx_33 : ∀ q ∈ ip_code 33, decode (ip_bytes 33) q.1 = .ok (q.2.1, q.2.2) ∧ ip_okl q.2.1 q.2.2 = true := by rw [kq_33]; exact kd_33
theorem kq_34 : ip_code 34 = kc_34 := rfl
theorem kx_34 : ∀ q ∈ ip_code 34, decode (ip_bytes 34) q.1 = .ok (q.2.1, q.2.2) ∧ ip_okl q.2.1 q.2.2 = true := by rw [kq_34]; exact kd_34
theorem kq_35 : ip_code 35 = kc_35 := rfl
theorem kx_35 : ∀ q ∈ ip_code 35, decode (ip_bytes 35) q.1 = .ok (q.2.1, q.2.2) ∧ ip_okl q.2.1 q.2.2 = true := by rw [kq_35]; exact kd_35
theorem kq_36 : ip_code 36 = kc_36 := rfl
theorem kx_36 : ∀ q ∈ ip_code 36, decode (ip_bytes 36) q.1 = .ok (q.2.1, q.2.2) ∧ ip_okl q.2.1 q.2.2 = true := by rw [kq_36]; exact kd_36
theorem kq_37 : ip_code 37 = kc_37 := rfl
theorem kx_37 : ∀ q ∈ ip_code 37, decode (ip_bytes 37) q.1 = .ok (q.2.1, q.2.2) ∧ ip_okl q.2.1 q.2.2 = true := by rw [kq_37]; exact kd_37
theorem kq_38 : ip_code 38 = kc_38 := rfl
theorem kx_38 : ∀ q ∈ ip_code 38, decode (ip_bytes 38) q.1 = .ok (q.2.1, q.2.2) ∧ ip_okl q.2.1 q.2.2 = true := by rw [kq_38]; exact kd_38
theorem kq_39 : ip_code 39 = kc_39 := rfl
theorem kx_39 : ∀ q ∈ ip_code 39, decode (ip_bytes 39) q.1 = .ok (q.2.1, q.2.2) ∧ ip_okl q.2.1 q.2.2 = true := by rw [kq_39]; exact kd_39
theorem kq_40 : ip_code 40 = kc_40 := rfl
theorem kx_40 : ∀ q ∈ ip_code 40, decode (ip_bytes 40) q.1 = .ok (q.2.1, q.2.2) ∧ ip_okl q.2.1 q.2.2 = true := by rw [kq_40]; exact kd_40
theorem kq_41 : ip_code 41 = kc_41 := rfl
theorem kx_41 : ∀ q ∈ ip_code 41, decode (ip_bytes 41) q.1 = .ok (q.2.1, q.2.2) ∧ ip_okl q.2.1 q.2.2 = true := by rw [kq_41]; exact kd_41
theorem kq_42 : ip_code 42 = kc_42 := rfl
theorem kx_42 : ∀ q ∈ ip_code 42, decode (ip_bytes 42) q.1 = .ok (q.2.1, q.2.2) ∧ ip_okl q.2.1 q.2.2 = true := by rw [kq_42]; exact kd_42
theorem kq_43 : ip_code 43 = kc_43 := rfl
theorem kx_43 : ∀ q ∈ ip_code 43, decode (ip_bytes 43) q.1 = .ok (q.2.1, q.2.2) ∧ ip_okl q.2.1 q.2.2 = true := by rw [kq_43]; exact kd_43
theorem kq_44 : ip_code 44 = kc_44 := rfl
theorem kx_44 : ∀ q ∈ ip_code 44, decode (ip_bytes 44) q.1 = .ok (q.2.1, q.2.2) ∧ ip_okl q.2.1 q.2.2 = true := by rw [kq_44]; exact kd_44
theorem kq_45 : ip_code 45 = kc_45 := rfl
theorem kx_45 : ∀ q ∈ ip_code 45, decode (ip_bytes 45) q.1 = .ok (q.2.1, q.2.2) ∧ ip_okl q.2.1 q.2.2 = true := by rw [kq_45]; exact kd_45
theorem kq_46 : ip_code 46 = kc_46 := rfl
theorem kx_46 : ∀ q ∈ ip_code 46, decode (ip_bytes 46) q.1 = .ok (q.2.1, q.2.2) ∧ ip_okl q.2.1 q.2.2 = true := by rw [kq_46]; exact kd_46
theorem kq_47 : ip_code 47 = kc_47 := rfl
theorem kx_47 : ∀ q ∈ ip_code 47, decode (ip_bytes 47) q.1 = .ok (q.2.1, q.2.2) ∧ ip_okl q.2.1 q.2.2 = true := by rw [kq_47]; exact kd_47
theorem kq_48 : ip_code 48 = kc_48 := rfl
theorem kx_48 : ∀ q ∈ ip_code 48, decode (ip_bytes 48) q.1 = .ok (q.2.1, q.2.2) ∧ ip_okl q.2.1 q.2.2 = true := by rw [kq_48]; exact kd_48
theorem kq_49 : ip_code 49 = kc_49 := rfl
theorem kx_49 : ∀ q ∈ ip_code 49, decode (ip_bytes 49) q.1 = .ok (q.2.1, q.2.2) ∧ ip_okl q.2.1 q.2.2 = true := by rw [kq_49]; exact kd_49
theorem kq_50 : ip_code 50 = kc_50 := rfl
theorem kx_50 : ∀ q ∈ ip_code 50, decode (ip_bytes 50) q.1 = .ok (q.2.1, q.2.2) ∧ ip_okl q.2.1 q.2.2 = true := by rw [kq_50]; exact kd_50
theorem kq_51 : ip_code 51 = kc_51 := rfl
theorem kx_51 : ∀ q ∈ ip_code 51, decode (ip_bytes 51) q.1 = .ok (q.2.1, q.2.2) ∧ ip_okl q.2.1 q.2.2 = true := by rw [kq_51]; exact kd_51
theorem kq_52 : ip_code 52 = kc_52 := rfl
theorem kx_52 : ∀ q ∈ ip_code 52, decode (ip_bytes 52) q.1 = .ok (q.2.1, q.2.2) ∧ ip_okl q.2.1 q.2.2 = true := by rw [kq_52]; exact kd_52
theorem kq_53 : ip_code 53 = kc_53 := rfl
theorem kx_53 : ∀ q ∈ ip_code 53, decode (ip_bytes 53) q.1 = .ok (q.2.1, q.2.2) ∧ ip_okl q.2.1 q.2.2 = true := by rw [kq_53]; exact kd_53
theorem kq_54 : ip_code 54 = kc_54 := rfl
theorem kx_54 : ∀ q ∈ ip_code 54, decode (ip_bytes 54) q.1 = .ok (q.2.1, q.2.2) ∧ ip_okl q.2.1 q.2.2 = true := by rw [kq_54]; exact kd_54
theorem kq_55 : ip_code 55 = kc_55 := rfl
theorem kx_55 : ∀ q ∈ ip_code 55, decode (ip_bytes 55) q.1 = .ok (q.2.1, q.2.2) ∧ ip_okl q.2.1 q.2.2 = true := by rw [kq_55]; exact kd_55
theorem kq_56 : ip_code 56 = kc_56 := rfl
theorem kx_56 : ∀ q ∈ ip_code 56, decode (ip_bytes 56) q.1 = .ok (q.2.1, q.2.2) ∧ ip_okl q.2.1 q.2.2 = true := by rw [kq_56]; exact kd_56
theorem kq_57 : ip_code 57 = kc_57 := rfl
theorem kx_57 : ∀ q ∈ ip_code 57, decode (ip_bytes 57) q.1 = .ok (q.2.1, q.2.2) ∧ ip_okl q.2.1 q.2.2 = true := by rw [kq_57]; exact kd_57
theorem kq_58 : ip_code 58 = kc_58 := rfl
theorem kx_58 : ∀ q ∈ ip_code 58, decode (ip_bytes 58) q.1 = .ok (q.2.1, q.2.2) ∧ ip_okl q.2.1 q.2.2 = true := by rw [kq_58]; exact kd_58
theorem kq_59 : ip_code 59 = kc_59 := rfl
theorem kx_59 : ∀ q ∈ ip_code 59, decode (ip_bytes 59) q.1 = .ok (q.2.1, q.2.2) ∧ ip_okl q.2.1 q.2.2 = true := by rw [kq_59]; exact kd_59
theorem kq_60 : ip_code 60 = kc_60 := rfl
theorem kx_60 : ∀ q ∈ ip_code 60, decode (ip_bytes 60) q.1 = .ok (q.2.1, q.2.2) ∧ ip_okl q.2.1 q.2.2 = true := by rw [kq_60]; exact kd_60
theorem kq_61 : ip_code 61 = kc_61 := rfl
theorem kx_61 : ∀ q ∈ ip_code 61, decode (ip_bytes 61) q.1 = .ok (q.2.1, q.2.2) ∧ ip_okl q.2.1 q.2.2 = true := by rw [kq_61]; exact kd_61
theorem kq_62 : ip_code 62 = kc_62 := rfl
theorem kx_62 : ∀ q ∈ ip_code 62, decode (ip_bytes 62) q.1 = .ok (q.2.1, q.2.2) ∧ ip_okl q.2.1 q.2.2 = true := by rw [kq_62]; exact kd_62
theorem kq_63 : ip_code 63 = kc_63 := rfl
theorem kx_63 : ∀ q ∈ ip_code 63, decode (ip_bytes 63) q.1 = .ok (q.2.1, q.2.2) ∧ ip_okl q.2.1 q.2.2 = true := by rw [kq_63]; exact kd_63
theorem kq_64 : ip_code 64 = kc_64 := rfl
theorem kx_64 : ∀ q ∈ ip_code 64, decode (ip_bytes 64) q.1 = .ok (q.2.1, q.2.2) ∧ ip_okl q.2.1 q.2.2 = true := by rw [kq_64]; exact kd_64
theorem kq_65 : ip_code 65 = kc_65 := rfl
theorem kx_65 : ∀ q ∈ ip_code 65, decode (ip_bytes 65) q.1 = .ok (q.2.1, q.2.2) ∧ ip_okl q.2.1 q.2.2 = true := by rw [kq_65]; exact kd_65
theorem kq_66 : ip_code 66 = kc_66 := rfl
theorem kx_66 : ∀ q ∈ ip_code 66, decode (ip_bytes 66) q.1 = .ok (q.2.1, q.2.2) ∧ ip_okl q.2.1 q.2.2 = true := by rw [kq_66]; exact kd_66
theorem kq_67 : ip_code 67 = kc_67 := rfl
theorem kx_67 : ∀ q ∈ ip_code 67, decode (ip_bytes 67) q.1 = .ok (q.2.1, q.2.2) ∧ ip_okl q.2.1 q.2.2 = true := by rw [kq_67]; exact kd_67
theorem kq_68 : ip_code 68 = kc_68 := rfl
theorem kx_68 : ∀ q ∈ ip_code 68, decode (ip_bytes 68) q.1 = .ok (q.2.1, q.2.2) ∧ ip_okl q.2.1 q.2.2 = true := by rw [kq_68]; exact kd_68
theorem kq_69 : ip_code 69 = kc_69 := rfl
theorem kx_69 : ∀ q ∈ ip_code 69, decode (ip_bytes 69) q.1 = .ok (q.2.1, q.2.2) ∧ ip_okl q.2.1 q.2.2 = true := by rw [kq_69]; exact kd_69
theorem kq_70 : ip_code 70 = kc_70 := rfl
theorem kx_70 : ∀ q ∈ ip_code 70, decode (ip_bytes 70) q.1 = .ok (q.2.1, q.2.2) ∧ ip_okl q.2.1 q.2.2 = true := by rw [kq_70]; exact kd_70
theorem kq_71 : ip_code 71 = kc_71 := rfl
theorem kx_71 : ∀ q ∈ ip_code 71, decode (ip_bytes 71) q.1 = .ok (q.2.1, q.2.2) ∧ ip_okl q.2.1 q.2.2 = true := by rw [kq_71]; exact kd_71
theorem kq_72 : ip_code 72 = kc_72 := rfl
theorem kx_72 : ∀ q ∈ ip_code 72, decode (ip_bytes 72) q.1 = .ok (q.2.1, q.2.2) ∧ ip_okl q.2.1 q.2.2 = true := by rw [kq_72]; exact kd_72
theorem kq_73 : ip_code 73 = kc_73 := rfl
theorem kx_73 : ∀ q ∈ ip_code 73, decode (ip_bytes 73) q.1 = .ok (q.2.1, q.2.2) ∧ ip_okl q.2.1 q.2.2 = true := by rw [kq_73]; exact kd_73
theorem kq_74 : ip_code 74 = kc_74 := rfl
theorem kx_74 : ∀ q ∈ ip_code 74, decode (ip_bytes 74) q.1 = .ok (q.2.1, q.2.2) ∧ ip_okl q.2.1 q.2.2 = true := by rw [kq_74]; exact kd_74
theorem kq_75 : ip_code 75 = kc_75 := rfl
theorem kx_75 : ∀ q ∈ ip_code 75, decode (ip_bytes 75) q.1 = .ok (q.2.1, q.2.2) ∧ ip_okl q.2.1 q.2.2 = true := by rw [kq_75]; exact kd_75
theorem kq_76 : ip_code 76 = kc_76 := rfl
theorem kx_76 : ∀ q ∈ ip_code 76, decode (ip_bytes 76) q.1 = .ok (q.2.1, q.2.2) ∧ ip_okl q.2.1 q.2.2 = true := by rw [kq_76]; exact kd_76
theorem kq_77 : ip_code 77 = kc_77 := rfl
theorem kx_77 : ∀ q ∈ ip_code 77, decode (ip_bytes 77) q.1 = .ok (q.2.1, q.2.2) ∧ ip_okl q.2.1 q.2.2 = true := by rw [kq_77]; exact kd_77
theorem kq_78 : ip_code 78 = kc_78 := rfl
theorem kx_78 : ∀ q ∈ ip_code 78, decode (ip_bytes 78) q.1 = .ok (q.2.1, q.2.2) ∧ ip_okl q.2.1 q.2.2 = true := by rw [kq_78]; exact kd_78
theorem kq_79 : ip_code 79 = kc_79 := rfl
theorem kx_79 : ∀ q ∈ ip_code 79, decode (ip_bytes 79) q.1 = .ok (q.2.1, q.2.2) ∧ ip_okl q.2.1 q.2.2 = true := by rw [kq_79]; exact kd_79
theorem kq_80 : ip_code 80 = kc_80 := rfl
theorem kx_80 : ∀ q ∈ ip_code 80, decode (ip_bytes 80) q.1 = .ok (q.2.1, q.2.2) ∧ ip_okl q.2.1 q.2.2 = true := by rw [kq_80]; exact kd_80
theorem kq_81 : ip_code 81 = kc_81 := rfl
theorem kx_81 : ∀ q ∈ ip_code 81, decode (ip_bytes 81) q.1 = .ok (q.2.1, q.2.2) ∧ ip_okl q.2.1 q.2.2 = true := by rw [kq_81]; exact kd_81
theorem kq_82 : ip_code 82 = kc_82 := rfl
theorem kx_82 : ∀ q ∈ ip_code 82, decode (ip_bytes 82) q.1 = .ok (q.2.1, q.2.2) ∧ ip_okl q.2.1 q.2.2 = true := by rw [kq_82]; exact kd_82
theorem kq_83 : ip_code 83 = kc_83 := rfl
theorem kx_83 : ∀ q ∈ ip_code 83, decode (ip_bytes 83) q.1 = .ok (q.2.1, q.2.2) ∧ ip_okl q.2.1 q.2.2 = true := by rw [kq_83]; exact kd_83
theorem kq_84 : ip_code 84 = kc_84 := rfl
theorem kx_84 : ∀ q ∈ ip_code 84, decode (ip_bytes 84) q.1 = .ok (q.2.1, q.2.2) ∧ ip_okl q.2.1 q.2.2 = true := by rw [kq_84]; exact kd_84
theorem kq_85 : ip_code 85 = kc_85 := rfl
theorem kx_85 : ∀ q ∈ ip_code 85, decode (ip_bytes 85) q.1 = .ok (q.2.1, q.2.2) ∧ ip_okl q.2.1 q.2.2 = true := by rw [kq_85]; exact kd_85
theorem kq_86 : ip_code 86 = kc_86 := rfl
theorem kx_86 : ∀ q ∈ ip_code 86, decode (ip_bytes 86) q.1 = .ok (q.2.1, q.2.2) ∧ ip_okl q.2.1 q.2.2 = true := by rw [kq_86]; exact kd_86
theorem kq_87 : ip_code 87 = kc_87 := rfl
theorem kx_87 : ∀ q ∈ ip_code 87, decode (ip_bytes 87) q.1 = .ok (q.2.1, q.2.2) ∧ ip_okl q.2.1 q.2.2 = true := by rw [kq_87]; exact kd_87
theorem kq_88 : ip_code 88 = kc_88 := rfl
theorem kx_88 : ∀ q ∈ ip_code 88, decode (ip_bytes 88) q.1 = .ok (q.2.1, q.2.2) ∧ ip_okl q.2.1 q.2.2 = true := by rw [kq_88]; exact kd_88
theorem kq_89 : ip_code 89 = kc_89 := rfl
theorem kx_89 : ∀ q ∈ ip_code 89, decode (ip_bytes 89) q.1 = .ok (q.2.1, q.2.2) ∧ ip_okl q.2.1 q.2.2 = true := by rw [kq_89]; exact kd_89
theorem kq_90 : ip_code 90 = kc_90 := rfl
theorem kx_90 : ∀ q ∈ ip_code 90, decode (ip_bytes 90) q.1 = .ok (q.2.1, q.2.2) ∧ ip_okl q.2.1 q.2.2 = true := by rw [kq_90]; exact kd_90
theorem kq_91 : ip_code 91 = kc_91 := rfl
theorem kx_91 : ∀ q ∈ ip_code 91, decode (ip_bytes 91) q.1 = .ok (q.2.1, q.2.2) ∧ ip_okl q.2.1 q.2.2 = true := by rw [kq_91]; exact kd_91
theorem kq_92 : ip_code 92 = kc_92 := rfl
theorem kx_92 : ∀ q ∈ ip_code 92, decode (ip_bytes 92) q.1 = .ok (q.2.1, q.2.2) ∧ ip_okl q.2.1 q.2.2 = true := by rw [kq_92]; exact kd_92
theorem kq_93 : ip_code 93 = kc_93 := rfl
theorem kx_93 : ∀ q ∈ ip_code 93, decode (ip_bytes 93) q.1 = .ok (q.2.1, q.2.2) ∧ ip_okl q.2.1 q.2.2 = true := by rw [kq_93]; exact kd_93
theorem kq_94 : ip_code 94 = kc_94 := rfl
theorem kx_94 : ∀ q ∈ ip_code 94, decode (ip_bytes 94) q.1 = .ok (q.2.1, q.2.2) ∧ ip_okl q.2.1 q.2.2 = true := by rw [kq_94]; exact kd_94
theorem kq_95 : ip_code 95 = kc_95 := rfl
theorem kx_95 : ∀ q ∈ ip_code 95, decode (ip_bytes 95) q.1 = .ok (q.2.1, q.2.2) ∧ ip_okl q.2.1 q.2.2 = true := by rw [kq_95]; exact kd_95
theorem kq_96 : ip_code 96 = kc_96 := rfl
theorem kx_96 : ∀ q ∈ ip_code 96, decode (ip_bytes 96) q.1 = .ok (q.2.1, q.2.2) ∧ ip_okl q.2.1 q.2.2 = true := by rw [kq_96]; exact kd_96
theorem kq_97 : ip_code 97 = kc_97 := rfl
theorem kx_97 : ∀ q ∈ ip_code 97, decode (ip_bytes 97) q.1 = .ok (q.2.1, q.2.2) ∧ ip_okl q.2.1 q.2.2 = true := by rw [kq_97]; exact kd_97
theorem kq_98 : ip_code 98 = kc_98 := rfl
theorem kx_98 : ∀ q ∈ ip_code 98, decode (ip_bytes 98) q.1 = .ok (q.2.1, q.2.2) ∧ ip_okl q.2.1 q.2.2 = true := by rw [kq_98]; exact kd_98
theorem kq_99 : ip_code 99 = kc_99 := rfl
theorem kx_99 : ∀ q ∈ ip_code 99, decode (ip_bytes 99) q.1 = .ok (q.2.1, q.2.2) ∧ ip_okl q.2.1 q.2.2 = true := by rw [kq_99]; exact kd_99
theorem kq_100 : ip_code 100 = kc_100 := rfl
theorem kx_100 : ∀ q ∈ ip_code 100, decode (ip_bytes 100) q.1 = .ok (q.2.1, q.2.2) ∧ ip_okl q.2.1 q.2.2 = true := by rw [kq_100]; exact kd_100
theorem kq_101 : ip_code 101 = kc_101 := rfl
theorem kx_101 : ∀ q ∈ ip_code 101, decode (ip_bytes 101) q.1 = .ok (q.2.1, q.2.2) ∧ ip_okl q.2.1 q.2.2 = true := by rw [kq_101]; exact kd_101
theorem kq_102 : ip_code 102 = kc_102 := rfl
theorem kx_102 : ∀ q ∈ ip_code 102, decode (ip_bytes 102) q.1 = .ok (q.2.1, q.2.2) ∧ ip_okl q.2.1 q.2.2 = true := by rw [kq_102]; exact kd_102
theorem kq_103 : ip_code 103 = kc_103 := rfl
theorem kx_103 : ∀ q ∈ ip_code 103, decode (ip_bytes 103) q.1 = .ok (q.2.1, q.2.2) ∧ ip_okl q.2.1 q.2.2 = true := by rw [kq_103]; exact kd_103
theorem kq_104 : ip_code 104 = kc_104 := rfl
theorem kx_104 : ∀ q ∈ ip_code 104, decode (ip_bytes 104) q.1 = .ok (q.2.1, q.2.2) ∧ ip_okl q.2.1 q.2.2 = true := by rw [kq_104]; exact kd_104
theorem kq_105 : ip_code 105 = kc_105 := rfl
theorem kx_105 : ∀ q ∈ ip_code 105, decode (ip_bytes 105) q.1 = .ok (q.2.1, q.2.2) ∧ ip_okl q.2.1 q.2.2 = true := by rw [kq_105]; exact kd_105
theorem kq_106 : ip_code 106 = kc_106 := rfl
theorem kx_106 : ∀ q ∈ ip_code 106, decode (ip_bytes 106) q.1 = .ok (q.2.1, q.2.2) ∧ ip_okl q.2.1 q.2.2 = true := by rw [kq_106]; exact kd_106
theorem kq_107 : ip_code 107 = kc_107 := rfl
theorem kx_107 : ∀ q ∈ ip_code 107, decode (ip_bytes 107) q.1 = .ok (q.2.1, q.2.2) ∧ ip_okl q.2.1 q.2.2 = true := by rw [kq_107]; exact kd_107
theorem kq_108 : ip_code 108 = kc_108 := rfl
theorem kx_108 : ∀ q ∈ ip_code 108, decode (ip_bytes 108) q.1 = .ok (q.2.1, q.2.2) ∧ ip_okl q.2.1 q.2.2 = true := by rw [kq_108]; exact kd_108
theorem kq_109 : ip_code 109 = kc_109 := rfl
theorem kx_109 : ∀ q ∈ ip_code 109, decode (ip_bytes 109) q.1 = .ok (q.2.1, q.2.2) ∧ ip_okl q.2.1 q.2.2 = true := by rw [kq_109]; exact kd_109
theorem kq_110 : ip_code 110 = kc_110 := rfl
theorem kx_110 : ∀ q ∈ ip_code 110, decode (ip_bytes 110) q.1 = .ok (q.2.1, q.2.2) ∧ ip_okl q.2.1 q.2.2 = true := by rw [kq_110]; exact kd_110
theorem kq_111 : ip_code 111 = kc_111 := rfl
theorem kx_111 : ∀ q ∈ ip_code 111, decode (ip_bytes 111) q.1 = .ok (q.2.1, q.2.2) ∧ ip_okl q.2.1 q.2.2 = true := by rw [kq_111]; exact kd_111
theorem kq_112 : ip_code 112 = kc_112 := rfl
theorem kx_112 : ∀ q ∈ ip_code 112, decode (ip_bytes 112) q.1 = .ok (q.2.1, q.2.2) ∧ ip_okl q.2.1 q.2.2 = true := by rw [kq_112]; exact kd_112
theorem kq_113 : ip_code 113 = kc_113 := rfl
theorem kx_113 : ∀ q ∈ ip_code 113, decode (ip_bytes 113) q.1 = .ok (q.2.1, q.2.2) ∧ ip_okl q.2.1 q.2.2 = true := by rw [kq_113]; exact kd_113
theorem kq_114 : ip_code 114 = kc_114 := rfl
theorem kx_114 : ∀ q ∈ ip_code 114, decode (ip_bytes 114) q.1 = .ok (q.2.1, q.2.2) ∧ ip_okl q.2.1 q.2.2 = true := by rw [kq_114]; exact kd_114
theorem kq_115 : ip_code 115 = kc_115 := rfl
theorem kx_115 : ∀ q ∈ ip_code 115, decode (ip_bytes 115) q.1 = .ok (q.2.1, q.2.2) ∧ ip_okl q.2.1 q.2.2 = true := by rw [kq_115]; exact kd_115
theorem kq_116 : ip_code 116 = kc_116 := rfl
theorem kx_116 : ∀ q ∈ ip_code 116, decode (ip_bytes 116) q.1 = .ok (q.2.1, q.2.2) ∧ ip_okl q.2.1 q.2.2 = true := by rw [kq_116]; exact kd_116
theorem kq_117 : ip_code 117 = kc_117 := rfl
theorem kx_117 : ∀ q ∈ ip_code 117, decode (ip_bytes 117) q.1 = .ok (q.2.1, q.2.2) ∧ ip_okl q.2.1 q.2.2 = true := by rw [kq_117]; exact kd_117
theorem kq_118 : ip_code 118 = kc_118 := rfl
theorem kx_118 : ∀ q ∈ ip_code 118, decode (ip_bytes 118) q.1 = .ok (q.2.1, q.2.2) ∧ ip_okl q.2.1 q.2.2 = true := by rw [kq_118]; exact kd_118
theorem kq_119 : ip_code 119 = kc_119 := rfl
theorem kx_119 : ∀ q ∈ ip_code 119, decode (ip_bytes 119) q.1 = .ok (q.2.1, q.2.2) ∧ ip_okl q.2.1 q.2.2 = true := by rw [kq_119]; exact kd_119
theorem kq_120 : ip_code 120 = kc_120 := rfl
theorem kx_120 : ∀ q ∈ ip_code 120, decode (ip_bytes 120) q.1 = .ok (q.2.1, q.2.2) ∧ ip_okl q.2.1 q.2.2 = true := by rw [kq_120]; exact kd_120
theorem kq_121 : ip_code 121 = kc_121 := rfl
theorem kx_121 : ∀ q ∈ ip_code 121, decode (ip_bytes 121) q.1 = .ok (q.2.1, q.2.2) ∧ ip_okl q.2.1 q.2.2 = true := by rw [kq_121]; exact kd_121
theorem kq_122 : ip_code 122 = kc_122 := rfl
theorem kx_122 : ∀ q ∈ ip_code 122, decode (ip_bytes 122) q.1 = .ok (q.2.1, q.2.2) ∧ ip_okl q.2.1 q.2.2 = true := by rw [kq_122]; exact kd_122
theorem kq_123 : ip_code 123 = kc_123 := rfl
theorem kx_123 : ∀ q ∈ ip_code 123, decode (ip_bytes 123) q.1 = .ok (q.2.1, q.2.2) ∧ ip_okl q.2.1 q.2.2 = true := by rw [kq_123]; exact kd_123
theorem kq_124 : ip_code 124 = kc_124 := rfl
theorem kx_124 : ∀ q ∈ ip_code 124, decode (ip_bytes 124) q.1 = .ok (q.2.1, q.2.2) ∧ ip_okl q.2.1 q.2.2 = true := by rw [kq_124]; exact kd_124
theorem kq_125 : ip_code 125 = kc_125 := rfl
theorem kx_125 : ∀ q ∈ ip_code 125, decode (ip_bytes 125) q.1 = .ok (q.2.1, q.2.2) ∧ ip_okl q.2.1 q.2.2 = true := by rw [kq_125]; exact kd_125
theorem kq_126 : ip_code 126 = kc_126 := rfl
theorem kx_126 : ∀ q ∈ ip_code 126, decode (ip_bytes 126) q.1 = .ok (q.2.1, q.2.2) ∧ ip_okl q.2.1 q.2.2 = true := by rw [kq_126]; exact kd_126
theorem kq_127 : ip_code 127 = kc_127 := rfl
theorem kx_127 : ∀ q ∈ ip_code 127, decode (ip_bytes 127) q.1 = .ok (q.2.1, q.2.2) ∧ ip_okl q.2.1 q.2.2 = true := by rw [kq_127]; exact kd_127
theorem kq_128 : ip_code 128 = kc_128 := rfl
theorem kx_128 : ∀ q ∈ ip_code 128, decode (ip_bytes 128) q.1 = .ok (q.2.1, q.2.2) ∧ ip_okl q.2.1 q.2.2 = true := by rw [kq_128]; exact kd_128
theorem kq_129 : ip_code 129 = kc_129 := rfl
theorem kx_129 : ∀ q ∈ ip_code 129, decode (ip_bytes 129) q.1 = .ok (q.2.1, q.2.2) ∧ ip_okl q.2.1 q.2.2 = true := by rw [kq_129]; exact kd_129
theorem kq_130 : ip_code 130 = kc_130 := rfl
theorem kx_130 : ∀ q ∈ ip_code 130, decode (ip_bytes 130) q.1 = .ok (q.2.1, q.2.2) ∧ ip_okl q.2.1 q.2.2 = true := by rw [kq_130]; exact kd_130
theorem kq_131 : ip_code 131 = kc_131 := rfl
theorem kx_131 : ∀ q ∈ ip_code 131, decode (ip_bytes 131) q.1 = .ok (q.2.1, q.2.2) ∧ ip_okl q.2.1 q.2.2 = true := by rw [kq_131]; exact kd_131
theorem kq_132 : ip_code 132 = kc_132 := rfl
theorem kx_132 : ∀ q ∈ ip_code 132, decode (ip_bytes 132) q.1 = .ok (q.2.1, q.2.2) ∧ ip_okl q.2.1 q.2.2 = true := by rw [kq_132]; exact kd_132
theorem kq_133 : ip_code 133 = kc_133 := rfl
theorem kx_133 : ∀ q ∈ ip_code 133, decode (ip_bytes 133) q.1 = .ok (q.2.1, q.2.2) ∧ ip_okl q.2.1 q.2.2 = true := by rw [kq_133]; exact kd_133
theorem kq_134 : ip_code 134 = kc_134 := rfl
theorem kx_134 : ∀ q ∈ ip_code 134, decode (ip_bytes 134) q.1 = .ok (q.2.1, q.2.2) ∧ ip_okl q.2.1 q.2.2 = true := by rw [kq_134]; exact kd_134
theorem kq_135 : ip_code 135 = kc_135 := rfl
theorem kx_135 : ∀ q ∈ ip_code 135, decode (ip_bytes 135) q.1 = .ok (q.2.1, q.2.2) ∧ ip_okl q.2.1 q.2.2 = true := by rw [kq_135]; exact kd_135
theorem kq_136 : ip_code 136 = kc_136 := rfl
theorem kx_136 : ∀ q ∈ ip_code 136, decode (ip_bytes 136) q.1 = .ok (q.2.1, q.2.2) ∧ ip_okl q.2.1 q.2.2 = true := by rw [kq_136]; exact kd_136
theorem kq_137 : ip_code 137 = kc_137 := rfl
theorem kx_137 : ∀ q ∈ ip_code 137, decode (ip_bytes 137) q.1 = .ok (q.2.1, q.2.2) ∧ ip_okl q.2.1 q.2.2 = true := by rw [kq_137]; exact kd_137
theorem kq_138 : ip_code 138 = kc_138 := rfl
theorem kx_138 : ∀ q ∈ ip_code 138, decode (ip_bytes 138) q.1 = .ok (q.2.1, q.2.2) ∧ ip_okl q.2.1 q.2.2 = true := by rw [kq_138]; exact kd_138
theorem kq_139 : ip_code 139 = kc_139 := rfl
theorem kx_139 : ∀ q ∈ ip_code 139, decode (ip_bytes 139) q.1 = .ok (q.2.1, q.2.2) ∧ ip_okl q.2.1 q.2.2 = true := by rw [kq_139]; exact kd_139
theorem kq_140 : ip_code 140 = kc_140 := rfl
theorem kx_140 : ∀ q ∈ ip_code 140, decode (ip_bytes 140) q.1 = .ok (q.2.1, q.2.2) ∧ ip_okl q.2.1 q.2.2 = true := by rw [kq_140]; exact kd_140
theorem kq_141 : ip_code 141 = kc_141 := rfl
theorem kx_141 : ∀ q ∈ ip_code 141, decode (ip_bytes 141) q.1 = .ok (q.2.1, q.2.2) ∧ ip_okl q.2.1 q.2.2 = true := by rw [kq_141]; exact kd_141
theorem kq_142 : ip_code 142 = kc_142 := rfl
theorem kx_142 : ∀ q ∈ ip_code 142, decode (ip_bytes 142) q.1 = .ok (q.2.1, q.2.2) ∧ ip_okl q.2.1 q.2.2 = true := by rw [kq_142]; exact kd_142
theorem kq_143 : ip_code 143 = kc_143 := rfl
theorem kx_143 : ∀ q ∈ ip_code 143, decode (ip_bytes 143) q.1 = .ok (q.2.1, q.2.2) ∧ ip_okl q.2.1 q.2.2 = true := by rw [kq_143]; exact kd_143
theorem kq_144 : ip_code 144 = kc_144 := rfl
theorem kx_144 : ∀ q ∈ ip_code 144, decode (ip_bytes 144) q.1 = .ok (q.2.1, q.2.2) ∧ ip_okl q.2.1 q.2.2 = true := by rw [kq_144]; exact kd_144
theorem kq_145 : ip_code 145 = kc_145 := rfl
theorem kx_145 : ∀ q ∈ ip_code 145, decode (ip_bytes 145) q.1 = .ok (q.2.1, q.2.2) ∧ ip_okl q.2.1 q.2.2 = true := by rw [kq_145]; exact kd_145
theorem kq_146 : ip_code 146 = kc_146 := rfl
theorem kx_146 : ∀ q ∈ ip_code 146, decode (ip_bytes 146) q.1 = .ok (q.2.1, q.2.2) ∧ ip_okl q.2.1 q.2.2 = true := by rw [kq_146]; exact kd_146
theorem kq_147 : ip_code 147 = kc_147 := rfl
theorem kx_147 : ∀ q ∈ ip_code 147, decode (ip_bytes 147) q.1 = .ok (q.2.1, q.2.2) ∧ ip_okl q.2.1 q.2.2 = true := by rw [kq_147]; exact kd_147
theorem kq_148 : ip_code 148 = kc_148 := rfl
theorem kx_148 : ∀ q ∈ ip_code 148, decode (ip_bytes 148) q.1 = .ok (q.2.1, q.2.2) ∧ ip_okl q.2.1 q.2.2 = true := by rw [kq_148]; exact kd_148
theorem kq_149 : ip_code 149 = kc_149 := rfl
theorem kx_149 : ∀ q ∈ ip_code 149, decode (ip_bytes 149) q.1 = .ok (q.2.1, q.2.2) ∧ ip_okl q.2.1 q.2.2 = true := by rw [kq_149]; exact kd_149
theorem kq_150 : ip_code 150 = kc_150 := rfl
theorem kx_150 : ∀ q ∈ ip_code 150, decode (ip_bytes 150) q.1 = .ok (q.2.1, q.2.2) ∧ ip_okl q.2.1 q.2.2 = true := by rw [kq_150]; exact kd_150
theorem kq_151 : ip_code 151 = kc_151 := rfl
theorem kx_151 : ∀ q ∈ ip_code 151, decode (ip_bytes 151) q.1 = .ok (q.2.1, q.2.2) ∧ ip_okl q.2.1 q.2.2 = true := by rw [kq_151]; exact kd_151
theorem kq_152 : ip_code 152 = kc_152 := rfl
theorem kx_152 : ∀ q ∈ ip_code 152, decode (ip_bytes 152) q.1 = .ok (q.2.1, q.2.2) ∧ ip_okl q.2.1 q.2.2 = true := by rw [kq_152]; exact kd_152
theorem kq_153 : ip_code 153 = kc_153 := rfl
theorem kx_153 : ∀ q ∈ ip_code 153, decode (ip_bytes 153) q.1 = .ok (q.2.1, q.2.2) ∧ ip_okl q.2.1 q.2.2 = true := by rw [kq_153]; exact kd_153
theorem kq_154 : ip_code 154 = kc_154 := rfl
theorem kx_154 : ∀ q ∈ ip_code 154, decode (ip_bytes 154) q.1 = .ok (q.2.1, q.2.2) ∧ ip_okl q.2.1 q.2.2 = true := by rw [kq_154]; exact kd_154
theorem kq_155 : ip_code 155 = kc_155 := rfl
theorem kx_155 : ∀ q ∈ ip_code 155, decode (ip_bytes 155) q.1 = .ok (q.2.1, q.2.2) ∧ ip_okl q.2.1 q.2.2 = true := by rw [kq_155]; exact kd_155
theorem kq_156 : ip_code 156 = kc_156 := rfl
theorem kx_156 : ∀ q ∈ ip_code 156, decode (ip_bytes 156) q.1 = .ok (q.2.1, q.2.2) ∧ ip_okl q.2.1 q.2.2 = true := by rw [kq_156]; exact kd_156
theorem kq_157 : ip_code 157 = kc_157 := rfl
theorem kx_157 : ∀ q ∈ ip_code 157, decode (ip_bytes 157) q.1 = .ok (q.2.1, q.2.2) ∧ ip_okl q.2.1 q.2.2 = true := by rw [kq_157]; exact kd_157
theorem kq_158 : ip_code 158 = kc_158 := rfl
theorem kx_158 : ∀ q ∈ ip_code 158, decode (ip_bytes 158) q.1 = .ok (q.2.1, q.2.2) ∧ ip_okl q.2.1 q.2.2 = true := by rw [kq_158]; exact kd_158
theorem kq_159 : ip_code 159 = kc_159 := rfl
theorem kx_159 : ∀ q ∈ ip_code 159, decode (ip_bytes 159) q.1 = .ok (q.2.1, q.2.2) ∧ ip_okl q.2.1 q.2.2 = true := by rw [kq_159]; exact kd_159
theorem kq_160 : ip_code 160 = kc_160 := rfl
theorem kx_160 : ∀ q ∈ ip_code 160, decode (ip_bytes 160) q.1 = .ok (q.2.1, q.2.2) ∧ ip_okl q.2.1 q.2.2 = true := by rw [kq_160]; exact kd_160
theorem kq_161 : ip_code 161 = kc_161 := rfl
theorem kx_161 : ∀ q ∈ ip_code 161, decode (ip_bytes 161) q.1 = .ok (q.2.1, q.2.2) ∧ ip_okl q.2.1 q.2.2 = true := by rw [kq_161]; exact kd_161
theorem kq_162 : ip_code 162 = kc_162 := rfl
theorem kx_162 : ∀ q ∈ ip_code 162, decode (ip_bytes 162) q.1 = .ok (q.2.1, q.2.2) ∧ ip_okl q.2.1 q.2.2 = true := by rw [kq_162]; exact kd_162
theorem kq_163 : ip_code 163 = kc_163 := rfl
theorem kx_163 : ∀ q ∈ ip_code 163, decode (ip_bytes 163) q.1 = .ok (q.2.1, q.2.2) ∧ ip_okl q.2.1 q.2.2 = true := by rw [kq_163]; exact kd_163
theorem kq_164 : ip_code 164 = kc_164 := rfl
theorem kx_164 : ∀ q ∈ ip_code 164, decode (ip_bytes 164) q.1 = .ok (q.2.1, q.2.2) ∧ ip_okl q.2.1 q.2.2 = true := by rw [kq_164]; exact kd_164
theorem kq_165 : ip_code 165 = kc_165 := rfl
theorem kx_165 : ∀ q ∈ ip_code 165, decode (ip_bytes 165) q.1 = .ok (q.2.1, q.2.2) ∧ ip_okl q.2.1 q.2.2 = true := by rw [kq_165]; exact kd_165
theorem kq_166 : ip_code 166 = kc_166 := rfl
theorem kx_166 : ∀ q ∈ ip_code 166, decode (ip_bytes 166) q.1 = .ok (q.2.1, q.2.2) ∧ ip_okl q.2.1 q.2.2 = true := by rw [kq_166]; exact kd_166
theorem kq_167 : ip_code 167 = kc_167 := rfl
theorem kx_167 : ∀ q ∈ ip_code 167, decode (ip_bytes 167) q.1 = .ok (q.2.1, q.2.2) ∧ ip_okl q.2.1 q.2.2 = true := by rw [kq_167]; exact kd_167
theorem kq_168 : ip_code 168 = kc_168 := rfl
theorem kx_168 : ∀ q ∈ ip_code 168, decode (ip_bytes 168) q.1 = .ok (q.2.1, q.2.2) ∧ ip_okl q.2.1 q.2.2 = true := by rw [kq_168]; exact kd_168
theorem kq_169 : ip_code 169 = kc_169 := rfl
theorem kx_169 : ∀ q ∈ ip_code 169, decode (ip_bytes 169) q.1 = .ok (q.2.1, q.2.2) ∧ ip_okl q.2.1 q.2.2 = true := by rw [kq_169]; exact kd_169
theorem kq_170 : ip_code 170 = kc_170 := rfl
theorem kx_170 : ∀ q ∈ ip_code 170, decode (ip_bytes 170) q.1 = .ok (q.2.1, q.2.2) ∧ ip_okl q.2.1 q.2.2 = true := by rw [kq_170]; exact kd_170
theorem kq_171 : ip_code 171 = kc_171 := rfl
theorem kx_171 : ∀ q ∈ ip_code 171, decode (ip_bytes 171) q.1 = .ok (q.2.1, q.2.2) ∧ ip_okl q.2.1 q.2.2 = true := by rw [kq_171]; exact kd_171
theorem kq_172 : ip_code 172 = kc_172 := rfl
theorem kx_172 : ∀ q ∈ ip_code 172, decode (ip_bytes 172) q.1 = .ok (q.2.1, q.2.2) ∧ ip_okl q.2.1 q.2.2 = true := by rw [kq_172]; exact kd_172
theorem kq_173 : ip_code 173 = kc_173 := rfl
theorem kx_173 : ∀ q ∈ ip_code 173, decode (ip_bytes 173) q.1 = .ok (q.2.1, q.2.2) ∧ ip_okl q.2.1 q.2.2 = true := by rw [kq_173]; exact kd_173
theorem kq_174 : ip_code 174 = kc_174 := rfl
theorem kx_174 : ∀ q ∈ ip_code 174, decode (ip_bytes 174) q.1 = .ok (q.2.1, q.2.2) ∧ ip_okl q.2.1 q.2.2 = true := by rw [kq_174]; exact kd_174
theorem kq_175 : ip_code 175 = kc_175 := rfl
theorem kx_175 : ∀ q ∈ ip_code 175, decode (ip_bytes 175) q.1 = .ok (q.2.1, q.2.2) ∧ ip_okl q.2.1 q.2.2 = true := by rw [kq_175]; exact kd_175
theorem kq_176 : ip_code 176 = kc_176 := rfl
theorem kx_176 : ∀ q ∈ ip_code 176, decode (ip_bytes 176) q.1 = .ok (q.2.1, q.2.2) ∧ ip_okl q.2.1 q.2.2 = true := by rw [kq_176]; exact kd_176
theorem kq_177 : ip_code 177 = kc_177 := rfl
theorem kx_177 : ∀ q ∈ ip_code 177, decode (ip_bytes 177) q.1 = .ok (q.2.1, q.2.2) ∧ ip_okl q.2.1 q.2.2 = true := by rw [kq_177]; exact kd_177
theorem kq_178 : ip_code 178 = kc_178 := rfl
theorem kx_178 : ∀ q ∈ ip_code 178, decode (ip_bytes 178) q.1 = .ok (q.2.1, q.2.2) ∧ ip_okl q.2.1 q.2.2 = true := by rw [kq_178]; exact kd_178
theorem kq_179 : ip_code 179 = kc_179 := rfl
theorem kx_179 : ∀ q ∈ ip_code 179, decode (ip_bytes 179) q.1 = .ok (q.2.1, q.2.2) ∧ ip_okl q.2.1 q.2.2 = true := by rw [kq_179]; exact kd_179
theorem kq_180 : ip_code 180 = kc_180 := rfl
theorem kx_180 : ∀ q ∈ ip_code 180, decode (ip_bytes 180) q.1 = .ok (q.2.1, q.2.2) ∧ ip_okl q.2.1 q.2.2 = true := by rw [kq_180]; exact kd_180
theorem kq_181 : ip_code 181 = kc_181 := rfl
theorem kx_181 : ∀ q ∈ ip_code 181, decode (ip_bytes 181) q.1 = .ok (q.2.1, q.2.2) ∧ ip_okl q.2.1 q.2.2 = true := by rw [kq_181]; exact kd_181
theorem kq_182 : ip_code 182 = kc_182 := rfl
theorem kx_182 : ∀ q ∈ ip_code 182, decode (ip_bytes 182) q.1 = .ok (q.2.1, q.2.2) ∧ ip_okl q.2.1 q.2.2 = true := by rw [kq_182]; exact kd_182
theorem kq_183 : ip_code 183 = kc_183 := rfl
theorem kx_183 : ∀ q ∈ ip_code 183, decode (ip_bytes 183) q.1 = .ok (q.2.1, q.2.2) ∧ ip_okl q.2.1 q.2.2 = true := by rw [kq_183]; exact kd_183
theorem kq_184 : ip_code 184 = kc_184 := rfl
theorem kx_184 : ∀ q ∈ ip_code 184, decode (ip_bytes 184) q.1 = .ok (q.2.1, q.2.2) ∧ ip_okl q.2.1 q.2.2 = true := by rw [kq_184]; exact kd_184
theorem kq_185 : ip_code 185 = kc_185 := rfl
theorem kx_185 : ∀ q ∈ ip_code 185, decode (ip_bytes 185) q.1 = .ok (q.2.1, q.2.2) ∧ ip_okl q.2.1 q.2.2 = true := by rw [kq_185]; exact kd_185
theorem kq_186 : ip_code 186 = kc_186 := rfl
theorem kx_186 : ∀ q ∈ ip_code 186, decode (ip_bytes 186) q.1 = .ok (q.2.1, q.2.2) ∧ ip_okl q.2.1 q.2.2 = true := by rw [kq_186]; exact kd_186
theorem kq_187 : ip_code 187 = kc_187 := rfl
theorem kx_187 : ∀ q ∈ ip_code 187, decode (ip_bytes 187) q.1 = .ok (q.2.1, q.2.2) ∧ ip_okl q.2.1 q.2.2 = true := by rw [kq_187]; exact kd_187
theorem kq_188 : ip_code 188 = kc_188 := rfl
theorem kx_188 : ∀ q ∈ ip_code 188, decode (ip_bytes 188) q.1 = .ok (q.2.1, q.2.2) ∧ ip_okl q.2.1 q.2.2 = true := by rw [kq_188]; exact kd_188
theorem kq_189 : ip_code 189 = kc_189 := rfl
theorem kx_189 : ∀ q ∈ ip_code 189, decode (ip_bytes 189) q.1 = .ok (q.2.1, q.2.2) ∧ ip_okl q.2.1 q.2.2 = true := by rw [kq_189]; exact kd_189
theorem kq_190 : ip_code 190 = kc_190 := rfl
theorem kx_190 : ∀ q ∈ ip_code 190, decode (ip_bytes 190) q.1 = .ok (q.2.1, q.2.2) ∧ ip_okl q.2.1 q.2.2 = true := by rw [kq_190]; exact kd_190
theorem kq_191 : ip_code 191 = kc_191 := rfl
theorem kx_191 : ∀ q ∈ ip_code 191, decode (ip_bytes 191) q.1 = .ok (q.2.1, q.2.2) ∧ ip_okl q.2.1 q.2.2 = true := by rw [kq_191]; exact kd_191
theorem kq_192 : ip_code 192 = kc_192 := rfl
theorem kx_192 : ∀ q ∈ ip_code 192, decode (ip_bytes 192) q.1 = .ok (q.2.1, q.2.2) ∧ ip_okl q.2.1 q.2.2 = true := by rw [kq_192]; exact kd_192
theorem kq_193 : ip_code 193 = kc_193 := rfl
theorem kx_193 : ∀ q ∈ ip_code 193, decode (ip_bytes 193) q.1 = .ok (q.2.1, q.2.2) ∧ ip_okl q.2.1 q.2.2 = true := by rw [kq_193]; exact kd_193
theorem kq_194 : ip_code 194 = kc_194 := rfl
theorem kx_194 : ∀ q ∈ ip_code 194, decode (ip_bytes 194) q.1 = .ok (q.2.1, q.2.2) ∧ ip_okl q.2.1 q.2.2 = true := by rw [kq_194]; exact kd_194
theorem kq_195 : ip_code 195 = kc_195 := rfl
theorem kx_195 : ∀ q ∈ ip_code 195, decode (ip_bytes 195) q.1 = .ok (q.2.1, q.2.2) ∧ ip_okl q.2.1 q.2.2 = true := by rw [kq_195]; exact kd_195
theorem kq_196 : ip_code 196 = kc_196 := rfl
theorem kx_196 : ∀ q ∈ ip_code 196, decode (ip_bytes 196) q.1 = .ok (q.2.1, q.2.2) ∧ ip_okl q.2.1 q.2.2 = true := by rw [kq_196]; exact kd_196
theorem kq_197 : ip_code 197 = kc_197 := rfl
theorem kx_197 : ∀ q ∈ ip_code 197, decode (ip_bytes 197) q.1 = .ok (q.2.1, q.2.2) ∧ ip_okl q.2.1 q.2.2 = true := by rw [kq_197]; exact kd_197
theorem kq_198 : ip_code 198 = kc_198 := rfl
theorem kx_198 : ∀ q ∈ ip_code 198, decode (ip_bytes 198) q.1 = .ok (q.2.1, q.2.2) ∧ ip_okl q.2.1 q.2.2 = true := by rw [kq_198]; exact kd_198
theorem kq_199 : ip_code 199 = kc_199 := rfl
theorem kx_199 : ∀ q ∈ ip_code 199, decode (ip_bytes 199) q.1 = .ok (q.2.1, q.2.2) ∧ ip_okl q.2.1 q.2.2 = true := by rw [kq_199]; exact kd_199
theorem kq_200 : ip_code 200 = kc_200 := rfl
theorem kx_200 : ∀ q ∈ ip_code 200, decode (ip_bytes 200) q.1 = .ok (q.2.1, q.2.2) ∧ ip_okl q.2.1 q.2.2 = true := by rw [kq_200]; exact kd_200
theorem kq_201 : ip_code 201 = kc_201 := rfl
theorem kx_201 : ∀ q ∈ ip_code 201, decode (ip_bytes 201) q.1 = .ok (q.2.1, q.2.2) ∧ ip_okl q.2.1 q.2.2 = true := by rw [kq_201]; exact kd_201
theorem kq_202 : ip_code 202 = kc_202 := rfl
theorem kx_202 : ∀ q ∈ ip_code 202, decode (ip_bytes 202) q.1 = .ok (q.2.1, q.2.2) ∧ ip_okl q.2.1 q.2.2 = true := by rw [kq_202]; exact kd_202
theorem kq_203 : ip_code 203 = kc_203 := rfl
theorem kx_203 : ∀ q ∈ ip_code 203, decode (ip_bytes 203) q.1 = .ok (q.2.1, q.2.2) ∧ ip_okl q.2.1 q.2.2 = true := by rw [kq_203]; exact kd_203
theorem kq_204 : ip_code 204 = kc_204 := rfl
theorem kx_204 : ∀ q ∈ ip_code 204, decode (ip_bytes 204) q.1 = .ok (q.2.1, q.2.2) ∧ ip_okl q.2.1 q.2.2 = true := by rw [kq_204]; exact kd_204
theorem kq_205 : ip_code 205 = kc_205 := rfl
theorem kx_205 : ∀ q ∈ ip_code 205, decode (ip_bytes 205) q.1 = .ok (q.2.1, q.2.2) ∧ ip_okl q.2.1 q.2.2 = true := by rw [kq_205]; exact kd_205
theorem kq_206 : ip_code 206 = kc_206 := rfl
theorem kx_206 : ∀ q ∈ ip_code 206, decode (ip_bytes 206) q.1 = .ok (q.2.1, q.2.2) ∧ ip_okl q.2.1 q.2.2 = true := by rw [kq_206]; exact kd_206
theorem kq_207 : ip_code 207 = kc_207 := rfl
theorem kx_207 : ∀ q ∈ ip_code 207, decode (ip_bytes 207) q.1 = .ok (q.2.1, q.2.2) ∧ ip_okl q.2.1 q.2.2 = true := by rw [kq_207]; exact kd_207
theorem kq_208 : ip_code 208 = kc_208 := rfl
theorem kx_208 : ∀ q ∈ ip_code 208, decode (ip_bytes 208) q.1 = .ok (q.2.1, q.2.2) ∧ ip_okl q.2.1 q.2.2 = true := by rw [kq_208]; exact kd_208
theorem kq_209 : ip_code 209 = kc_209 := rfl
theorem kx_209 : ∀ q ∈ ip_code 209, decode (ip_bytes 209) q.1 = .ok (q.2.1, q.2.2) ∧ ip_okl q.2.1 q.2.2 = true := by rw [kq_209]; exact kd_209
set_option maxRecDepth 100000 in
theorem ip_decL : ∀ mi ∈ List.range 210, ∀ q ∈ ip_code mi, decode (ip_bytes mi) q.1 = .ok (q.2.1, q.2.2) ∧ ip_okl q.2.1 q.2.2 = true := by
  rw [show List.range 210 = [0, 1, 2, 3, 4, 5, 6, 7, 8, 9, 10, 11, 12, 13, 14, 15, 16, 17, 18, 19, 20, 21, 22, 23, 24, 25, 26, 27, 28, 29, 30, 31, 32, 33, 34, 35, 36, 37, 38, 39, 40, 41, 42, 43, 44, 45, 46, 47, 48, 49, 50, 51, 52, 53, 54, 55, 56, 57, 58, 59, 60, 61, 62, 63, 64, 65, 66, 67, 68, 69, 70, 71, 72, 73, 74, 75, 76, 77, 78, 79, 80, 81, 82, 83, 84, 85, 86, 87, 88, 89, 90, 91, 92, 93, 94, 95, 96, 97, 98, 99, 100, 101, 102, 103, 104, 105, 106, 107, 108, 109, 110, 111, 112, 113, 114, 115, 116, 117, 118, 119, 120, 121, 122, 123, 124, 125, 126, 127, 128, 129, 130, 131, 132, 133, 134, 135, 136, 137, 138, 139, 140, 141, 142, 143, 144, 145, 146, 147, 148, 149, 150, 151, 152, 153, 154, 155, 156, 157, 158, 159, 160, 161, 162, 163, 164, 165, 166, 167, 168, 169, 170, 171, 172, 173, 174, 175, 176, 177, 178, 179, 180, 181, 182, 183, 184, 185, 186, 187, 188, 189, 190, 191, 192, 193, 194, 195, 196, 197, 198, 199, 200, 201, 202, 203, 204, 205, 206, 207, 208, 209] by decide +kernel]
  exact List.forall_mem_cons.mpr ⟨kx_0, List.forall_mem_cons.mpr ⟨kx_1, List.forall_mem_cons.mpr ⟨kx_2, List.forall_mem_cons.mpr ⟨kx_3, List.forall_mem_cons.mpr ⟨kx_4, List.forall_mem_cons.mpr ⟨kx_5, List.forall_mem_cons.mpr ⟨kx_6, List.forall_mem_cons.mpr ⟨kx_7, List.forall_mem_cons.mpr ⟨kx_8, List.forall_mem_cons.mpr ⟨kx_9, List.forall_mem_cons.mpr ⟨kx_10, List.forall_mem_cons.mpr ⟨kx_11, List.forall_mem_cons.mpr ⟨kx_12, List.forall_mem_cons.mpr ⟨kx_13, List.forall_mem_cons.mpr ⟨kx_14, List.forall_mem_cons.mpr ⟨kx_15, List.forall_mem_cons.mpr ⟨kx_16, List.forall_mem_cons.mpr ⟨kx_17, List.forall_mem_cons.mpr ⟨kx_18, List.forall_mem_cons.mpr ⟨kx_19, List.forall_mem_cons.mpr ⟨kx_20, List.forall_mem_cons.mpr ⟨kx_21, List.forall_mem_cons.mpr ⟨kx_22, List.forall_mem_cons.mpr ⟨kx_23, List.forall_mem_cons.mpr ⟨kx_24, List.forall_mem_cons.mpr ⟨kx_25, List.forall_mem_cons.mpr ⟨kx_26, List.forall_mem_cons.mpr ⟨kx_27, List.forall_mem_cons.mpr ⟨kx_28, List.forall_mem_cons.mpr ⟨kx_29, List.forall_mem_cons.mpr ⟨kx_30, List.forall_mem_cons.mpr ⟨kx_31, List.forall_mem_cons.mpr ⟨kx_32, List.forall_mem_cons.mpr ⟨kx_33, List.forall_mem_cons.mpr ⟨kx_34, List.forall_mem_cons.mpr ⟨kx_35, List.forall_mem_cons.mpr ⟨kx_36, List.forall_mem_cons.mpr ⟨kx_37, List.forall_mem_cons.mpr ⟨kx_38, List.forall_mem_cons.mpr ⟨kx_39, List.forall_mem_cons.mpr ⟨kx_40, List.forall_mem_cons.mpr ⟨kx_41, List.forall_mem_cons.mpr ⟨kx_42, List.forall_mem_cons.mpr ⟨kx_43, List.forall_mem_cons.mpr ⟨kx_44, List.forall_mem_cons.mpr ⟨kx_45, List.forall_mem_cons.mpr ⟨kx_46, List.forall_mem_cons.mpr ⟨kx_47, List.forall_mem_cons.mpr ⟨kx_48, List.forall_mem_cons.mpr ⟨kx_49, List.forall_mem_cons.mpr ⟨kx_50, List.forall_mem_cons.mpr ⟨kx_51, List.forall_mem_cons.mpr ⟨kx_52, List.forall_mem_cons.mpr ⟨kx_53, List.forall_mem_cons.mpr ⟨kx_54, List.forall_mem_cons.mpr ⟨kx_55, List.forall_mem_cons.mpr ⟨kx_56, List.forall_mem_cons.mpr ⟨kx_57, List.forall_mem_cons.mpr ⟨kx_58, List.forall_mem_cons.mpr ⟨kx_59, List.forall_mem_cons.mpr ⟨kx_60, List.forall_mem_cons.mpr ⟨kx_61, List.forall_mem_cons.mpr ⟨kx_62, List.forall_mem_cons.mpr ⟨kx_63, List.forall_mem_cons.mpr ⟨kx_64, List.forall_mem_cons.mpr ⟨kx_65, List.forall_mem_cons.mpr ⟨kx_66, List.forall_mem_cons.mpr ⟨kx_67, List.forall_mem_cons.mpr ⟨kx_68, List.forall_mem_cons.mpr ⟨kx_69, List.forall_mem_cons.mpr ⟨kx_70, List.forall_mem_cons.mpr ⟨kx_71, List.forall_mem_cons.mpr ⟨kx_72, List.forall_mem_cons.mpr ⟨kx_73, List.forall_mem_cons.mpr ⟨kx_74, List.forall_mem_cons.mpr ⟨kx_75, List.forall_mem_cons.mpr ⟨kx_76, List.forall_mem_cons.mpr ⟨kx_77, List.forall_mem_cons.mpr ⟨kx_78, List.forall_mem_cons.mpr ⟨kx_79, List.forall_mem_cons.mpr ⟨kx_80, List.forall_mem_cons.mpr ⟨kx_81, List.forall_mem_cons.mpr ⟨kx_82, List.forall_mem_cons.mpr ⟨kx_83, List.forall_mem_cons.mpr ⟨kx_84, List.forall_mem_cons.mpr ⟨kx_85, List.forall_mem_cons.mpr ⟨kx_86, List.forall_mem_cons.mpr ⟨kx_87, List.forall_mem_cons.mpr ⟨kx_88, List.forall_mem_cons.mpr ⟨kx_89, List.forall_mem_cons.mpr ⟨kx_90, List.forall_mem_cons.mpr ⟨kx_91, List.forall_mem_cons.mpr ⟨kx_92, List.forall_mem_cons.mpr ⟨kx_93, List.forall_mem_cons.mpr ⟨kx_94, List.forall_mem_cons.mpr ⟨kx_95, List.forall_mem_cons.mpr ⟨kx_96, List.forall_mem_cons.mpr ⟨kx_97, List.forall_mem_cons.mpr ⟨kx_98, List.forall_mem_cons.mpr ⟨kx_99, List.forall_mem_cons.mpr ⟨kx_100, List.forall_mem_cons.mpr ⟨kx_101, List.forall_mem_cons.mpr ⟨kx_102, List.forall_mem_cons.mpr ⟨kx_103, List.forall_mem_cons.mpr ⟨kx_104, List.forall_mem_cons.mpr ⟨kx_105, List.forall_mem_cons.mpr ⟨kx_106, List.forall_mem_cons.mpr ⟨kx_107, List.forall_mem_cons.mpr ⟨kx_108, List.forall_mem_cons.mpr ⟨kx_109, List.forall_mem_cons.mpr ⟨kx_110, List.forall_mem_cons.mpr ⟨kx_111, List.forall_mem_cons.mpr ⟨kx_112, List.forall_mem_cons.mpr ⟨kx_113, List.forall_mem_cons.mpr ⟨kx_114, List.forall_mem_cons.mpr ⟨kx_115, List.forall_mem_cons.mpr ⟨kx_116, List.forall_mem_cons.mpr ⟨kx_117, List.forall_mem_cons.mpr ⟨kx_118, List.forall_mem_cons.mpr ⟨kx_119, List.forall_mem_cons.mpr ⟨kx_120, List.forall_mem_cons.mpr ⟨kx_121, List.forall_mem_cons.mpr ⟨kx_122, List.forall_mem_cons.mpr ⟨kx_123, List.forall_mem_cons.mpr ⟨kx_124, List.forall_mem_cons.mpr ⟨kx_125, List.forall_mem_cons.mpr ⟨kx_126, List.forall_mem_cons.mpr ⟨kx_127, List.forall_mem_cons.mpr ⟨kx_128, List.forall_mem_cons.mpr ⟨kx_129, List.forall_mem_cons.mpr ⟨kx_130, List.forall_mem_cons.mpr ⟨kx_131, List.forall_mem_cons.mpr ⟨kx_132, List.forall_mem_cons.mpr ⟨kx_133, List.forall_mem_cons.mpr ⟨kx_134, List.forall_mem_cons.mpr ⟨kx_135, List.forall_mem_cons.mpr ⟨kx_136, List.forall_mem_cons.mpr ⟨kx_137, List.forall_mem_cons.mpr ⟨kx_138, List.forall_mem_cons.mpr ⟨kx_139, List.forall_mem_cons.mpr ⟨kx_140, List.forall_mem_cons.mpr ⟨kx_141, List.forall_mem_cons.mpr ⟨kx_142, List.forall_mem_cons.mpr ⟨kx_143, List.forall_mem_cons.mpr ⟨kx_144, List.forall_mem_cons.mpr ⟨kx_145, List.forall_mem_cons.mpr ⟨kx_146, List.forall_mem_cons.mpr ⟨kx_147, List.forall_mem_cons.mpr ⟨kx_148, List.forall_mem_cons.mpr ⟨kx_149, List.forall_mem_cons.mpr ⟨kx_150, List.forall_mem_cons.mpr ⟨kx_151, List.forall_mem_cons.mpr ⟨kx_152, List.forall_mem_cons.mpr ⟨kx_153, List.forall_mem_cons.mpr ⟨kx_154, List.forall_mem_cons.mpr ⟨kx_155, List.forall_mem_cons.mpr ⟨kx_156, List.forall_mem_cons.mpr ⟨kx_157, List.forall_mem_cons.mpr ⟨kx_158, List.forall_mem_cons.mpr ⟨kx_159, List.forall_mem_cons.mpr ⟨kx_160, List.forall_mem_cons.mpr ⟨kx_161, List.forall_mem_cons.mpr ⟨kx_162, List.forall_mem_cons.mpr ⟨kx_163, List.forall_mem_cons.mpr ⟨kx_164, List.forall_mem_cons.mpr ⟨kx_165, List.forall_mem_cons.mpr ⟨kx_166, List.forall_mem_cons.mpr ⟨kx_167, List.forall_mem_cons.mpr ⟨kx_168, List.forall_mem_cons.mpr ⟨kx_169, List.forall_mem_cons.mpr ⟨kx_170, List.forall_mem_cons.mpr ⟨kx_171, List.forall_mem_cons.mpr ⟨kx_172, List.forall_mem_cons.mpr ⟨kx_173, List.forall_mem_cons.mpr ⟨kx_174, List.forall_mem_cons.mpr ⟨kx_175, List.forall_mem_cons.mpr ⟨kx_176, List.forall_mem_cons.mpr ⟨kx_177, List.forall_mem_cons.mpr ⟨kx_178, List.forall_mem_cons.mpr ⟨kx_179, List.forall_mem_cons.mpr ⟨kx_180, List.forall_mem_cons.mpr ⟨kx_181, List.forall_mem_cons.mpr ⟨kx_182, List.forall_mem_cons.mpr ⟨kx_183, List.forall_mem_cons.mpr ⟨kx_184, List.forall_mem_cons.mpr ⟨kx_185, List.forall_mem_cons.mpr ⟨kx_186, List.forall_mem_cons.mpr ⟨kx_187, List.forall_mem_cons.mpr ⟨kx_188, List.forall_mem_cons.mpr ⟨kx_189, List.forall_mem_cons.mpr ⟨kx_190, List.forall_mem_cons.mpr ⟨kx_191, List.forall_mem_cons.mpr ⟨kx_192, List.forall_mem_cons.mpr ⟨kx_193, List.forall_mem_cons.mpr ⟨kx_194, List.forall_mem_cons.mpr ⟨kx_195, List.forall_mem_cons.mpr ⟨kx_196, List.forall_mem_cons.mpr ⟨kx_197, List.forall_mem_cons.mpr ⟨kx_198, List.forall_mem_cons.mpr ⟨kx_199, List.forall_mem_cons.mpr ⟨kx_200, List.forall_mem_cons.mpr ⟨kx_201, List.forall_mem_cons.mpr ⟨kx_202, List.forall_mem_cons.mpr ⟨kx_203, List.forall_mem_cons.mpr ⟨kx_204, List.forall_mem_cons.mpr ⟨kx_205, List.forall_mem_cons.mpr ⟨kx_206, List.forall_mem_cons.mpr ⟨kx_207, List.forall_mem_cons.mpr ⟨kx_208, List.forall_mem_cons.mpr ⟨kx_209, fun _ h => absurd h List.not_mem_nil⟩⟩⟩⟩⟩⟩⟩⟩⟩⟩⟩⟩⟩⟩⟩⟩⟩⟩⟩⟩⟩⟩⟩⟩⟩⟩⟩⟩⟩⟩⟩⟩⟩⟩⟩⟩⟩⟩⟩⟩⟩⟩⟩⟩⟩⟩⟩⟩⟩⟩⟩⟩⟩⟩⟩⟩⟩⟩⟩⟩⟩⟩⟩⟩⟩⟩⟩⟩⟩⟩⟩⟩⟩⟩⟩⟩⟩⟩⟩⟩⟩⟩⟩⟩⟩⟩⟩⟩⟩⟩⟩⟩⟩⟩⟩⟩⟩⟩⟩⟩⟩⟩⟩⟩⟩⟩⟩⟩⟩⟩⟩⟩⟩⟩⟩⟩⟩⟩⟩⟩⟩⟩⟩⟩⟩⟩⟩⟩⟩⟩⟩⟩⟩⟩⟩⟩⟩⟩⟩⟩⟩⟩⟩⟩⟩⟩⟩⟩⟩⟩⟩⟩⟩⟩⟩⟩⟩⟩⟩⟩⟩⟩⟩⟩⟩⟩⟩⟩⟩⟩⟩⟩⟩⟩⟩⟩⟩⟩⟩⟩⟩⟩⟩⟩⟩⟩⟩⟩⟩⟩⟩⟩⟩⟩⟩⟩⟩⟩⟩⟩⟩⟩⟩⟩⟩⟩⟩⟩⟩⟩
theorem ip_lt {mi pc : Nat} {x : Instr × Nat} (hf : ip_fetch mi pc = some x) : mi < 210 := by
  rcases Nat.lt_or_ge mi 210 with h | h
  · exact h
  · have h1 := ip_lkN_mem hf
    unfold ip_code at h1
    rw [List.getD_eq_getElem?_getD, List.getElem?_eq_none (show ip_cds.length ≤ mi from h)] at h1
    cases h1
theorem ip_dec {mi pc len : Nat} {ins : Instr} (hf : ip_fetch mi pc = some (ins, len)) : decode (ip_bytes mi) pc = .ok (ins, len) ∧ ip_okl ins len = true := by
  have hm : (pc, ins, len) ∈ ip_code mi := ip_lkN_mem hf
  have h := ip_decL mi (List.mem_range.mpr (ip_lt hf)) (pc, ins, len) hm
  dsimp only at h
  exact h
theorem ip_all {C : Nat → Nat × Instr × Nat → Bool} (h : ((List.range 210).all fun mi => (ip_code mi).all (C mi)) = true) {mi pc len : Nat} {ins : Instr} (hf : ip_fetch mi pc = some (ins, len)) : C mi (pc, ins, len) = true :=
by
  have hm : (pc, ins, len) ∈ ip_code mi := ip_lkN_mem hf
  exact List.all_eq_true.mp (List.all_eq_true.mp h mi (List.mem_range.mpr (ip_lt hf))) (pc, ins, len) hm
def ip_pchk (mi : Nat) (q : Nat × Instr × Nat) : Bool := match q.2.1 with
  | .putfield ix => match ip_fld mi ix with
    | some w => match ip_cls[w.1]? with
      | some r => !(r.2.1 w.2).2.2.2 || (decide ((ip_y mi).name = "<init>") && decide ((r.2.1 w.2).1 = ip_own mi))
      | none => false
    | none => true
  | _ => true
set_option maxRecDepth 100000 in
theorem ip_putOK : ((List.range 210).all fun mi => (ip_code mi).all (ip_pchk mi)) = true := by decide +kernel
/-- a call's room -/
def ip_rchk (mi ix : Nat) : Bool := match ip_call mi ix with
  | some w => decide (ip_fm w.1 + 1 ≤ ip_fm mi) && decide (8 + (ip_maxL w.1 + 11) + ip_lm w.1 ≤ ip_lm mi)
  | none => true
def ip_cchk (mi : Nat) (q : Nat × Instr × Nat) : Bool := match q.2.1 with
  | .invokevirtual ix => ip_rchk mi ix && (match ip_bi mi ix with
    | 0 => true
    | _ => decide (4 ≤ ip_fm mi) && decide (100 ≤ ip_lm mi))
  | .invokespecial ix => ip_rchk mi ix && (match ip_bi mi ix with
    | 0 => true
    | _ => decide (1 ≤ ip_fm mi) && decide (20 ≤ ip_lm mi))
  | .invokestatic ix => ip_rchk mi ix && (match ip_bi mi ix with
    | 0 => true
    | _ => decide (1 ≤ ip_fm mi) && decide (40 ≤ ip_lm mi))
  | .new _ => match ip_exc mi q.1 with
    | none => true
    | some _ => decide (8 ≤ ip_fm mi) && decide (103 ≤ ip_lm mi)
  | _ => true
set_option maxRecDepth 100000 in
theorem ip_callOK : ((List.range 210).all fun mi => (ip_code mi).all (ip_cchk mi)) = true := by decide +kernel
def ip_cps : List Nat := [34, 48, 170, 335, 348, 364, 547, 647, 676, 687, 888, 889, 902, 568, 915, 566, 942, 946, 947, 948, 567, 977, 443, 985, 451, 1011, 555, 988, 993, 1018, 1181, 1189, 1204, 1200, 1207, 1210, 1213, 1217, 1248, 1196, 1240, 1233, 1236, 1229, 1244, 1256, 1260, 1268, 1272, 1276, 1034, 1225, 1252, 1264, 1280, 1284, 1288, 1292, 1296, 1022, 1038, 1221, 1026, 1030, 1042, 1046, 1050, 1348, 1344, 1352, 1356, 1360, 1372, 1376, 1340, 1364, 1368, 1380, 1384, 472, 367, 371, 386, 390, 378, 374, 393, 403, 406, 409, 413, 892, 893, 897, 54, 68, 695, 699, 765, 402, 853, 397, 398, 901, 353, 382, 992, 182, 274, 705, 710, 717, 718, 728, 729, 733, 709, 714, 722, 724, 264, 267, 261, 455, 459, 463, 495, 506, 525, 529, 534, 540, 466, 476, 490, 500, 505, 512, 516, 520, 523, 545, 480, 485, 488, 176, 300, 691, 700, 701, 737, 741, 884, 304, 745, 785, 799, 824, 832, 854, 863, 867, 880, 749, 773, 789, 793, 803, 812, 816, 777, 828, 836, 840, 858, 871, 781, 753, 757, 761, 769, 811, 797, 798, 807, 820, 844, 848, 849, 862, 875, 876, 72, 186, 209, 199, 576, 655, 683, 911, 938, 952, 959, 966, 973, 981, 1000, 1007, 26, 1014, 572, 1177, 1173, 651, 1185, 680, 1192, 907, 1300, 935, 1304, 949, 1308, 956, 1312, 963, 1316, 970, 1320, 439, 1324, 978, 1328, 997, 1332, 447, 1336, 1004, 1388, 551, 1392, 562, 1396]
def ip_cw (q : Nat × Nat × Nat × Nat) : Cond := .methodLink (ip_onm q.1) q.2.1 (ip_y q.2.2.1)
set_option maxRecDepth 100000 in
theorem ip_cpsOK : ∀ i, i < ip_cals.length → tables_1[ip_cps.getD i 0]? = some (ip_cw (ip_cals.getD i (0, 0, 0, 0))) ∧ (parseMethodDescriptor (ip_y (ip_cals.getD i (0, 0, 0, 0)).2.2.1).desc).map (fun d => d.parameters.length) = some (ip_cals.getD i (0, 0, 0, 0)).2.2.2 := by decide +kernel
theorem ip_linkOK {mi ix ci na : Nat} (h : ip_call mi ix = some (ci, na)) : Cond.methodLink (ip_own mi) ix (ip_y ci) ∈ ip_gw ∧ (parseMethodDescriptor (ip_y ci).desc).map (fun d => d.parameters.length) = some na := by
  obtain ⟨i, hi⟩ := List.getElem?_of_mem (ip_lk2_mem h)
  have hl := (List.getElem?_eq_some_iff.mp hi).1
  obtain ⟨h1, h2⟩ := ip_cpsOK i hl
  have e : ip_cals.getD i (0, 0, 0, 0) = (ip_o mi, ix, ci, na) := by rw [List.getD_eq_getElem?_getD, hi]; rfl
  rw [e] at h1 h2
  exact ⟨ip_gw_t h1 rfl, h2⟩
