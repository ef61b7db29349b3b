section
variable {G : List ip_K} {F : Nat → Nat → Value} {I : Nat → Nat → Int32} {J : Nat → Nat → Int64} {b : ip_B} {post : Option Value → ip_H → Prop} {px : String → ip_H → Prop}
theorem f0_0 : ip_fetch 0 0 = some (.aload_n 0, 1) := by decide +kernel
theorem s0_0 {x0 : Nat} : ip_WP 0 0 [some (.ref x0)] [] (G, F, I, J) b post px ↔ ip_WP 0 1 [some (.ref x0)] [.ref x0] (G, F, I, J) b post px := ip_nx_iff ((ip_st_of f0_0).trans rfl)
theorem f0_1 : ip_fetch 0 1 = some (.invokespecial 1, 3) := by decide +kernel
set_option maxRecDepth 100000 in
theorem s0_1 {x0 : Nat} {s0 : Nat} : ip_WP 0 1 [some (.ref x0)] [.ref s0] (G, F, I, J) b post px ↔ ip_WP 0 4 [some (.ref x0)] [] (G, F, I, J) b post px := ip_s_obj f0_1 rfl (Nat.le_of_ble_eq_true rfl)
theorem f0_4 : ip_fetch 0 4 = some (.aload_n 0, 1) := by decide +kernel
theorem s0_4 {x0 : Nat} : ip_WP 0 4 [some (.ref x0)] [] (G, F, I, J) b post px ↔ ip_WP 0 5 [some (.ref x0)] [.ref x0] (G, F, I, J) b post px := ip_nx_iff ((ip_st_of f0_4).trans rfl)
theorem f0_5 : ip_fetch 0 5 = some (.new 7, 3) := by decide +kernel
set_option maxRecDepth 100000 in
theorem s0_5 {x0 : Nat} {s0 : Nat} : ip_WP 0 5 [some (.ref x0)] [.ref s0] (G, F, I, J) b post px ↔ (ip_wfc G.length [some (.ref x0)] [.ref s0] = true ∧ (1 ≤ b.1 ∧ 2 ≤ b.2 ∧ G.length < ip_SC) ∧ ip_WP 0 8 [some (.ref x0)] [.ref G.length, .ref s0] (G ++ [.inr (2, 2)], fun a j => if a = G.length then ip_dfl (ip_fty 2 j) else F a j, I, J) (b.1 - 1, b.2 - 2) post px) := ip_s_new f0_5 rfl rfl rfl rfl
theorem f0_8 : ip_fetch 0 8 = some (.dup, 1) := by decide +kernel
theorem s0_8 {x0 : Nat} {s0 : Nat} {s1 : Nat} : ip_WP 0 8 [some (.ref x0)] [.ref s1, .ref s0] (G, F, I, J) b post px ↔ ip_WP 0 9 [some (.ref x0)] [.ref s1, .ref s1, .ref s0] (G, F, I, J) b post px := ip_nx_iff ((ip_st_of f0_8).trans rfl)
theorem f0_9 : ip_fetch 0 9 = some (.invokespecial 9, 3) := by decide +kernel
set_option maxRecDepth 100000 in
theorem s0_9 {x0 : Nat} {s0 : Nat} {s1 : Nat} {s2 : Nat} : ip_WP 0 9 [some (.ref x0)] [.ref s2, .ref s1, .ref s0] (G, F, I, J) b post px ↔ (ip_wfc G.length [some (.ref x0)] [.ref s1, .ref s0] = true ∧ (ip_bud 87 b = true ∧ ip_WP 87 0 [some (.ref s2)] [] (G, F, I, J) (1, 4160) (fun r h' => ip_WP 0 12 [some (.ref x0)] (r.toList ++ [.ref s1, .ref s0]) h' (ip_rst 87 b) post px) (fun _ _ => False))) := ip_ck_iff (x := if ip_bud 87 b = true then ip_cl 87 [some (.ref s2)] [.ref s1, .ref s0] (1, 4160) (ip_rst 87 b) else none) ((ip_st_of f0_9).trans rfl) (fun hs => ip_ck_iff (x := ip_cl 87 [some (.ref s2)] [.ref s1, .ref s0] (1, 4160) (ip_rst 87 b)) hs (ip_cl_iff))
theorem f0_12 : ip_fetch 0 12 = some (.putfield 10, 3) := by decide +kernel
set_option maxRecDepth 100000 in
theorem s0_12 {x0 : Nat} {s0 : Nat} {s1 : Nat} : ip_WP 0 12 [some (.ref x0)] [.ref s1, .ref s0] (G, F, I, J) b post px ↔ (ip_isO G s0 0 = true ∧ s1 < G.length ∧ ip_WP 0 15 [some (.ref x0)] [] (G, ip_up F s0 0 (.ref s1), I, J) b post px) := ip_s_putR f0_12 (by decide +kernel) rfl
theorem f0_15 : ip_fetch 0 15 = some (.aload_n 0, 1) := by decide +kernel
theorem s0_15 {x0 : Nat} : ip_WP 0 15 [some (.ref x0)] [] (G, F, I, J) b post px ↔ ip_WP 0 16 [some (.ref x0)] [.ref x0] (G, F, I, J) b post px := ip_nx_iff ((ip_st_of f0_15).trans rfl)
theorem f0_16 : ip_fetch 0 16 = some (.new 7, 3) := by decide +kernel
set_option maxRecDepth 100000 in
theorem s0_16 {x0 : Nat} {s0 : Nat} : ip_WP 0 16 [some (.ref x0)] [.ref s0] (G, F, I, J) b post px ↔ (ip_wfc G.length [some (.ref x0)] [.ref s0] = true ∧ (1 ≤ b.1 ∧ 2 ≤ b.2 ∧ G.length < ip_SC) ∧ ip_WP 0 19 [some (.ref x0)] [.ref G.length, .ref s0] (G ++ [.inr (2, 2)], fun a j => if a = G.length then ip_dfl (ip_fty 2 j) else F a j, I, J) (b.1 - 1, b.2 - 2) post px) := ip_s_new f0_16 rfl rfl rfl rfl
theorem f0_19 : ip_fetch 0 19 = some (.dup, 1) := by decide +kernel
theorem s0_19 {x0 : Nat} {s0 : Nat} {s1 : Nat} : ip_WP 0 19 [some (.ref x0)] [.ref s1, .ref s0] (G, F, I, J) b post px ↔ ip_WP 0 20 [some (.ref x0)] [.ref s1, .ref s1, .ref s0] (G, F, I, J) b post px := ip_nx_iff ((ip_st_of f0_19).trans rfl)
theorem f0_20 : ip_fetch 0 20 = some (.invokespecial 9, 3) := by decide +kernel
set_option maxRecDepth 100000 in
theorem s0_20 {x0 : Nat} {s0 : Nat} {s1 : Nat} {s2 : Nat} : ip_WP 0 20 [some (.ref x0)] [.ref s2, .ref s1, .ref s0] (G, F, I, J) b post px ↔ (ip_wfc G.length [some (.ref x0)] [.ref s1, .ref s0] = true ∧ (ip_bud 87 b = true ∧ ip_WP 87 0 [some (.ref s2)] [] (G, F, I, J) (1, 4160) (fun r h' => ip_WP 0 23 [some (.ref x0)] (r.toList ++ [.ref s1, .ref s0]) h' (ip_rst 87 b) post px) (fun _ _ => False))) := ip_ck_iff (x := if ip_bud 87 b = true then ip_cl 87 [some (.ref s2)] [.ref s1, .ref s0] (1, 4160) (ip_rst 87 b) else none) ((ip_st_of f0_20).trans rfl) (fun hs => ip_ck_iff (x := ip_cl 87 [some (.ref s2)] [.ref s1, .ref s0] (1, 4160) (ip_rst 87 b)) hs (ip_cl_iff))
theorem f0_23 : ip_fetch 0 23 = some (.putfield 16, 3) := by decide +kernel
set_option maxRecDepth 100000 in
theorem s0_23 {x0 : Nat} {s0 : Nat} {s1 : Nat} : ip_WP 0 23 [some (.ref x0)] [.ref s1, .ref s0] (G, F, I, J) b post px ↔ (ip_isO G s0 0 = true ∧ s1 < G.length ∧ ip_WP 0 26 [some (.ref x0)] [] (G, ip_up F s0 1 (.ref s1), I, J) b post px) := ip_s_putR f0_23 (by decide +kernel) rfl
theorem f0_26 : ip_fetch 0 26 = some (.aload_n 0, 1) := by decide +kernel
theorem s0_26 {x0 : Nat} : ip_WP 0 26 [some (.ref x0)] [] (G, F, I, J) b post px ↔ ip_WP 0 27 [some (.ref x0)] [.ref x0] (G, F, I, J) b post px := ip_nx_iff ((ip_st_of f0_26).trans rfl)
theorem f0_27 : ip_fetch 0 27 = some (.new 19, 3) := by decide +kernel
set_option maxRecDepth 100000 in
theorem s0_27 {x0 : Nat} {s0 : Nat} : ip_WP 0 27 [some (.ref x0)] [.ref s0] (G, F, I, J) b post px ↔ (ip_wfc G.length [some (.ref x0)] [.ref s0] = true ∧ (1 ≤ b.1 ∧ 15 ≤ b.2 ∧ G.length < ip_SC) ∧ ip_WP 0 30 [some (.ref x0)] [.ref G.length, .ref s0] (G ++ [.inr (3, 15)], fun a j => if a = G.length then ip_dfl (ip_fty 3 j) else F a j, I, J) (b.1 - 1, b.2 - 15) post px) := ip_s_new f0_27 rfl rfl rfl rfl
theorem f0_30 : ip_fetch 0 30 = some (.dup, 1) := by decide +kernel
theorem s0_30 {x0 : Nat} {s0 : Nat} {s1 : Nat} : ip_WP 0 30 [some (.ref x0)] [.ref s1, .ref s0] (G, F, I, J) b post px ↔ ip_WP 0 31 [some (.ref x0)] [.ref s1, .ref s1, .ref s0] (G, F, I, J) b post px := ip_nx_iff ((ip_st_of f0_30).trans rfl)
theorem f0_31 : ip_fetch 0 31 = some (.invokespecial 21, 3) := by decide +kernel
set_option maxRecDepth 100000 in
theorem s0_31 {x0 : Nat} {s0 : Nat} {s1 : Nat} {s2 : Nat} : ip_WP 0 31 [some (.ref x0)] [.ref s2, .ref s1, .ref s0] (G, F, I, J) b post px ↔ (ip_wfc G.length [some (.ref x0)] [.ref s1, .ref s0] = true ∧ (ip_bud 102 b = true ∧ ip_WP 102 0 [some (.ref s2)] [] (G, F, I, J) (26, 686) (fun r h' => ip_WP 0 34 [some (.ref x0)] (r.toList ++ [.ref s1, .ref s0]) h' (ip_rst 102 b) post px) (fun _ _ => False))) := ip_ck_iff (x := if ip_bud 102 b = true then ip_cl 102 [some (.ref s2)] [.ref s1, .ref s0] (26, 686) (ip_rst 102 b) else none) ((ip_st_of f0_31).trans rfl) (fun hs => ip_ck_iff (x := ip_cl 102 [some (.ref s2)] [.ref s1, .ref s0] (26, 686) (ip_rst 102 b)) hs (ip_cl_iff))
theorem f0_34 : ip_fetch 0 34 = some (.putfield 22, 3) := by decide +kernel
set_option maxRecDepth 100000 in
theorem s0_34 {x0 : Nat} {s0 : Nat} {s1 : Nat} : ip_WP 0 34 [some (.ref x0)] [.ref s1, .ref s0] (G, F, I, J) b post px ↔ (ip_isO G s0 0 = true ∧ s1 < G.length ∧ ip_WP 0 37 [some (.ref x0)] [] (G, ip_up F s0 2 (.ref s1), I, J) b post px) := ip_s_putR f0_34 (by decide +kernel) rfl
theorem f0_37 : ip_fetch 0 37 = some (.aload_n 0, 1) := by decide +kernel
theorem s0_37 {x0 : Nat} : ip_WP 0 37 [some (.ref x0)] [] (G, F, I, J) b post px ↔ ip_WP 0 38 [some (.ref x0)] [.ref x0] (G, F, I, J) b post px := ip_nx_iff ((ip_st_of f0_37).trans rfl)
theorem f0_38 : ip_fetch 0 38 = some (.new 26, 3) := by decide +kernel
set_option maxRecDepth 100000 in
theorem s0_38 {x0 : Nat} {s0 : Nat} : ip_WP 0 38 [some (.ref x0)] [.ref s0] (G, F, I, J) b post px ↔ (ip_wfc G.length [some (.ref x0)] [.ref s0] = true ∧ (1 ≤ b.1 ∧ 9 ≤ b.2 ∧ G.length < ip_SC) ∧ ip_WP 0 41 [some (.ref x0)] [.ref G.length, .ref s0] (G ++ [.inr (8, 9)], fun a j => if a = G.length then ip_dfl (ip_fty 8 j) else F a j, I, J) (b.1 - 1, b.2 - 9) post px) := ip_s_new f0_38 rfl rfl rfl rfl
theorem f0_41 : ip_fetch 0 41 = some (.dup, 1) := by decide +kernel
theorem s0_41 {x0 : Nat} {s0 : Nat} {s1 : Nat} : ip_WP 0 41 [some (.ref x0)] [.ref s1, .ref s0] (G, F, I, J) b post px ↔ ip_WP 0 42 [some (.ref x0)] [.ref s1, .ref s1, .ref s0] (G, F, I, J) b post px := ip_nx_iff ((ip_st_of f0_41).trans rfl)
theorem f0_42 : ip_fetch 0 42 = some (.aload_n 0, 1) := by decide +kernel
theorem s0_42 {x0 : Nat} {s0 : Nat} {s1 : Nat} {s2 : Nat} : ip_WP 0 42 [some (.ref x0)] [.ref s2, .ref s1, .ref s0] (G, F, I, J) b post px ↔ ip_WP 0 43 [some (.ref x0)] [.ref x0, .ref s2, .ref s1, .ref s0] (G, F, I, J) b post px := ip_nx_iff ((ip_st_of f0_42).trans rfl)
theorem f0_43 : ip_fetch 0 43 = some (.getfield 10, 3) := by decide +kernel
set_option maxRecDepth 100000 in
theorem s0_43 {x0 : Nat} {s0 : Nat} {s1 : Nat} {s2 : Nat} {s3 : Nat} : ip_WP 0 43 [some (.ref x0)] [.ref s3, .ref s2, .ref s1, .ref s0] (G, F, I, J) b post px ↔ (ip_isO G s3 0 = true ∧ ip_WP 0 46 [some (.ref x0)] [F s3 0, .ref s2, .ref s1, .ref s0] (G, F, I, J) b post px) := ip_s_getf f0_43 (by decide +kernel)
theorem f0_46 : ip_fetch 0 46 = some (.aload_n 0, 1) := by decide +kernel
theorem s0_46 {x0 : Nat} {s0 : Nat} {s1 : Nat} {s2 : Nat} {s3 : Nat} : ip_WP 0 46 [some (.ref x0)] [.ref s3, .ref s2, .ref s1, .ref s0] (G, F, I, J) b post px ↔ ip_WP 0 47 [some (.ref x0)] [.ref x0, .ref s3, .ref s2, .ref s1, .ref s0] (G, F, I, J) b post px := ip_nx_iff ((ip_st_of f0_46).trans rfl)
theorem f0_47 : ip_fetch 0 47 = some (.getfield 22, 3) := by decide +kernel
set_option maxRecDepth 100000 in
theorem s0_47 {x0 : Nat} {s0 : Nat} {s1 : Nat} {s2 : Nat} {s3 : Nat} {s4 : Nat} : ip_WP 0 47 [some (.ref x0)] [.ref s4, .ref s3, .ref s2, .ref s1, .ref s0] (G, F, I, J) b post px ↔ (ip_isO G s4 0 = true ∧ ip_WP 0 50 [some (.ref x0)] [F s4 2, .ref s3, .ref s2, .ref s1, .ref s0] (G, F, I, J) b post px) := ip_s_getf f0_47 (by decide +kernel)
theorem f0_50 : ip_fetch 0 50 = some (.invokespecial 28, 3) := by decide +kernel
set_option maxRecDepth 100000 in
theorem s0_50 {x0 : Nat} {s0 : Nat} {s1 : Nat} {s2 : Nat} {s3 : Nat} {s4 : Nat} : ip_WP 0 50 [some (.ref x0)] [.ref s4, .ref s3, .ref s2, .ref s1, .ref s0] (G, F, I, J) b post px ↔ (ip_wfc G.length [some (.ref x0)] [.ref s1, .ref s0] = true ∧ (ip_bud 160 b = true ∧ ip_WP 160 0 [some (.ref s2), some (.ref s3), some (.ref s4)] [] (G, F, I, J) (3, 25) (fun r h' => ip_WP 0 53 [some (.ref x0)] (r.toList ++ [.ref s1, .ref s0]) h' (ip_rst 160 b) post px) (fun _ _ => False))) := ip_ck_iff (x := if ip_bud 160 b = true then ip_cl 160 [some (.ref s2), some (.ref s3), some (.ref s4)] [.ref s1, .ref s0] (3, 25) (ip_rst 160 b) else none) ((ip_st_of f0_50).trans rfl) (fun hs => ip_ck_iff (x := ip_cl 160 [some (.ref s2), some (.ref s3), some (.ref s4)] [.ref s1, .ref s0] (3, 25) (ip_rst 160 b)) hs (ip_cl_iff))
theorem f0_53 : ip_fetch 0 53 = some (.putfield 31, 3) := by decide +kernel
set_option maxRecDepth 100000 in
theorem s0_53 {x0 : Nat} {s0 : Nat} {s1 : Nat} : ip_WP 0 53 [some (.ref x0)] [.ref s1, .ref s0] (G, F, I, J) b post px ↔ (ip_isO G s0 0 = true ∧ s1 < G.length ∧ ip_WP 0 56 [some (.ref x0)] [] (G, ip_up F s0 3 (.ref s1), I, J) b post px) := ip_s_putR f0_53 (by decide +kernel) rfl
theorem f0_56 : ip_fetch 0 56 = some (.aload_n 0, 1) := by decide +kernel
theorem s0_56 {x0 : Nat} : ip_WP 0 56 [some (.ref x0)] [] (G, F, I, J) b post px ↔ ip_WP 0 57 [some (.ref x0)] [.ref x0] (G, F, I, J) b post px := ip_nx_iff ((ip_st_of f0_56).trans rfl)
theorem f0_57 : ip_fetch 0 57 = some (.new 35, 3) := by decide +kernel
set_option maxRecDepth 100000 in
theorem s0_57 {x0 : Nat} {s0 : Nat} : ip_WP 0 57 [some (.ref x0)] [.ref s0] (G, F, I, J) b post px ↔ (ip_wfc G.length [some (.ref x0)] [.ref s0] = true ∧ (1 ≤ b.1 ∧ 2 ≤ b.2 ∧ G.length < ip_SC) ∧ ip_WP 0 60 [some (.ref x0)] [.ref G.length, .ref s0] (G ++ [.inr (7, 2)], fun a j => if a = G.length then ip_dfl (ip_fty 7 j) else F a j, I, J) (b.1 - 1, b.2 - 2) post px) := ip_s_new f0_57 rfl rfl rfl rfl
theorem f0_60 : ip_fetch 0 60 = some (.dup, 1) := by decide +kernel
theorem s0_60 {x0 : Nat} {s0 : Nat} {s1 : Nat} : ip_WP 0 60 [some (.ref x0)] [.ref s1, .ref s0] (G, F, I, J) b post px ↔ ip_WP 0 61 [some (.ref x0)] [.ref s1, .ref s1, .ref s0] (G, F, I, J) b post px := ip_nx_iff ((ip_st_of f0_60).trans rfl)
theorem f0_61 : ip_fetch 0 61 = some (.aload_n 0, 1) := by decide +kernel
theorem s0_61 {x0 : Nat} {s0 : Nat} {s1 : Nat} {s2 : Nat} : ip_WP 0 61 [some (.ref x0)] [.ref s2, .ref s1, .ref s0] (G, F, I, J) b post px ↔ ip_WP 0 62 [some (.ref x0)] [.ref x0, .ref s2, .ref s1, .ref s0] (G, F, I, J) b post px := ip_nx_iff ((ip_st_of f0_61).trans rfl)
theorem f0_62 : ip_fetch 0 62 = some (.getfield 22, 3) := by decide +kernel
set_option maxRecDepth 100000 in
theorem s0_62 {x0 : Nat} {s0 : Nat} {s1 : Nat} {s2 : Nat} {s3 : Nat} : ip_WP 0 62 [some (.ref x0)] [.ref s3, .ref s2, .ref s1, .ref s0] (G, F, I, J) b post px ↔ (ip_isO G s3 0 = true ∧ ip_WP 0 65 [some (.ref x0)] [F s3 2, .ref s2, .ref s1, .ref s0] (G, F, I, J) b post px) := ip_s_getf f0_62 (by decide +kernel)
theorem f0_65 : ip_fetch 0 65 = some (.aload_n 0, 1) := by decide +kernel
theorem s0_65 {x0 : Nat} {s0 : Nat} {s1 : Nat} {s2 : Nat} {s3 : Nat} : ip_WP 0 65 [some (.ref x0)] [.ref s3, .ref s2, .ref s1, .ref s0] (G, F, I, J) b post px ↔ ip_WP 0 66 [some (.ref x0)] [.ref x0, .ref s3, .ref s2, .ref s1, .ref s0] (G, F, I, J) b post px := ip_nx_iff ((ip_st_of f0_65).trans rfl)
theorem f0_66 : ip_fetch 0 66 = some (.getfield 16, 3) := by decide +kernel
set_option maxRecDepth 100000 in
theorem s0_66 {x0 : Nat} {s0 : Nat} {s1 : Nat} {s2 : Nat} {s3 : Nat} {s4 : Nat} : ip_WP 0 66 [some (.ref x0)] [.ref s4, .ref s3, .ref s2, .ref s1, .ref s0] (G, F, I, J) b post px ↔ (ip_isO G s4 0 = true ∧ ip_WP 0 69 [some (.ref x0)] [F s4 1, .ref s3, .ref s2, .ref s1, .ref s0] (G, F, I, J) b post px) := ip_s_getf f0_66 (by decide +kernel)
theorem f0_69 : ip_fetch 0 69 = some (.invokespecial 37, 3) := by decide +kernel
set_option maxRecDepth 100000 in
theorem s0_69 {x0 : Nat} {s0 : Nat} {s1 : Nat} {s2 : Nat} {s3 : Nat} {s4 : Nat} : ip_WP 0 69 [some (.ref x0)] [.ref s4, .ref s3, .ref s2, .ref s1, .ref s0] (G, F, I, J) b post px ↔ ip_WP 149 0 [some (.ref s2), some (.ref s3), some (.ref s4)] [] (G, F, I, J) (0, 0) (fun r h' => ip_WP 0 72 [some (.ref x0)] (r.toList ++ [.ref s1, .ref s0]) h' b post px) (fun _ _ => False) := ip_cl_iff ((ip_st_of f0_69).trans (rfl : _ = ip_cl 149 [some (.ref s2), some (.ref s3), some (.ref s4)] [.ref s1, .ref s0] (0, 0) b))
theorem f0_72 : ip_fetch 0 72 = some (.putfield 40, 3) := by decide +kernel
set_option maxRecDepth 100000 in
theorem s0_72 {x0 : Nat} {s0 : Nat} {s1 : Nat} : ip_WP 0 72 [some (.ref x0)] [.ref s1, .ref s0] (G, F, I, J) b post px ↔ (ip_isO G s0 0 = true ∧ s1 < G.length ∧ ip_WP 0 75 [some (.ref x0)] [] (G, ip_up F s0 4 (.ref s1), I, J) b post px) := ip_s_putR f0_72 (by decide +kernel) rfl
theorem f0_75 : ip_fetch 0 75 = some (.aload_n 0, 1) := by decide +kernel
theorem s0_75 {x0 : Nat} : ip_WP 0 75 [some (.ref x0)] [] (G, F, I, J) b post px ↔ ip_WP 0 76 [some (.ref x0)] [.ref x0] (G, F, I, J) b post px := ip_nx_iff ((ip_st_of f0_75).trans rfl)
theorem f0_76 : ip_fetch 0 76 = some (.new 44, 3) := by decide +kernel
set_option maxRecDepth 100000 in
theorem s0_76 {x0 : Nat} {s0 : Nat} : ip_WP 0 76 [some (.ref x0)] [.ref s0] (G, F, I, J) b post px ↔ (ip_wfc G.length [some (.ref x0)] [.ref s0] = true ∧ (1 ≤ b.1 ∧ 3 ≤ b.2 ∧ G.length < ip_SC) ∧ ip_WP 0 79 [some (.ref x0)] [.ref G.length, .ref s0] (G ++ [.inr (4, 3)], fun a j => if a = G.length then ip_dfl (ip_fty 4 j) else F a j, I, J) (b.1 - 1, b.2 - 3) post px) := ip_s_new f0_76 rfl rfl rfl rfl
theorem f0_79 : ip_fetch 0 79 = some (.dup, 1) := by decide +kernel
theorem s0_79 {x0 : Nat} {s0 : Nat} {s1 : Nat} : ip_WP 0 79 [some (.ref x0)] [.ref s1, .ref s0] (G, F, I, J) b post px ↔ ip_WP 0 80 [some (.ref x0)] [.ref s1, .ref s1, .ref s0] (G, F, I, J) b post px := ip_nx_iff ((ip_st_of f0_79).trans rfl)
theorem f0_80 : ip_fetch 0 80 = some (.bipush 52, 2) := by decide +kernel
theorem s0_80 {x0 : Nat} {s0 : Nat} {s1 : Nat} {s2 : Nat} : ip_WP 0 80 [some (.ref x0)] [.ref s2, .ref s1, .ref s0] (G, F, I, J) b post px ↔ ip_WP 0 82 [some (.ref x0)] [.int 52, .ref s2, .ref s1, .ref s0] (G, F, I, J) b post px := ip_s_bipush f0_80 (by decide)
theorem f0_82 : ip_fetch 0 82 = some (.invokespecial 48, 3) := by decide +kernel
set_option maxRecDepth 100000 in
theorem s0_82 {x0 : Nat} {s0 : Nat} {s1 : Nat} {s2 : Nat} {s3 : Int32} : ip_WP 0 82 [some (.ref x0)] [.int s3, .ref s2, .ref s1, .ref s0] (G, F, I, J) b post px ↔ (ip_wfc G.length [some (.ref x0)] [.ref s1, .ref s0] = true ∧ (ip_bud 119 b = true ∧ ip_WP 119 0 [some (.ref s2), some (.int s3)] [] (G, F, I, J) (4, 140) (fun r h' => ip_WP 0 85 [some (.ref x0)] (r.toList ++ [.ref s1, .ref s0]) h' (ip_rst 119 b) post px) (fun _ _ => False))) := ip_ck_iff (x := if ip_bud 119 b = true then ip_cl 119 [some (.ref s2), some (.int s3)] [.ref s1, .ref s0] (4, 140) (ip_rst 119 b) else none) ((ip_st_of f0_82).trans rfl) (fun hs => ip_ck_iff (x := ip_cl 119 [some (.ref s2), some (.int s3)] [.ref s1, .ref s0] (4, 140) (ip_rst 119 b)) hs (ip_cl_iff))
theorem f0_85 : ip_fetch 0 85 = some (.putfield 51, 3) := by decide +kernel
set_option maxRecDepth 100000 in
theorem s0_85 {x0 : Nat} {s0 : Nat} {s1 : Nat} : ip_WP 0 85 [some (.ref x0)] [.ref s1, .ref s0] (G, F, I, J) b post px ↔ (ip_isO G s0 0 = true ∧ s1 < G.length ∧ ip_WP 0 88 [some (.ref x0)] [] (G, ip_up F s0 5 (.ref s1), I, J) b post px) := ip_s_putR f0_85 (by decide +kernel) rfl
theorem f0_88 : ip_fetch 0 88 = some (.aload_n 0, 1) := by decide +kernel
theorem s0_88 {x0 : Nat} : ip_WP 0 88 [some (.ref x0)] [] (G, F, I, J) b post px ↔ ip_WP 0 89 [some (.ref x0)] [.ref x0] (G, F, I, J) b post px := ip_nx_iff ((ip_st_of f0_88).trans rfl)
theorem f0_89 : ip_fetch 0 89 = some (.new 44, 3) := by decide +kernel
set_option maxRecDepth 100000 in
theorem s0_89 {x0 : Nat} {s0 : Nat} : ip_WP 0 89 [some (.ref x0)] [.ref s0] (G, F, I, J) b post px ↔ (ip_wfc G.length [some (.ref x0)] [.ref s0] = true ∧ (1 ≤ b.1 ∧ 3 ≤ b.2 ∧ G.length < ip_SC) ∧ ip_WP 0 92 [some (.ref x0)] [.ref G.length, .ref s0] (G ++ [.inr (4, 3)], fun a j => if a = G.length then ip_dfl (ip_fty 4 j) else F a j, I, J) (b.1 - 1, b.2 - 3) post px) := ip_s_new f0_89 rfl rfl rfl rfl
theorem f0_92 : ip_fetch 0 92 = some (.dup, 1) := by decide +kernel
theorem s0_92 {x0 : Nat} {s0 : Nat} {s1 : Nat} : ip_WP 0 92 [some (.ref x0)] [.ref s1, .ref s0] (G, F, I, J) b post px ↔ ip_WP 0 93 [some (.ref x0)] [.ref s1, .ref s1, .ref s0] (G, F, I, J) b post px := ip_nx_iff ((ip_st_of f0_92).trans rfl)
theorem f0_93 : ip_fetch 0 93 = some (.bipush 68, 2) := by decide +kernel
theorem s0_93 {x0 : Nat} {s0 : Nat} {s1 : Nat} {s2 : Nat} : ip_WP 0 93 [some (.ref x0)] [.ref s2, .ref s1, .ref s0] (G, F, I, J) b post px ↔ ip_WP 0 95 [some (.ref x0)] [.int 68, .ref s2, .ref s1, .ref s0] (G, F, I, J) b post px := ip_s_bipush f0_93 (by decide)
theorem f0_95 : ip_fetch 0 95 = some (.invokespecial 48, 3) := by decide +kernel
set_option maxRecDepth 100000 in
theorem s0_95 {x0 : Nat} {s0 : Nat} {s1 : Nat} {s2 : Nat} {s3 : Int32} : ip_WP 0 95 [some (.ref x0)] [.int s3, .ref s2, .ref s1, .ref s0] (G, F, I, J) b post px ↔ (ip_wfc G.length [some (.ref x0)] [.ref s1, .ref s0] = true ∧ (ip_bud 119 b = true ∧ ip_WP 119 0 [some (.ref s2), some (.int s3)] [] (G, F, I, J) (4, 140) (fun r h' => ip_WP 0 98 [some (.ref x0)] (r.toList ++ [.ref s1, .ref s0]) h' (ip_rst 119 b) post px) (fun _ _ => False))) := ip_ck_iff (x := if ip_bud 119 b = true then ip_cl 119 [some (.ref s2), some (.int s3)] [.ref s1, .ref s0] (4, 140) (ip_rst 119 b) else none) ((ip_st_of f0_95).trans rfl) (fun hs => ip_ck_iff (x := ip_cl 119 [some (.ref s2), some (.int s3)] [.ref s1, .ref s0] (4, 140) (ip_rst 119 b)) hs (ip_cl_iff))
theorem f0_98 : ip_fetch 0 98 = some (.putfield 55, 3) := by decide +kernel
set_option maxRecDepth 100000 in
theorem s0_98 {x0 : Nat} {s0 : Nat} {s1 : Nat} : ip_WP 0 98 [some (.ref x0)] [.ref s1, .ref s0] (G, F, I, J) b post px ↔ (ip_isO G s0 0 = true ∧ s1 < G.length ∧ ip_WP 0 101 [some (.ref x0)] [] (G, ip_up F s0 6 (.ref s1), I, J) b post px) := ip_s_putR f0_98 (by decide +kernel) rfl
theorem f0_101 : ip_fetch 0 101 = some (.aload_n 0, 1) := by decide +kernel
theorem s0_101 {x0 : Nat} : ip_WP 0 101 [some (.ref x0)] [] (G, F, I, J) b post px ↔ ip_WP 0 102 [some (.ref x0)] [.ref x0] (G, F, I, J) b post px := ip_nx_iff ((ip_st_of f0_101).trans rfl)
theorem f0_102 : ip_fetch 0 102 = some (.getfield 22, 3) := by decide +kernel
set_option maxRecDepth 100000 in
theorem s0_102 {x0 : Nat} {s0 : Nat} : ip_WP 0 102 [some (.ref x0)] [.ref s0] (G, F, I, J) b post px ↔ (ip_isO G s0 0 = true ∧ ip_WP 0 105 [some (.ref x0)] [F s0 2] (G, F, I, J) b post px) := ip_s_getf f0_102 (by decide +kernel)
theorem f0_105 : ip_fetch 0 105 = some (.aload_n 0, 1) := by decide +kernel
theorem s0_105 {x0 : Nat} {s0 : Nat} : ip_WP 0 105 [some (.ref x0)] [.ref s0] (G, F, I, J) b post px ↔ ip_WP 0 106 [some (.ref x0)] [.ref x0, .ref s0] (G, F, I, J) b post px := ip_nx_iff ((ip_st_of f0_105).trans rfl)
theorem f0_106 : ip_fetch 0 106 = some (.getfield 51, 3) := by decide +kernel
set_option maxRecDepth 100000 in
theorem s0_106 {x0 : Nat} {s0 : Nat} {s1 : Nat} : ip_WP 0 106 [some (.ref x0)] [.ref s1, .ref s0] (G, F, I, J) b post px ↔ (ip_isO G s1 0 = true ∧ ip_WP 0 109 [some (.ref x0)] [F s1 5, .ref s0] (G, F, I, J) b post px) := ip_s_getf f0_106 (by decide +kernel)
theorem f0_109 : ip_fetch 0 109 = some (.invokestatic 58, 3) := by decide +kernel
set_option maxRecDepth 100000 in
theorem s0_109 {x0 : Nat} {s0 : Nat} {s1 : Nat} : ip_WP 0 109 [some (.ref x0)] [.ref s1, .ref s0] (G, F, I, J) b post px ↔ ip_WP 96 0 [some (.ref s0), some (.ref s1), none, none] [] (G, F, I, J) (0, 0) (fun r h' => ip_WP 0 112 [some (.ref x0)] (r.toList ++ []) h' b post px) (fun _ _ => False) := ip_cl_iff ((ip_st_of f0_109).trans (rfl : _ = ip_cl 96 [some (.ref s0), some (.ref s1), none, none] [] (0, 0) b))
theorem f0_112 : ip_fetch 0 112 = some (.return_, 1) := by decide +kernel
theorem s0_112 {x0 : Nat} : ip_WP 0 112 [some (.ref x0)] [] (G, F, I, J) b post px ↔ post none (G, F, I, J) := ip_rt_iff ((ip_st_of f0_112).trans rfl)
theorem f1_0 : ip_fetch 1 0 = some (.aload_n 0, 1) := by decide +kernel
theorem s1_0 {x0 : Nat} {x1 : Int32} {x2 : Int32} {x3 : Int32} {x4 : Int32} : ip_WP 1 0 [some (.ref x0), some (.int x1), some (.int x2), some (.int x3), some (.int x4)] [] (G, F, I, J) b post px ↔ ip_WP 1 1 [some (.ref x0), some (.int x1), some (.int x2), some (.int x3), some (.int x4)] [.ref x0] (G, F, I, J) b post px := ip_nx_iff ((ip_st_of f1_0).trans rfl)
theorem f1_1 : ip_fetch 1 1 = some (.getfield 10, 3) := by decide +kernel
set_option maxRecDepth 100000 in
theorem s1_1 {x0 : Nat} {x1 : Int32} {x2 : Int32} {x3 : Int32} {x4 : Int32} {s0 : Nat} : ip_WP 1 1 [some (.ref x0), some (.int x1), some (.int x2), some (.int x3), some (.int x4)] [.ref s0] (G, F, I, J) b post px ↔ (ip_isO G s0 0 = true ∧ ip_WP 1 4 [some (.ref x0), some (.int x1), some (.int x2), some (.int x3), some (.int x4)] [F s0 0] (G, F, I, J) b post px) := ip_s_getf f1_1 (by decide +kernel)
theorem f1_4 : ip_fetch 1 4 = some (.invokevirtual 62, 3) := by decide +kernel
set_option maxRecDepth 100000 in
theorem s1_4 {x0 : Nat} {x1 : Int32} {x2 : Int32} {x3 : Int32} {x4 : Int32} {s0 : Nat} : ip_WP 1 4 [some (.ref x0), some (.int x1), some (.int x2), some (.int x3), some (.int x4)] [.ref s0] (G, F, I, J) b post px ↔ (ip_isO G s0 2 = true ∧ ip_WP 88 0 [some (.ref s0)] [] (G, F, I, J) (0, 0) (fun r h' => ip_WP 1 7 [some (.ref x0), some (.int x1), some (.int x2), some (.int x3), some (.int x4)] (r.toList ++ []) h' b post px) (fun _ _ => False)) := ip_ck_iff (x := ip_cl 88 [some (.ref s0)] [] (0, 0) b) ((ip_st_of f1_4).trans rfl) (ip_cl_iff)
theorem f1_7 : ip_fetch 1 7 = some (.bipush 16, 2) := by decide +kernel
theorem s1_7 {x0 : Nat} {x1 : Int32} {x2 : Int32} {x3 : Int32} {x4 : Int32} {s0 : Int32} : ip_WP 1 7 [some (.ref x0), some (.int x1), some (.int x2), some (.int x3), some (.int x4)] [.int s0] (G, F, I, J) b post px ↔ ip_WP 1 9 [some (.ref x0), some (.int x1), some (.int x2), some (.int x3), some (.int x4)] [.int 16, .int s0] (G, F, I, J) b post px := ip_s_bipush f1_7 (by decide)
theorem f1_9 : ip_fetch 1 9 = some (.iadd, 1) := by decide +kernel
theorem s1_9 {x0 : Nat} {x1 : Int32} {x2 : Int32} {x3 : Int32} {x4 : Int32} {s0 : Int32} {s1 : Int32} : ip_WP 1 9 [some (.ref x0), some (.int x1), some (.int x2), some (.int x3), some (.int x4)] [.int s1, .int s0] (G, F, I, J) b post px ↔ ip_WP 1 10 [some (.ref x0), some (.int x1), some (.int x2), some (.int x3), some (.int x4)] [.int (s0 + s1)] (G, F, I, J) b post px := ip_nx_iff ((ip_st_of f1_9).trans rfl)
theorem f1_10 : ip_fetch 1 10 = some (.sipush 4096, 3) := by decide +kernel
theorem s1_10 {x0 : Nat} {x1 : Int32} {x2 : Int32} {x3 : Int32} {x4 : Int32} {s0 : Int32} : ip_WP 1 10 [some (.ref x0), some (.int x1), some (.int x2), some (.int x3), some (.int x4)] [.int s0] (G, F, I, J) b post px ↔ ip_WP 1 13 [some (.ref x0), some (.int x1), some (.int x2), some (.int x3), some (.int x4)] [.int 4096, .int s0] (G, F, I, J) b post px := ip_s_sipush f1_10 (by decide)
theorem f1_13 : ip_fetch 1 13 = some (.if_icmp .le 13, 3) := by decide +kernel
theorem s1_13 {x0 : Nat} {x1 : Int32} {x2 : Int32} {x3 : Int32} {x4 : Int32} {s0 : Int32} {s1 : Int32} : ip_WP 1 13 [some (.ref x0), some (.int x1), some (.int x2), some (.int x3), some (.int x4)] [.int s1, .int s0] (G, F, I, J) b post px ↔ if s0 ≤ s1 then ip_WP 1 26 [some (.ref x0), some (.int x1), some (.int x2), some (.int x3), some (.int x4)] [] (G, F, I, J) b post px else ip_WP 1 16 [some (.ref x0), some (.int x1), some (.int x2), some (.int x3), some (.int x4)] [] (G, F, I, J) b post px := ip_s_ic_le f1_13 rfl
theorem f1_16 : ip_fetch 1 16 = some (.new 66, 3) := by decide +kernel
set_option maxRecDepth 100000 in
theorem s1_16 {x0 : Nat} {x1 : Int32} {x2 : Int32} {x3 : Int32} {x4 : Int32} : ip_WP 1 16 [some (.ref x0), some (.int x1), some (.int x2), some (.int x3), some (.int x4)] [] (G, F, I, J) b post px ↔ ((1 ≤ b.1 ∧ 6 ≤ b.2) ∧ px "java/lang/IllegalStateException" (G, F, I, J)) := ip_s_thr f1_16 rfl (Nat.le_of_ble_eq_true rfl)
theorem f1_26 : ip_fetch 1 26 = some (.aload_n 0, 1) := by decide +kernel
theorem s1_26 {x0 : Nat} {x1 : Int32} {x2 : Int32} {x3 : Int32} {x4 : Int32} : ip_WP 1 26 [some (.ref x0), some (.int x1), some (.int x2), some (.int x3), some (.int x4)] [] (G, F, I, J) b post px ↔ ip_WP 1 27 [some (.ref x0), some (.int x1), some (.int x2), some (.int x3), some (.int x4)] [.ref x0] (G, F, I, J) b post px := ip_nx_iff ((ip_st_of f1_26).trans rfl)
theorem f1_27 : ip_fetch 1 27 = some (.getfield 10, 3) := by decide +kernel
set_option maxRecDepth 100000 in
theorem s1_27 {x0 : Nat} {x1 : Int32} {x2 : Int32} {x3 : Int32} {x4 : Int32} {s0 : Nat} : ip_WP 1 27 [some (.ref x0), some (.int x1), some (.int x2), some (.int x3), some (.int x4)] [.ref s0] (G, F, I, J) b post px ↔ (ip_isO G s0 0 = true ∧ ip_WP 1 30 [some (.ref x0), some (.int x1), some (.int x2), some (.int x3), some (.int x4)] [F s0 0] (G, F, I, J) b post px) := ip_s_getf f1_27 (by decide +kernel)
theorem f1_30 : ip_fetch 1 30 = some (.iload_n 1, 1) := by decide +kernel
theorem s1_30 {x0 : Nat} {x1 : Int32} {x2 : Int32} {x3 : Int32} {x4 : Int32} {s0 : Nat} : ip_WP 1 30 [some (.ref x0), some (.int x1), some (.int x2), some (.int x3), some (.int x4)] [.ref s0] (G, F, I, J) b post px ↔ ip_WP 1 31 [some (.ref x0), some (.int x1), some (.int x2), some (.int x3), some (.int x4)] [.int x1, .ref s0] (G, F, I, J) b post px := ip_nx_iff ((ip_st_of f1_30).trans rfl)
theorem f1_31 : ip_fetch 1 31 = some (.invokevirtual 73, 3) := by decide +kernel
set_option maxRecDepth 100000 in
theorem s1_31 {x0 : Nat} {x1 : Int32} {x2 : Int32} {x3 : Int32} {x4 : Int32} {s0 : Nat} {s1 : Int32} : ip_WP 1 31 [some (.ref x0), some (.int x1), some (.int x2), some (.int x3), some (.int x4)] [.int s1, .ref s0] (G, F, I, J) b post px ↔ (ip_isO G s0 2 = true ∧ ip_WP 92 0 [some (.ref s0), some (.int s1), none] [] (G, F, I, J) (0, 0) (fun r h' => ip_WP 1 34 [some (.ref x0), some (.int x1), some (.int x2), some (.int x3), some (.int x4)] (r.toList ++ []) h' b post px) (fun _ _ => False)) := ip_ck_iff (x := ip_cl 92 [some (.ref s0), some (.int s1), none] [] (0, 0) b) ((ip_st_of f1_31).trans rfl) (ip_cl_iff)
theorem f1_34 : ip_fetch 1 34 = some (.aload_n 0, 1) := by decide +kernel
theorem s1_34 {x0 : Nat} {x1 : Int32} {x2 : Int32} {x3 : Int32} {x4 : Int32} : ip_WP 1 34 [some (.ref x0), some (.int x1), some (.int x2), some (.int x3), some (.int x4)] [] (G, F, I, J) b post px ↔ ip_WP 1 35 [some (.ref x0), some (.int x1), some (.int x2), some (.int x3), some (.int x4)] [.ref x0] (G, F, I, J) b post px := ip_nx_iff ((ip_st_of f1_34).trans rfl)
theorem f1_35 : ip_fetch 1 35 = some (.getfield 10, 3) := by decide +kernel
set_option maxRecDepth 100000 in
theorem s1_35 {x0 : Nat} {x1 : Int32} {x2 : Int32} {x3 : Int32} {x4 : Int32} {s0 : Nat} : ip_WP 1 35 [some (.ref x0), some (.int x1), some (.int x2), some (.int x3), some (.int x4)] [.ref s0] (G, F, I, J) b post px ↔ (ip_isO G s0 0 = true ∧ ip_WP 1 38 [some (.ref x0), some (.int x1), some (.int x2), some (.int x3), some (.int x4)] [F s0 0] (G, F, I, J) b post px) := ip_s_getf f1_35 (by decide +kernel)
theorem f1_38 : ip_fetch 1 38 = some (.iload_n 2, 1) := by decide +kernel
theorem s1_38 {x0 : Nat} {x1 : Int32} {x2 : Int32} {x3 : Int32} {x4 : Int32} {s0 : Nat} : ip_WP 1 38 [some (.ref x0), some (.int x1), some (.int x2), some (.int x3), some (.int x4)] [.ref s0] (G, F, I, J) b post px ↔ ip_WP 1 39 [some (.ref x0), some (.int x1), some (.int x2), some (.int x3), some (.int x4)] [.int x2, .ref s0] (G, F, I, J) b post px := ip_nx_iff ((ip_st_of f1_38).trans rfl)
theorem f1_39 : ip_fetch 1 39 = some (.invokevirtual 73, 3) := by decide +kernel
set_option maxRecDepth 100000 in
theorem s1_39 {x0 : Nat} {x1 : Int32} {x2 : Int32} {x3 : Int32} {x4 : Int32} {s0 : Nat} {s1 : Int32} : ip_WP 1 39 [some (.ref x0), some (.int x1), some (.int x2), some (.int x3), some (.int x4)] [.int s1, .ref s0] (G, F, I, J) b post px ↔ (ip_isO G s0 2 = true ∧ ip_WP 92 0 [some (.ref s0), some (.int s1), none] [] (G, F, I, J) (0, 0) (fun r h' => ip_WP 1 42 [some (.ref x0), some (.int x1), some (.int x2), some (.int x3), some (.int x4)] (r.toList ++ []) h' b post px) (fun _ _ => False)) := ip_ck_iff (x := ip_cl 92 [some (.ref s0), some (.int s1), none] [] (0, 0) b) ((ip_st_of f1_39).trans rfl) (ip_cl_iff)
theorem f1_42 : ip_fetch 1 42 = some (.aload_n 0, 1) := by decide +kernel
theorem s1_42 {x0 : Nat} {x1 : Int32} {x2 : Int32} {x3 : Int32} {x4 : Int32} : ip_WP 1 42 [some (.ref x0), some (.int x1), some (.int x2), some (.int x3), some (.int x4)] [] (G, F, I, J) b post px ↔ ip_WP 1 43 [some (.ref x0), some (.int x1), some (.int x2), some (.int x3), some (.int x4)] [.ref x0] (G, F, I, J) b post px := ip_nx_iff ((ip_st_of f1_42).trans rfl)
theorem f1_43 : ip_fetch 1 43 = some (.getfield 10, 3) := by decide +kernel
set_option maxRecDepth 100000 in
theorem s1_43 {x0 : Nat} {x1 : Int32} {x2 : Int32} {x3 : Int32} {x4 : Int32} {s0 : Nat} : ip_WP 1 43 [some (.ref x0), some (.int x1), some (.int x2), some (.int x3), some (.int x4)] [.ref s0] (G, F, I, J) b post px ↔ (ip_isO G s0 0 = true ∧ ip_WP 1 46 [some (.ref x0), some (.int x1), some (.int x2), some (.int x3), some (.int x4)] [F s0 0] (G, F, I, J) b post px) := ip_s_getf f1_43 (by decide +kernel)
theorem f1_46 : ip_fetch 1 46 = some (.iload_n 3, 1) := by decide +kernel
theorem s1_46 {x0 : Nat} {x1 : Int32} {x2 : Int32} {x3 : Int32} {x4 : Int32} {s0 : Nat} : ip_WP 1 46 [some (.ref x0), some (.int x1), some (.int x2), some (.int x3), some (.int x4)] [.ref s0] (G, F, I, J) b post px ↔ ip_WP 1 47 [some (.ref x0), some (.int x1), some (.int x2), some (.int x3), some (.int x4)] [.int x3, .ref s0] (G, F, I, J) b post px := ip_nx_iff ((ip_st_of f1_46).trans rfl)
theorem f1_47 : ip_fetch 1 47 = some (.invokevirtual 73, 3) := by decide +kernel
set_option maxRecDepth 100000 in
theorem s1_47 {x0 : Nat} {x1 : Int32} {x2 : Int32} {x3 : Int32} {x4 : Int32} {s0 : Nat} {s1 : Int32} : ip_WP 1 47 [some (.ref x0), some (.int x1), some (.int x2), some (.int x3), some (.int x4)] [.int s1, .ref s0] (G, F, I, J) b post px ↔ (ip_isO G s0 2 = true ∧ ip_WP 92 0 [some (.ref s0), some (.int s1), none] [] (G, F, I, J) (0, 0) (fun r h' => ip_WP 1 50 [some (.ref x0), some (.int x1), some (.int x2), some (.int x3), some (.int x4)] (r.toList ++ []) h' b post px) (fun _ _ => False)) := ip_ck_iff (x := ip_cl 92 [some (.ref s0), some (.int s1), none] [] (0, 0) b) ((ip_st_of f1_47).trans rfl) (ip_cl_iff)
theorem f1_50 : ip_fetch 1 50 = some (.aload_n 0, 1) := by decide +kernel
theorem s1_50 {x0 : Nat} {x1 : Int32} {x2 : Int32} {x3 : Int32} {x4 : Int32} : ip_WP 1 50 [some (.ref x0), some (.int x1), some (.int x2), some (.int x3), some (.int x4)] [] (G, F, I, J) b post px ↔ ip_WP 1 51 [some (.ref x0), some (.int x1), some (.int x2), some (.int x3), some (.int x4)] [.ref x0] (G, F, I, J) b post px := ip_nx_iff ((ip_st_of f1_50).trans rfl)
theorem f1_51 : ip_fetch 1 51 = some (.getfield 10, 3) := by decide +kernel
set_option maxRecDepth 100000 in
theorem s1_51 {x0 : Nat} {x1 : Int32} {x2 : Int32} {x3 : Int32} {x4 : Int32} {s0 : Nat} : ip_WP 1 51 [some (.ref x0), some (.int x1), some (.int x2), some (.int x3), some (.int x4)] [.ref s0] (G, F, I, J) b post px ↔ (ip_isO G s0 0 = true ∧ ip_WP 1 54 [some (.ref x0), some (.int x1), some (.int x2), some (.int x3), some (.int x4)] [F s0 0] (G, F, I, J) b post px) := ip_s_getf f1_51 (by decide +kernel)
theorem f1_54 : ip_fetch 1 54 = some (.iload 4, 2) := by decide +kernel
theorem s1_54 {x0 : Nat} {x1 : Int32} {x2 : Int32} {x3 : Int32} {x4 : Int32} {s0 : Nat} : ip_WP 1 54 [some (.ref x0), some (.int x1), some (.int x2), some (.int x3), some (.int x4)] [.ref s0] (G, F, I, J) b post px ↔ ip_WP 1 56 [some (.ref x0), some (.int x1), some (.int x2), some (.int x3), some (.int x4)] [.int x4, .ref s0] (G, F, I, J) b post px := ip_nx_iff ((ip_st_of f1_54).trans rfl)
theorem f1_56 : ip_fetch 1 56 = some (.invokevirtual 73, 3) := by decide +kernel
set_option maxRecDepth 100000 in
theorem s1_56 {x0 : Nat} {x1 : Int32} {x2 : Int32} {x3 : Int32} {x4 : Int32} {s0 : Nat} {s1 : Int32} : ip_WP 1 56 [some (.ref x0), some (.int x1), some (.int x2), some (.int x3), some (.int x4)] [.int s1, .ref s0] (G, F, I, J) b post px ↔ (ip_isO G s0 2 = true ∧ ip_WP 92 0 [some (.ref s0), some (.int s1), none] [] (G, F, I, J) (0, 0) (fun r h' => ip_WP 1 59 [some (.ref x0), some (.int x1), some (.int x2), some (.int x3), some (.int x4)] (r.toList ++ []) h' b post px) (fun _ _ => False)) := ip_ck_iff (x := ip_cl 92 [some (.ref s0), some (.int s1), none] [] (0, 0) b) ((ip_st_of f1_56).trans rfl) (ip_cl_iff)
theorem f1_59 : ip_fetch 1 59 = some (.aload_n 0, 1) := by decide +kernel
theorem s1_59 {x0 : Nat} {x1 : Int32} {x2 : Int32} {x3 : Int32} {x4 : Int32} : ip_WP 1 59 [some (.ref x0), some (.int x1), some (.int x2), some (.int x3), some (.int x4)] [] (G, F, I, J) b post px ↔ ip_WP 1 60 [some (.ref x0), some (.int x1), some (.int x2), some (.int x3), some (.int x4)] [.ref x0] (G, F, I, J) b post px := ip_nx_iff ((ip_st_of f1_59).trans rfl)
theorem f1_60 : ip_fetch 1 60 = some (.getfield 10, 3) := by decide +kernel
set_option maxRecDepth 100000 in
theorem s1_60 {x0 : Nat} {x1 : Int32} {x2 : Int32} {x3 : Int32} {x4 : Int32} {s0 : Nat} : ip_WP 1 60 [some (.ref x0), some (.int x1), some (.int x2), some (.int x3), some (.int x4)] [.ref s0] (G, F, I, J) b post px ↔ (ip_isO G s0 0 = true ∧ ip_WP 1 63 [some (.ref x0), some (.int x1), some (.int x2), some (.int x3), some (.int x4)] [F s0 0] (G, F, I, J) b post px) := ip_s_getf f1_60 (by decide +kernel)
theorem f1_63 : ip_fetch 1 63 = some (.invokevirtual 62, 3) := by decide +kernel
set_option maxRecDepth 100000 in
theorem s1_63 {x0 : Nat} {x1 : Int32} {x2 : Int32} {x3 : Int32} {x4 : Int32} {s0 : Nat} : ip_WP 1 63 [some (.ref x0), some (.int x1), some (.int x2), some (.int x3), some (.int x4)] [.ref s0] (G, F, I, J) b post px ↔ (ip_isO G s0 2 = true ∧ ip_WP 88 0 [some (.ref s0)] [] (G, F, I, J) (0, 0) (fun r h' => ip_WP 1 66 [some (.ref x0), some (.int x1), some (.int x2), some (.int x3), some (.int x4)] (r.toList ++ []) h' b post px) (fun _ _ => False)) := ip_ck_iff (x := ip_cl 88 [some (.ref s0)] [] (0, 0) b) ((ip_st_of f1_63).trans rfl) (ip_cl_iff)
theorem f1_66 : ip_fetch 1 66 = some (.ireturn, 1) := by decide +kernel
theorem s1_66 {x0 : Nat} {x1 : Int32} {x2 : Int32} {x3 : Int32} {x4 : Int32} {s0 : Int32} : ip_WP 1 66 [some (.ref x0), some (.int x1), some (.int x2), some (.int x3), some (.int x4)] [.int s0] (G, F, I, J) b post px ↔ post (some (.int s0)) (G, F, I, J) := ip_rt_iff ((ip_st_of f1_66).trans rfl)
theorem f2_0 : ip_fetch 2 0 = some (.iload_n 1, 1) := by decide +kernel
theorem s2_0 {x0 : Nat} {x1 : Int32} : ip_WP 2 0 [some (.ref x0), some (.int x1)] [] (G, F, I, J) b post px ↔ ip_WP 2 1 [some (.ref x0), some (.int x1)] [.int x1] (G, F, I, J) b post px := ip_nx_iff ((ip_st_of f2_0).trans rfl)
theorem f2_1 : ip_fetch 2 1 = some (.ifCond .lt 9, 3) := by decide +kernel
theorem s2_1 {x0 : Nat} {x1 : Int32} {s0 : Int32} : ip_WP 2 1 [some (.ref x0), some (.int x1)] [.int s0] (G, F, I, J) b post px ↔ if s0 < 0 then ip_WP 2 10 [some (.ref x0), some (.int x1)] [] (G, F, I, J) b post px else ip_WP 2 4 [some (.ref x0), some (.int x1)] [] (G, F, I, J) b post px := ip_s_if_lt f2_1 rfl
theorem f2_4 : ip_fetch 2 4 = some (.iload_n 1, 1) := by decide +kernel
theorem s2_4 {x0 : Nat} {x1 : Int32} : ip_WP 2 4 [some (.ref x0), some (.int x1)] [] (G, F, I, J) b post px ↔ ip_WP 2 5 [some (.ref x0), some (.int x1)] [.int x1] (G, F, I, J) b post px := ip_nx_iff ((ip_st_of f2_4).trans rfl)
theorem f2_5 : ip_fetch 2 5 = some (.bipush 16, 2) := by decide +kernel
theorem s2_5 {x0 : Nat} {x1 : Int32} {s0 : Int32} : ip_WP 2 5 [some (.ref x0), some (.int x1)] [.int s0] (G, F, I, J) b post px ↔ ip_WP 2 7 [some (.ref x0), some (.int x1)] [.int 16, .int s0] (G, F, I, J) b post px := ip_s_bipush f2_5 (by decide)
theorem f2_7 : ip_fetch 2 7 = some (.if_icmp .le 13, 3) := by decide +kernel
theorem s2_7 {x0 : Nat} {x1 : Int32} {s0 : Int32} {s1 : Int32} : ip_WP 2 7 [some (.ref x0), some (.int x1)] [.int s1, .int s0] (G, F, I, J) b post px ↔ if s0 ≤ s1 then ip_WP 2 20 [some (.ref x0), some (.int x1)] [] (G, F, I, J) b post px else ip_WP 2 10 [some (.ref x0), some (.int x1)] [] (G, F, I, J) b post px := ip_s_ic_le f2_7 rfl
theorem f2_10 : ip_fetch 2 10 = some (.new 76, 3) := by decide +kernel
set_option maxRecDepth 100000 in
theorem s2_10 {x0 : Nat} {x1 : Int32} : ip_WP 2 10 [some (.ref x0), some (.int x1)] [] (G, F, I, J) b post px ↔ ((1 ≤ b.1 ∧ 6 ≤ b.2) ∧ px "java/lang/IllegalArgumentException" (G, F, I, J)) := ip_s_thr f2_10 rfl (Nat.le_of_ble_eq_true rfl)
theorem f2_20 : ip_fetch 2 20 = some (.aload_n 0, 1) := by decide +kernel
theorem s2_20 {x0 : Nat} {x1 : Int32} : ip_WP 2 20 [some (.ref x0), some (.int x1)] [] (G, F, I, J) b post px ↔ ip_WP 2 21 [some (.ref x0), some (.int x1)] [.ref x0] (G, F, I, J) b post px := ip_nx_iff ((ip_st_of f2_20).trans rfl)
theorem f2_21 : ip_fetch 2 21 = some (.getfield 10, 3) := by decide +kernel
set_option maxRecDepth 100000 in
theorem s2_21 {x0 : Nat} {x1 : Int32} {s0 : Nat} : ip_WP 2 21 [some (.ref x0), some (.int x1)] [.ref s0] (G, F, I, J) b post px ↔ (ip_isO G s0 0 = true ∧ ip_WP 2 24 [some (.ref x0), some (.int x1)] [F s0 0] (G, F, I, J) b post px) := ip_s_getf f2_21 (by decide +kernel)
theorem f2_24 : ip_fetch 2 24 = some (.invokevirtual 62, 3) := by decide +kernel
set_option maxRecDepth 100000 in
theorem s2_24 {x0 : Nat} {x1 : Int32} {s0 : Nat} : ip_WP 2 24 [some (.ref x0), some (.int x1)] [.ref s0] (G, F, I, J) b post px ↔ (ip_isO G s0 2 = true ∧ ip_WP 88 0 [some (.ref s0)] [] (G, F, I, J) (0, 0) (fun r h' => ip_WP 2 27 [some (.ref x0), some (.int x1)] (r.toList ++ []) h' b post px) (fun _ _ => False)) := ip_ck_iff (x := ip_cl 88 [some (.ref s0)] [] (0, 0) b) ((ip_st_of f2_24).trans rfl) (ip_cl_iff)
theorem f2_27 : ip_fetch 2 27 = some (.bipush 16, 2) := by decide +kernel
theorem s2_27 {x0 : Nat} {x1 : Int32} {s0 : Int32} : ip_WP 2 27 [some (.ref x0), some (.int x1)] [.int s0] (G, F, I, J) b post px ↔ ip_WP 2 29 [some (.ref x0), some (.int x1)] [.int 16, .int s0] (G, F, I, J) b post px := ip_s_bipush f2_27 (by decide)
theorem f2_29 : ip_fetch 2 29 = some (.if_icmp .ge 13, 3) := by decide +kernel
theorem s2_29 {x0 : Nat} {x1 : Int32} {s0 : Int32} {s1 : Int32} : ip_WP 2 29 [some (.ref x0), some (.int x1)] [.int s1, .int s0] (G, F, I, J) b post px ↔ if s1 ≤ s0 then ip_WP 2 42 [some (.ref x0), some (.int x1)] [] (G, F, I, J) b post px else ip_WP 2 32 [some (.ref x0), some (.int x1)] [] (G, F, I, J) b post px := ip_s_ic_ge f2_29 rfl
theorem f2_32 : ip_fetch 2 32 = some (.new 66, 3) := by decide +kernel
set_option maxRecDepth 100000 in
theorem s2_32 {x0 : Nat} {x1 : Int32} : ip_WP 2 32 [some (.ref x0), some (.int x1)] [] (G, F, I, J) b post px ↔ ((1 ≤ b.1 ∧ 6 ≤ b.2) ∧ px "java/lang/IllegalStateException" (G, F, I, J)) := ip_s_thr f2_32 rfl (Nat.le_of_ble_eq_true rfl)
theorem f2_42 : ip_fetch 2 42 = some (.aload_n 0, 1) := by decide +kernel
theorem s2_42 {x0 : Nat} {x1 : Int32} : ip_WP 2 42 [some (.ref x0), some (.int x1)] [] (G, F, I, J) b post px ↔ ip_WP 2 43 [some (.ref x0), some (.int x1)] [.ref x0] (G, F, I, J) b post px := ip_nx_iff ((ip_st_of f2_42).trans rfl)
theorem f2_43 : ip_fetch 2 43 = some (.getfield 10, 3) := by decide +kernel
set_option maxRecDepth 100000 in
theorem s2_43 {x0 : Nat} {x1 : Int32} {s0 : Nat} : ip_WP 2 43 [some (.ref x0), some (.int x1)] [.ref s0] (G, F, I, J) b post px ↔ (ip_isO G s0 0 = true ∧ ip_WP 2 46 [some (.ref x0), some (.int x1)] [F s0 0] (G, F, I, J) b post px) := ip_s_getf f2_43 (by decide +kernel)
theorem f2_46 : ip_fetch 2 46 = some (.bipush 16, 2) := by decide +kernel
theorem s2_46 {x0 : Nat} {x1 : Int32} {s0 : Nat} : ip_WP 2 46 [some (.ref x0), some (.int x1)] [.ref s0] (G, F, I, J) b post px ↔ ip_WP 2 48 [some (.ref x0), some (.int x1)] [.int 16, .ref s0] (G, F, I, J) b post px := ip_s_bipush f2_46 (by decide)
theorem f2_48 : ip_fetch 2 48 = some (.iload_n 1, 1) := by decide +kernel
theorem s2_48 {x0 : Nat} {x1 : Int32} {s0 : Nat} {s1 : Int32} : ip_WP 2 48 [some (.ref x0), some (.int x1)] [.int s1, .ref s0] (G, F, I, J) b post px ↔ ip_WP 2 49 [some (.ref x0), some (.int x1)] [.int x1, .int s1, .ref s0] (G, F, I, J) b post px := ip_nx_iff ((ip_st_of f2_48).trans rfl)
theorem f2_49 : ip_fetch 2 49 = some (.isub, 1) := by decide +kernel
theorem s2_49 {x0 : Nat} {x1 : Int32} {s0 : Nat} {s1 : Int32} {s2 : Int32} : ip_WP 2 49 [some (.ref x0), some (.int x1)] [.int s2, .int s1, .ref s0] (G, F, I, J) b post px ↔ ip_WP 2 50 [some (.ref x0), some (.int x1)] [.int (s1 - s2), .ref s0] (G, F, I, J) b post px := ip_nx_iff ((ip_st_of f2_49).trans rfl)
theorem f2_50 : ip_fetch 2 50 = some (.invokevirtual 83, 3) := by decide +kernel
set_option maxRecDepth 100000 in
theorem s2_50 {x0 : Nat} {x1 : Int32} {s0 : Nat} {s1 : Int32} : ip_WP 2 50 [some (.ref x0), some (.int x1)] [.int s1, .ref s0] (G, F, I, J) b post px ↔ (ip_isO G s0 2 = true ∧ ip_WP 94 0 [some (.ref s0), some (.int s1)] [] (G, F, I, J) (0, 0) (fun r h' => ip_WP 2 53 [some (.ref x0), some (.int x1)] (r.toList ++ []) h' b post px) (fun _ _ => False)) := ip_ck_iff (x := ip_cl 94 [some (.ref s0), some (.int s1)] [] (0, 0) b) ((ip_st_of f2_50).trans rfl) (ip_cl_iff)
theorem f2_53 : ip_fetch 2 53 = some (.aload_n 0, 1) := by decide +kernel
theorem s2_53 {x0 : Nat} {x1 : Int32} : ip_WP 2 53 [some (.ref x0), some (.int x1)] [] (G, F, I, J) b post px ↔ ip_WP 2 54 [some (.ref x0), some (.int x1)] [.ref x0] (G, F, I, J) b post px := ip_nx_iff ((ip_st_of f2_53).trans rfl)
theorem f2_54 : ip_fetch 2 54 = some (.getfield 10, 3) := by decide +kernel
set_option maxRecDepth 100000 in
theorem s2_54 {x0 : Nat} {x1 : Int32} {s0 : Nat} : ip_WP 2 54 [some (.ref x0), some (.int x1)] [.ref s0] (G, F, I, J) b post px ↔ (ip_isO G s0 0 = true ∧ ip_WP 2 57 [some (.ref x0), some (.int x1)] [F s0 0] (G, F, I, J) b post px) := ip_s_getf f2_54 (by decide +kernel)
theorem f2_57 : ip_fetch 2 57 = some (.invokevirtual 62, 3) := by decide +kernel
set_option maxRecDepth 100000 in
theorem s2_57 {x0 : Nat} {x1 : Int32} {s0 : Nat} : ip_WP 2 57 [some (.ref x0), some (.int x1)] [.ref s0] (G, F, I, J) b post px ↔ (ip_isO G s0 2 = true ∧ ip_WP 88 0 [some (.ref s0)] [] (G, F, I, J) (0, 0) (fun r h' => ip_WP 2 60 [some (.ref x0), some (.int x1)] (r.toList ++ []) h' b post px) (fun _ _ => False)) := ip_ck_iff (x := ip_cl 88 [some (.ref s0)] [] (0, 0) b) ((ip_st_of f2_57).trans rfl) (ip_cl_iff)
theorem f2_60 : ip_fetch 2 60 = some (.ireturn, 1) := by decide +kernel
theorem s2_60 {x0 : Nat} {x1 : Int32} {s0 : Int32} : ip_WP 2 60 [some (.ref x0), some (.int x1)] [.int s0] (G, F, I, J) b post px ↔ post (some (.int s0)) (G, F, I, J) := ip_rt_iff ((ip_st_of f2_60).trans rfl)
theorem f3_0 : ip_fetch 3 0 = some (.aload_n 0, 1) := by decide +kernel
theorem s3_0 {x0 : Nat} : ip_WP 3 0 [some (.ref x0)] [] (G, F, I, J) b post px ↔ ip_WP 3 1 [some (.ref x0)] [.ref x0] (G, F, I, J) b post px := ip_nx_iff ((ip_st_of f3_0).trans rfl)
theorem f3_1 : ip_fetch 3 1 = some (.getfield 31, 3) := by decide +kernel
set_option maxRecDepth 100000 in
theorem s3_1 {x0 : Nat} {s0 : Nat} : ip_WP 3 1 [some (.ref x0)] [.ref s0] (G, F, I, J) b post px ↔ (ip_isO G s0 0 = true ∧ ip_WP 3 4 [some (.ref x0)] [F s0 3] (G, F, I, J) b post px) := ip_s_getf f3_1 (by decide +kernel)
theorem f3_4 : ip_fetch 3 4 = some (.invokevirtual 86, 3) := by decide +kernel
set_option maxRecDepth 100000 in
theorem s3_4 {x0 : Nat} {s0 : Nat} : ip_WP 3 4 [some (.ref x0)] [.ref s0] (G, F, I, J) b post px ↔ (ip_isO G s0 8 = true ∧ ip_WP 163 0 [some (.ref s0), none, none] [] (G, F, I, J) (0, 0) (fun r h' => ip_WP 3 7 [some (.ref x0)] (r.toList ++ []) h' b post px) (fun _ _ => False)) := ip_ck_iff (x := ip_cl 163 [some (.ref s0), none, none] [] (0, 0) b) ((ip_st_of f3_4).trans rfl) (ip_cl_iff)
theorem f3_7 : ip_fetch 3 7 = some (.aload_n 0, 1) := by decide +kernel
theorem s3_7 {x0 : Nat} : ip_WP 3 7 [some (.ref x0)] [] (G, F, I, J) b post px ↔ ip_WP 3 8 [some (.ref x0)] [.ref x0] (G, F, I, J) b post px := ip_nx_iff ((ip_st_of f3_7).trans rfl)
theorem f3_8 : ip_fetch 3 8 = some (.getfield 10, 3) := by decide +kernel
set_option maxRecDepth 100000 in
theorem s3_8 {x0 : Nat} {s0 : Nat} : ip_WP 3 8 [some (.ref x0)] [.ref s0] (G, F, I, J) b post px ↔ (ip_isO G s0 0 = true ∧ ip_WP 3 11 [some (.ref x0)] [F s0 0] (G, F, I, J) b post px) := ip_s_getf f3_8 (by decide +kernel)
theorem f3_11 : ip_fetch 3 11 = some (.invokevirtual 89, 3) := by decide +kernel
set_option maxRecDepth 100000 in
theorem s3_11 {x0 : Nat} {s0 : Nat} : ip_WP 3 11 [some (.ref x0)] [.ref s0] (G, F, I, J) b post px ↔ (ip_isO G s0 2 = true ∧ ip_WP 90 0 [some (.ref s0)] [] (G, F, I, J) (0, 0) (fun r h' => ip_WP 3 14 [some (.ref x0)] (r.toList ++ []) h' b post px) (fun _ _ => False)) := ip_ck_iff (x := ip_cl 90 [some (.ref s0)] [] (0, 0) b) ((ip_st_of f3_11).trans rfl) (ip_cl_iff)
theorem f3_14 : ip_fetch 3 14 = some (.aload_n 0, 1) := by decide +kernel
theorem s3_14 {x0 : Nat} : ip_WP 3 14 [some (.ref x0)] [] (G, F, I, J) b post px ↔ ip_WP 3 15 [some (.ref x0)] [.ref x0] (G, F, I, J) b post px := ip_nx_iff ((ip_st_of f3_14).trans rfl)
theorem f3_15 : ip_fetch 3 15 = some (.getfield 22, 3) := by decide +kernel
set_option maxRecDepth 100000 in
theorem s3_15 {x0 : Nat} {s0 : Nat} : ip_WP 3 15 [some (.ref x0)] [.ref s0] (G, F, I, J) b post px ↔ (ip_isO G s0 0 = true ∧ ip_WP 3 18 [some (.ref x0)] [F s0 2] (G, F, I, J) b post px) := ip_s_getf f3_15 (by decide +kernel)
theorem f3_18 : ip_fetch 3 18 = some (.aload_n 0, 1) := by decide +kernel
theorem s3_18 {x0 : Nat} {s0 : Nat} : ip_WP 3 18 [some (.ref x0)] [.ref s0] (G, F, I, J) b post px ↔ ip_WP 3 19 [some (.ref x0)] [.ref x0, .ref s0] (G, F, I, J) b post px := ip_nx_iff ((ip_st_of f3_18).trans rfl)
theorem f3_19 : ip_fetch 3 19 = some (.getfield 51, 3) := by decide +kernel
set_option maxRecDepth 100000 in
theorem s3_19 {x0 : Nat} {s0 : Nat} {s1 : Nat} : ip_WP 3 19 [some (.ref x0)] [.ref s1, .ref s0] (G, F, I, J) b post px ↔ (ip_isO G s1 0 = true ∧ ip_WP 3 22 [some (.ref x0)] [F s1 5, .ref s0] (G, F, I, J) b post px) := ip_s_getf f3_19 (by decide +kernel)
theorem f3_22 : ip_fetch 3 22 = some (.invokestatic 58, 3) := by decide +kernel
set_option maxRecDepth 100000 in
theorem s3_22 {x0 : Nat} {s0 : Nat} {s1 : Nat} : ip_WP 3 22 [some (.ref x0)] [.ref s1, .ref s0] (G, F, I, J) b post px ↔ ip_WP 96 0 [some (.ref s0), some (.ref s1), none, none] [] (G, F, I, J) (0, 0) (fun r h' => ip_WP 3 25 [some (.ref x0)] (r.toList ++ []) h' b post px) (fun _ _ => False) := ip_cl_iff ((ip_st_of f3_22).trans (rfl : _ = ip_cl 96 [some (.ref s0), some (.ref s1), none, none] [] (0, 0) b))
theorem f3_25 : ip_fetch 3 25 = some (.aload_n 0, 1) := by decide +kernel
theorem s3_25 {x0 : Nat} : ip_WP 3 25 [some (.ref x0)] [] (G, F, I, J) b post px ↔ ip_WP 3 26 [some (.ref x0)] [.ref x0] (G, F, I, J) b post px := ip_nx_iff ((ip_st_of f3_25).trans rfl)
theorem f3_26 : ip_fetch 3 26 = some (.getfield 22, 3) := by decide +kernel
set_option maxRecDepth 100000 in
theorem s3_26 {x0 : Nat} {s0 : Nat} : ip_WP 3 26 [some (.ref x0)] [.ref s0] (G, F, I, J) b post px ↔ (ip_isO G s0 0 = true ∧ ip_WP 3 29 [some (.ref x0)] [F s0 2] (G, F, I, J) b post px) := ip_s_getf f3_26 (by decide +kernel)
theorem f3_29 : ip_fetch 3 29 = some (.aload_n 0, 1) := by decide +kernel
theorem s3_29 {x0 : Nat} {s0 : Nat} : ip_WP 3 29 [some (.ref x0)] [.ref s0] (G, F, I, J) b post px ↔ ip_WP 3 30 [some (.ref x0)] [.ref x0, .ref s0] (G, F, I, J) b post px := ip_nx_iff ((ip_st_of f3_29).trans rfl)
theorem f3_30 : ip_fetch 3 30 = some (.getfield 55, 3) := by decide +kernel
set_option maxRecDepth 100000 in
theorem s3_30 {x0 : Nat} {s0 : Nat} {s1 : Nat} : ip_WP 3 30 [some (.ref x0)] [.ref s1, .ref s0] (G, F, I, J) b post px ↔ (ip_isO G s1 0 = true ∧ ip_WP 3 33 [some (.ref x0)] [F s1 6, .ref s0] (G, F, I, J) b post px) := ip_s_getf f3_30 (by decide +kernel)
theorem f3_33 : ip_fetch 3 33 = some (.invokestatic 92, 3) := by decide +kernel
set_option maxRecDepth 100000 in
theorem s3_33 {x0 : Nat} {s0 : Nat} {s1 : Nat} : ip_WP 3 33 [some (.ref x0)] [.ref s1, .ref s0] (G, F, I, J) b post px ↔ ip_WP 101 0 [some (.ref s0), some (.ref s1), none] [] (G, F, I, J) (0, 0) (fun r h' => ip_WP 3 36 [some (.ref x0)] (r.toList ++ []) h' b post px) (fun _ _ => False) := ip_cl_iff ((ip_st_of f3_33).trans (rfl : _ = ip_cl 101 [some (.ref s0), some (.ref s1), none] [] (0, 0) b))
theorem f3_36 : ip_fetch 3 36 = some (.aload_n 0, 1) := by decide +kernel
theorem s3_36 {x0 : Nat} : ip_WP 3 36 [some (.ref x0)] [] (G, F, I, J) b post px ↔ ip_WP 3 37 [some (.ref x0)] [.ref x0] (G, F, I, J) b post px := ip_nx_iff ((ip_st_of f3_36).trans rfl)
theorem f3_37 : ip_fetch 3 37 = some (.getfield 31, 3) := by decide +kernel
set_option maxRecDepth 100000 in
theorem s3_37 {x0 : Nat} {s0 : Nat} : ip_WP 3 37 [some (.ref x0)] [.ref s0] (G, F, I, J) b post px ↔ (ip_isO G s0 0 = true ∧ ip_WP 3 40 [some (.ref x0)] [F s0 3] (G, F, I, J) b post px) := ip_s_getf f3_37 (by decide +kernel)
theorem f3_40 : ip_fetch 3 40 = some (.invokevirtual 95, 3) := by decide +kernel
set_option maxRecDepth 100000 in
theorem s3_40 {x0 : Nat} {s0 : Nat} : ip_WP 3 40 [some (.ref x0)] [.ref s0] (G, F, I, J) b post px ↔ (ip_isO G s0 8 = true ∧ ip_WP 161 0 [some (.ref s0)] [] (G, F, I, J) (0, 0) (fun r h' => ip_WP 3 43 [some (.ref x0)] (r.toList ++ []) h' b post px) (fun _ _ => False)) := ip_ck_iff (x := ip_cl 161 [some (.ref s0)] [] (0, 0) b) ((ip_st_of f3_40).trans rfl) (ip_cl_iff)
theorem f3_43 : ip_fetch 3 43 = some (.ifCond .eq 13, 3) := by decide +kernel
theorem s3_43 {x0 : Nat} {s0 : Int32} : ip_WP 3 43 [some (.ref x0)] [.int s0] (G, F, I, J) b post px ↔ if s0 = 0 then ip_WP 3 56 [some (.ref x0)] [] (G, F, I, J) b post px else ip_WP 3 46 [some (.ref x0)] [] (G, F, I, J) b post px := ip_s_if_eq f3_43 rfl
theorem f3_46 : ip_fetch 3 46 = some (.new 76, 3) := by decide +kernel
set_option maxRecDepth 100000 in
theorem s3_46 {x0 : Nat} : ip_WP 3 46 [some (.ref x0)] [] (G, F, I, J) b post px ↔ ((1 ≤ b.1 ∧ 6 ≤ b.2) ∧ px "java/lang/IllegalArgumentException" (G, F, I, J)) := ip_s_thr f3_46 rfl (Nat.le_of_ble_eq_true rfl)
theorem f3_56 : ip_fetch 3 56 = some (.aload_n 0, 1) := by decide +kernel
theorem s3_56 {x0 : Nat} : ip_WP 3 56 [some (.ref x0)] [] (G, F, I, J) b post px ↔ ip_WP 3 57 [some (.ref x0)] [.ref x0] (G, F, I, J) b post px := ip_nx_iff ((ip_st_of f3_56).trans rfl)
theorem f3_57 : ip_fetch 3 57 = some (.getfield 22, 3) := by decide +kernel
set_option maxRecDepth 100000 in
theorem s3_57 {x0 : Nat} {s0 : Nat} : ip_WP 3 57 [some (.ref x0)] [.ref s0] (G, F, I, J) b post px ↔ (ip_isO G s0 0 = true ∧ ip_WP 3 60 [some (.ref x0)] [F s0 2] (G, F, I, J) b post px) := ip_s_getf f3_57 (by decide +kernel)
theorem f3_60 : ip_fetch 3 60 = some (.invokevirtual 100, 3) := by decide +kernel
set_option maxRecDepth 100000 in
theorem s3_60 {x0 : Nat} {s0 : Nat} : ip_WP 3 60 [some (.ref x0)] [.ref s0] (G, F, I, J) b post px ↔ (ip_isO G s0 3 = true ∧ ip_WP 104 0 [some (.ref s0)] [] (G, F, I, J) (0, 0) (fun r h' => ip_WP 3 63 [some (.ref x0)] (r.toList ++ []) h' b post px) (fun _ _ => False)) := ip_ck_iff (x := ip_cl 104 [some (.ref s0)] [] (0, 0) b) ((ip_st_of f3_60).trans rfl) (ip_cl_iff)
theorem f3_63 : ip_fetch 3 63 = some (.ireturn, 1) := by decide +kernel
theorem s3_63 {x0 : Nat} {s0 : Int32} : ip_WP 3 63 [some (.ref x0)] [.int s0] (G, F, I, J) b post px ↔ post (some (.int s0)) (G, F, I, J) := ip_rt_iff ((ip_st_of f3_63).trans rfl)
theorem f4_0 : ip_fetch 4 0 = some (.iload_n 1, 1) := by decide +kernel
theorem s4_0 {x0 : Nat} {x1 : Int32} : ip_WP 4 0 [some (.ref x0), some (.int x1)] [] (G, F, I, J) b post px ↔ ip_WP 4 1 [some (.ref x0), some (.int x1)] [.int x1] (G, F, I, J) b post px := ip_nx_iff ((ip_st_of f4_0).trans rfl)
-- switch 4 1
theorem f4_1 : ip_fetch 4 1 = some (.lookupswitch 43 #[(0, 27), (1, 35)], 27) := by decide +kernel
theorem s4_1 {x0 : Nat} {x1 : Int32} {s0 : Int32} : ip_WP 4 1 [some (.ref x0), some (.int x1)] [.int s0] (G, F, I, J) b post px ↔ if s0 = 0 then ip_WP 4 28 [some (.ref x0), some (.int x1)] [] (G, F, I, J) b post px else if s0 = 1 then ip_WP 4 36 [some (.ref x0), some (.int x1)] [] (G, F, I, J) b post px else ip_WP 4 44 [some (.ref x0), some (.int x1)] [] (G, F, I, J) b post px := by
  by_cases h0 : s0 = 0
  · subst h0
    rw [if_pos rfl]
    exact ip_nx_iff ((ip_st_of f4_1).trans rfl)
  rw [if_neg h0]
  by_cases h1 : s0 = 1
  · subst h1
    rw [if_pos rfl]
    exact ip_nx_iff ((ip_st_of f4_1).trans rfl)
  rw [if_neg h1]
  have g0 := lv_neT (a := 0) h0 (by decide)
  have g1 := lv_neT (a := 1) h1 (by decide)
  have e0 : ¬ ((0 : Int) = s0.toInt) := fun q => g0 q.symm
  have e1 : ¬ ((1 : Int) = s0.toInt) := fun q => g1 q.symm
  exact ip_s_lsd f4_1 (by simp only [Op.lookupswitch.offset_cons, e0, e1, if_false]; rfl) rfl rfl
theorem f4_28 : ip_fetch 4 28 = some (.aload_n 0, 1) := by decide +kernel
theorem s4_28 {x0 : Nat} {x1 : Int32} : ip_WP 4 28 [some (.ref x0), some (.int x1)] [] (G, F, I, J) b post px ↔ ip_WP 4 29 [some (.ref x0), some (.int x1)] [.ref x0] (G, F, I, J) b post px := ip_nx_iff ((ip_st_of f4_28).trans rfl)
theorem f4_29 : ip_fetch 4 29 = some (.getfield 31, 3) := by decide +kernel
set_option maxRecDepth 100000 in
theorem s4_29 {x0 : Nat} {x1 : Int32} {s0 : Nat} : ip_WP 4 29 [some (.ref x0), some (.int x1)] [.ref s0] (G, F, I, J) b post px ↔ (ip_isO G s0 0 = true ∧ ip_WP 4 32 [some (.ref x0), some (.int x1)] [F s0 3] (G, F, I, J) b post px) := ip_s_getf f4_29 (by decide +kernel)
theorem f4_32 : ip_fetch 4 32 = some (.invokevirtual 95, 3) := by decide +kernel
set_option maxRecDepth 100000 in
theorem s4_32 {x0 : Nat} {x1 : Int32} {s0 : Nat} : ip_WP 4 32 [some (.ref x0), some (.int x1)] [.ref s0] (G, F, I, J) b post px ↔ (ip_isO G s0 8 = true ∧ ip_WP 161 0 [some (.ref s0)] [] (G, F, I, J) (0, 0) (fun r h' => ip_WP 4 35 [some (.ref x0), some (.int x1)] (r.toList ++ []) h' b post px) (fun _ _ => False)) := ip_ck_iff (x := ip_cl 161 [some (.ref s0)] [] (0, 0) b) ((ip_st_of f4_32).trans rfl) (ip_cl_iff)
theorem f4_35 : ip_fetch 4 35 = some (.ireturn, 1) := by decide +kernel
theorem s4_35 {x0 : Nat} {x1 : Int32} {s0 : Int32} : ip_WP 4 35 [some (.ref x0), some (.int x1)] [.int s0] (G, F, I, J) b post px ↔ post (some (.int s0)) (G, F, I, J) := ip_rt_iff ((ip_st_of f4_35).trans rfl)
theorem f4_36 : ip_fetch 4 36 = some (.aload_n 0, 1) := by decide +kernel
theorem s4_36 {x0 : Nat} {x1 : Int32} : ip_WP 4 36 [some (.ref x0), some (.int x1)] [] (G, F, I, J) b post px ↔ ip_WP 4 37 [some (.ref x0), some (.int x1)] [.ref x0] (G, F, I, J) b post px := ip_nx_iff ((ip_st_of f4_36).trans rfl)
theorem f4_37 : ip_fetch 4 37 = some (.getfield 31, 3) := by decide +kernel
set_option maxRecDepth 100000 in
theorem s4_37 {x0 : Nat} {x1 : Int32} {s0 : Nat} : ip_WP 4 37 [some (.ref x0), some (.int x1)] [.ref s0] (G, F, I, J) b post px ↔ (ip_isO G s0 0 = true ∧ ip_WP 4 40 [some (.ref x0), some (.int x1)] [F s0 3] (G, F, I, J) b post px) := ip_s_getf f4_37 (by decide +kernel)
theorem f4_40 : ip_fetch 4 40 = some (.invokevirtual 103, 3) := by decide +kernel
set_option maxRecDepth 100000 in
theorem s4_40 {x0 : Nat} {x1 : Int32} {s0 : Nat} : ip_WP 4 40 [some (.ref x0), some (.int x1)] [.ref s0] (G, F, I, J) b post px ↔ (ip_isO G s0 8 = true ∧ ip_WP 162 0 [some (.ref s0)] [] (G, F, I, J) (0, 0) (fun r h' => ip_WP 4 43 [some (.ref x0), some (.int x1)] (r.toList ++ []) h' b post px) (fun _ _ => False)) := ip_ck_iff (x := ip_cl 162 [some (.ref s0)] [] (0, 0) b) ((ip_st_of f4_40).trans rfl) (ip_cl_iff)
theorem f4_43 : ip_fetch 4 43 = some (.ireturn, 1) := by decide +kernel
theorem s4_43 {x0 : Nat} {x1 : Int32} {s0 : Int32} : ip_WP 4 43 [some (.ref x0), some (.int x1)] [.int s0] (G, F, I, J) b post px ↔ post (some (.int s0)) (G, F, I, J) := ip_rt_iff ((ip_st_of f4_43).trans rfl)
theorem f4_44 : ip_fetch 4 44 = some (.new 106, 3) := by decide +kernel
set_option maxRecDepth 100000 in
theorem s4_44 {x0 : Nat} {x1 : Int32} : ip_WP 4 44 [some (.ref x0), some (.int x1)] [] (G, F, I, J) b post px ↔ ((1 ≤ b.1 ∧ 6 ≤ b.2) ∧ px "java/lang/IndexOutOfBoundsException" (G, F, I, J)) := ip_s_thr f4_44 rfl (Nat.le_of_ble_eq_true rfl)
theorem f5_0 : ip_fetch 5 0 = some (.iload_n 1, 1) := by decide +kernel
theorem s5_0 {x0 : Nat} {x1 : Int32} {x2 : Int32} : ip_WP 5 0 [some (.ref x0), some (.int x1), some (.int x2)] [] (G, F, I, J) b post px ↔ ip_WP 5 1 [some (.ref x0), some (.int x1), some (.int x2)] [.int x1] (G, F, I, J) b post px := ip_nx_iff ((ip_st_of f5_0).trans rfl)
theorem f5_1 : ip_fetch 5 1 = some (.aload_n 0, 1) := by decide +kernel
theorem s5_1 {x0 : Nat} {x1 : Int32} {x2 : Int32} {s0 : Int32} : ip_WP 5 1 [some (.ref x0), some (.int x1), some (.int x2)] [.int s0] (G, F, I, J) b post px ↔ ip_WP 5 2 [some (.ref x0), some (.int x1), some (.int x2)] [.ref x0, .int s0] (G, F, I, J) b post px := ip_nx_iff ((ip_st_of f5_1).trans rfl)
theorem f5_2 : ip_fetch 5 2 = some (.getfield 22, 3) := by decide +kernel
set_option maxRecDepth 100000 in
theorem s5_2 {x0 : Nat} {x1 : Int32} {x2 : Int32} {s0 : Int32} {s1 : Nat} : ip_WP 5 2 [some (.ref x0), some (.int x1), some (.int x2)] [.ref s1, .int s0] (G, F, I, J) b post px ↔ (ip_isO G s1 0 = true ∧ ip_WP 5 5 [some (.ref x0), some (.int x1), some (.int x2)] [F s1 2, .int s0] (G, F, I, J) b post px) := ip_s_getf f5_2 (by decide +kernel)
theorem f5_5 : ip_fetch 5 5 = some (.getfield 111, 3) := by decide +kernel
set_option maxRecDepth 100000 in
theorem s5_5 {x0 : Nat} {x1 : Int32} {x2 : Int32} {s0 : Int32} {s1 : Nat} : ip_WP 5 5 [some (.ref x0), some (.int x1), some (.int x2)] [.ref s1, .int s0] (G, F, I, J) b post px ↔ (ip_isO G s1 3 = true ∧ ip_WP 5 8 [some (.ref x0), some (.int x1), some (.int x2)] [F s1 0, .int s0] (G, F, I, J) b post px) := ip_s_getf f5_5 (by decide +kernel)
theorem f5_8 : ip_fetch 5 8 = some (.invokevirtual 115, 3) := by decide +kernel
set_option maxRecDepth 100000 in
theorem s5_8 {x0 : Nat} {x1 : Int32} {x2 : Int32} {s0 : Int32} {s1 : Nat} : ip_WP 5 8 [some (.ref x0), some (.int x1), some (.int x2)] [.ref s1, .int s0] (G, F, I, J) b post px ↔ (ip_isO G s1 6 = true ∧ ip_WP 143 0 [some (.ref s1)] [] (G, F, I, J) (0, 0) (fun r h' => ip_WP 5 11 [some (.ref x0), some (.int x1), some (.int x2)] (r.toList ++ [.int s0]) h' b post px) (fun _ _ => False)) := ip_ck_iff (x := ip_cl 143 [some (.ref s1)] [.int s0] (0, 0) b) ((ip_st_of f5_8).trans rfl) (ip_cl_iff)
theorem f5_11 : ip_fetch 5 11 = some (.invokestatic 118, 3) := by decide +kernel
set_option maxRecDepth 100000 in
theorem s5_11 {x0 : Nat} {x1 : Int32} {x2 : Int32} {s0 : Int32} {s1 : Int32} : ip_WP 5 11 [some (.ref x0), some (.int x1), some (.int x2)] [.int s1, .int s0] (G, F, I, J) b post px ↔ (ip_bud 18 b = true ∧ ip_WP 18 0 [some (.int s0), some (.int s1)] [] (G, F, I, J) (1, 6) (fun r h' => ip_WP 5 14 [some (.ref x0), some (.int x1), some (.int x2)] (r.toList ++ []) h' (ip_rst 18 b) post px) px) := ip_ck_iff (x := ip_cl 18 [some (.int s0), some (.int s1)] [] (1, 6) (ip_rst 18 b)) ((ip_st_of f5_11).trans rfl) (ip_cl_iff)
theorem f5_14 : ip_fetch 5 14 = some (.iload_n 2, 1) := by decide +kernel
theorem s5_14 {x0 : Nat} {x1 : Int32} {x2 : Int32} : ip_WP 5 14 [some (.ref x0), some (.int x1), some (.int x2)] [] (G, F, I, J) b post px ↔ ip_WP 5 15 [some (.ref x0), some (.int x1), some (.int x2)] [.int x2] (G, F, I, J) b post px := ip_nx_iff ((ip_st_of f5_14).trans rfl)
-- switch 5 15
theorem f5_15 : ip_fetch 5 15 = some (.tableswitch 71 0 3 #[29, 38, 50, 62], 29) := by decide +kernel
theorem s5_15 {x0 : Nat} {x1 : Int32} {x2 : Int32} {s0 : Int32} : ip_WP 5 15 [some (.ref x0), some (.int x1), some (.int x2)] [.int s0] (G, F, I, J) b post px ↔ if s0 = 0 then ip_WP 5 44 [some (.ref x0), some (.int x1), some (.int x2)] [] (G, F, I, J) b post px else if s0 = 1 then ip_WP 5 53 [some (.ref x0), some (.int x1), some (.int x2)] [] (G, F, I, J) b post px else if s0 = 2 then ip_WP 5 65 [some (.ref x0), some (.int x1), some (.int x2)] [] (G, F, I, J) b post px else if s0 = 3 then ip_WP 5 77 [some (.ref x0), some (.int x1), some (.int x2)] [] (G, F, I, J) b post px else ip_WP 5 86 [some (.ref x0), some (.int x1), some (.int x2)] [] (G, F, I, J) b post px := by
  by_cases h0 : s0 = 0
  · subst h0
    rw [if_pos rfl]
    exact ip_nx_iff ((ip_st_of f5_15).trans rfl)
  rw [if_neg h0]
  by_cases h1 : s0 = 1
  · subst h1
    rw [if_pos rfl]
    exact ip_nx_iff ((ip_st_of f5_15).trans rfl)
  rw [if_neg h1]
  by_cases h2 : s0 = 2
  · subst h2
    rw [if_pos rfl]
    exact ip_nx_iff ((ip_st_of f5_15).trans rfl)
  rw [if_neg h2]
  by_cases h3 : s0 = 3
  · subst h3
    rw [if_pos rfl]
    exact ip_nx_iff ((ip_st_of f5_15).trans rfl)
  rw [if_neg h3]
  have g0 := lv_neT (a := 0) h0 (by decide)
  have g1 := lv_neT (a := 1) h1 (by decide)
  have g2 := lv_neT (a := 2) h2 (by decide)
  have g3 := lv_neT (a := 3) h3 (by decide)
  exact ip_s_tsd f5_15 (by omega) rfl rfl
theorem f5_44 : ip_fetch 5 44 = some (.aload_n 0, 1) := by decide +kernel
theorem s5_44 {x0 : Nat} {x1 : Int32} {x2 : Int32} : ip_WP 5 44 [some (.ref x0), some (.int x1), some (.int x2)] [] (G, F, I, J) b post px ↔ ip_WP 5 45 [some (.ref x0), some (.int x1), some (.int x2)] [.ref x0] (G, F, I, J) b post px := ip_nx_iff ((ip_st_of f5_44).trans rfl)
theorem f5_45 : ip_fetch 5 45 = some (.getfield 22, 3) := by decide +kernel
set_option maxRecDepth 100000 in
theorem s5_45 {x0 : Nat} {x1 : Int32} {x2 : Int32} {s0 : Nat} : ip_WP 5 45 [some (.ref x0), some (.int x1), some (.int x2)] [.ref s0] (G, F, I, J) b post px ↔ (ip_isO G s0 0 = true ∧ ip_WP 5 48 [some (.ref x0), some (.int x1), some (.int x2)] [F s0 2] (G, F, I, J) b post px) := ip_s_getf f5_45 (by decide +kernel)
theorem f5_48 : ip_fetch 5 48 = some (.iload_n 1, 1) := by decide +kernel
theorem s5_48 {x0 : Nat} {x1 : Int32} {x2 : Int32} {s0 : Nat} : ip_WP 5 48 [some (.ref x0), some (.int x1), some (.int x2)] [.ref s0] (G, F, I, J) b post px ↔ ip_WP 5 49 [some (.ref x0), some (.int x1), some (.int x2)] [.int x1, .ref s0] (G, F, I, J) b post px := ip_nx_iff ((ip_st_of f5_48).trans rfl)
theorem f5_49 : ip_fetch 5 49 = some (.invokevirtual 122, 3) := by decide +kernel
set_option maxRecDepth 100000 in
theorem s5_49 {x0 : Nat} {x1 : Int32} {x2 : Int32} {s0 : Nat} {s1 : Int32} : ip_WP 5 49 [some (.ref x0), some (.int x1), some (.int x2)] [.int s1, .ref s0] (G, F, I, J) b post px ↔ (ip_isO G s0 3 = true ∧ ip_WP 107 0 [some (.ref s0), some (.int s1), none] [] (G, F, I, J) (0, 0) (fun r h' => ip_WP 5 52 [some (.ref x0), some (.int x1), some (.int x2)] (r.toList ++ []) h' b post px) (fun _ _ => False)) := ip_ck_iff (x := ip_cl 107 [some (.ref s0), some (.int s1), none] [] (0, 0) b) ((ip_st_of f5_49).trans rfl) (ip_cl_iff)
theorem f5_52 : ip_fetch 5 52 = some (.ireturn, 1) := by decide +kernel
theorem s5_52 {x0 : Nat} {x1 : Int32} {x2 : Int32} {s0 : Int32} : ip_WP 5 52 [some (.ref x0), some (.int x1), some (.int x2)] [.int s0] (G, F, I, J) b post px ↔ post (some (.int s0)) (G, F, I, J) := ip_rt_iff ((ip_st_of f5_52).trans rfl)
theorem f5_53 : ip_fetch 5 53 = some (.aload_n 0, 1) := by decide +kernel
theorem s5_53 {x0 : Nat} {x1 : Int32} {x2 : Int32} : ip_WP 5 53 [some (.ref x0), some (.int x1), some (.int x2)] [] (G, F, I, J) b post px ↔ ip_WP 5 54 [some (.ref x0), some (.int x1), some (.int x2)] [.ref x0] (G, F, I, J) b post px := ip_nx_iff ((ip_st_of f5_53).trans rfl)
theorem f5_54 : ip_fetch 5 54 = some (.getfield 22, 3) := by decide +kernel
set_option maxRecDepth 100000 in
theorem s5_54 {x0 : Nat} {x1 : Int32} {x2 : Int32} {s0 : Nat} : ip_WP 5 54 [some (.ref x0), some (.int x1), some (.int x2)] [.ref s0] (G, F, I, J) b post px ↔ (ip_isO G s0 0 = true ∧ ip_WP 5 57 [some (.ref x0), some (.int x1), some (.int x2)] [F s0 2] (G, F, I, J) b post px) := ip_s_getf f5_54 (by decide +kernel)
theorem f5_57 : ip_fetch 5 57 = some (.getfield 126, 3) := by decide +kernel
set_option maxRecDepth 100000 in
theorem s5_57 {x0 : Nat} {x1 : Int32} {x2 : Int32} {s0 : Nat} : ip_WP 5 57 [some (.ref x0), some (.int x1), some (.int x2)] [.ref s0] (G, F, I, J) b post px ↔ (ip_isO G s0 3 = true ∧ ip_WP 5 60 [some (.ref x0), some (.int x1), some (.int x2)] [F s0 5] (G, F, I, J) b post px) := ip_s_getf f5_57 (by decide +kernel)
theorem f5_60 : ip_fetch 5 60 = some (.iload_n 1, 1) := by decide +kernel
theorem s5_60 {x0 : Nat} {x1 : Int32} {x2 : Int32} {s0 : Nat} : ip_WP 5 60 [some (.ref x0), some (.int x1), some (.int x2)] [.ref s0] (G, F, I, J) b post px ↔ ip_WP 5 61 [some (.ref x0), some (.int x1), some (.int x2)] [.int x1, .ref s0] (G, F, I, J) b post px := ip_nx_iff ((ip_st_of f5_60).trans rfl)
theorem f5_61 : ip_fetch 5 61 = some (.invokevirtual 130, 3) := by decide +kernel
set_option maxRecDepth 100000 in
theorem s5_61 {x0 : Nat} {x1 : Int32} {x2 : Int32} {s0 : Nat} {s1 : Int32} : ip_WP 5 61 [some (.ref x0), some (.int x1), some (.int x2)] [.int s1, .ref s0] (G, F, I, J) b post px ↔ (ip_isO G s0 9 = true ∧ ip_WP 191 0 [some (.ref s0), some (.int s1)] [] (G, F, I, J) (0, 0) (fun r h' => ip_WP 5 64 [some (.ref x0), some (.int x1), some (.int x2)] (r.toList ++ []) h' b post px) (fun _ _ => False)) := ip_ck_iff (x := ip_cl 191 [some (.ref s0), some (.int s1)] [] (0, 0) b) ((ip_st_of f5_61).trans rfl) (ip_cl_iff)
theorem f5_64 : ip_fetch 5 64 = some (.ireturn, 1) := by decide +kernel
theorem s5_64 {x0 : Nat} {x1 : Int32} {x2 : Int32} {s0 : Int32} : ip_WP 5 64 [some (.ref x0), some (.int x1), some (.int x2)] [.int s0] (G, F, I, J) b post px ↔ post (some (.int s0)) (G, F, I, J) := ip_rt_iff ((ip_st_of f5_64).trans rfl)
theorem f5_65 : ip_fetch 5 65 = some (.aload_n 0, 1) := by decide +kernel
theorem s5_65 {x0 : Nat} {x1 : Int32} {x2 : Int32} : ip_WP 5 65 [some (.ref x0), some (.int x1), some (.int x2)] [] (G, F, I, J) b post px ↔ ip_WP 5 66 [some (.ref x0), some (.int x1), some (.int x2)] [.ref x0] (G, F, I, J) b post px := ip_nx_iff ((ip_st_of f5_65).trans rfl)
theorem f5_66 : ip_fetch 5 66 = some (.getfield 22, 3) := by decide +kernel
set_option maxRecDepth 100000 in
theorem s5_66 {x0 : Nat} {x1 : Int32} {x2 : Int32} {s0 : Nat} : ip_WP 5 66 [some (.ref x0), some (.int x1), some (.int x2)] [.ref s0] (G, F, I, J) b post px ↔ (ip_isO G s0 0 = true ∧ ip_WP 5 69 [some (.ref x0), some (.int x1), some (.int x2)] [F s0 2] (G, F, I, J) b post px) := ip_s_getf f5_66 (by decide +kernel)
theorem f5_69 : ip_fetch 5 69 = some (.getfield 135, 3) := by decide +kernel
set_option maxRecDepth 100000 in
theorem s5_69 {x0 : Nat} {x1 : Int32} {x2 : Int32} {s0 : Nat} : ip_WP 5 69 [some (.ref x0), some (.int x1), some (.int x2)] [.ref s0] (G, F, I, J) b post px ↔ (ip_isO G s0 3 = true ∧ ip_WP 5 72 [some (.ref x0), some (.int x1), some (.int x2)] [F s0 6] (G, F, I, J) b post px) := ip_s_getf f5_69 (by decide +kernel)
theorem f5_72 : ip_fetch 5 72 = some (.iload_n 1, 1) := by decide +kernel
theorem s5_72 {x0 : Nat} {x1 : Int32} {x2 : Int32} {s0 : Nat} : ip_WP 5 72 [some (.ref x0), some (.int x1), some (.int x2)] [.ref s0] (G, F, I, J) b post px ↔ ip_WP 5 73 [some (.ref x0), some (.int x1), some (.int x2)] [.int x1, .ref s0] (G, F, I, J) b post px := ip_nx_iff ((ip_st_of f5_72).trans rfl)
theorem f5_73 : ip_fetch 5 73 = some (.invokevirtual 130, 3) := by decide +kernel
set_option maxRecDepth 100000 in
theorem s5_73 {x0 : Nat} {x1 : Int32} {x2 : Int32} {s0 : Nat} {s1 : Int32} : ip_WP 5 73 [some (.ref x0), some (.int x1), some (.int x2)] [.int s1, .ref s0] (G, F, I, J) b post px ↔ (ip_isO G s0 9 = true ∧ ip_WP 191 0 [some (.ref s0), some (.int s1)] [] (G, F, I, J) (0, 0) (fun r h' => ip_WP 5 76 [some (.ref x0), some (.int x1), some (.int x2)] (r.toList ++ []) h' b post px) (fun _ _ => False)) := ip_ck_iff (x := ip_cl 191 [some (.ref s0), some (.int s1)] [] (0, 0) b) ((ip_st_of f5_73).trans rfl) (ip_cl_iff)
theorem f5_76 : ip_fetch 5 76 = some (.ireturn, 1) := by decide +kernel
theorem s5_76 {x0 : Nat} {x1 : Int32} {x2 : Int32} {s0 : Int32} : ip_WP 5 76 [some (.ref x0), some (.int x1), some (.int x2)] [.int s0] (G, F, I, J) b post px ↔ post (some (.int s0)) (G, F, I, J) := ip_rt_iff ((ip_st_of f5_76).trans rfl)
theorem f5_77 : ip_fetch 5 77 = some (.aload_n 0, 1) := by decide +kernel
theorem s5_77 {x0 : Nat} {x1 : Int32} {x2 : Int32} : ip_WP 5 77 [some (.ref x0), some (.int x1), some (.int x2)] [] (G, F, I, J) b post px ↔ ip_WP 5 78 [some (.ref x0), some (.int x1), some (.int x2)] [.ref x0] (G, F, I, J) b post px := ip_nx_iff ((ip_st_of f5_77).trans rfl)
theorem f5_78 : ip_fetch 5 78 = some (.getfield 22, 3) := by decide +kernel
set_option maxRecDepth 100000 in
theorem s5_78 {x0 : Nat} {x1 : Int32} {x2 : Int32} {s0 : Nat} : ip_WP 5 78 [some (.ref x0), some (.int x1), some (.int x2)] [.ref s0] (G, F, I, J) b post px ↔ (ip_isO G s0 0 = true ∧ ip_WP 5 81 [some (.ref x0), some (.int x1), some (.int x2)] [F s0 2] (G, F, I, J) b post px) := ip_s_getf f5_78 (by decide +kernel)
theorem f5_81 : ip_fetch 5 81 = some (.iload_n 1, 1) := by decide +kernel
theorem s5_81 {x0 : Nat} {x1 : Int32} {x2 : Int32} {s0 : Nat} : ip_WP 5 81 [some (.ref x0), some (.int x1), some (.int x2)] [.ref s0] (G, F, I, J) b post px ↔ ip_WP 5 82 [some (.ref x0), some (.int x1), some (.int x2)] [.int x1, .ref s0] (G, F, I, J) b post px := ip_nx_iff ((ip_st_of f5_81).trans rfl)
theorem f5_82 : ip_fetch 5 82 = some (.invokevirtual 138, 3) := by decide +kernel
set_option maxRecDepth 100000 in
theorem s5_82 {x0 : Nat} {x1 : Int32} {x2 : Int32} {s0 : Nat} {s1 : Int32} : ip_WP 5 82 [some (.ref x0), some (.int x1), some (.int x2)] [.int s1, .ref s0] (G, F, I, J) b post px ↔ (ip_isO G s0 3 = true ∧ ip_WP 116 0 [some (.ref s0), some (.int s1), none, none] [] (G, F, I, J) (0, 0) (fun r h' => ip_WP 5 85 [some (.ref x0), some (.int x1), some (.int x2)] (r.toList ++ []) h' b post px) (fun _ _ => False)) := ip_ck_iff (x := ip_cl 116 [some (.ref s0), some (.int s1), none, none] [] (0, 0) b) ((ip_st_of f5_82).trans rfl) (ip_cl_iff)
theorem f5_85 : ip_fetch 5 85 = some (.ireturn, 1) := by decide +kernel
theorem s5_85 {x0 : Nat} {x1 : Int32} {x2 : Int32} {s0 : Int32} : ip_WP 5 85 [some (.ref x0), some (.int x1), some (.int x2)] [.int s0] (G, F, I, J) b post px ↔ post (some (.int s0)) (G, F, I, J) := ip_rt_iff ((ip_st_of f5_85).trans rfl)
theorem f5_86 : ip_fetch 5 86 = some (.new 106, 3) := by decide +kernel
set_option maxRecDepth 100000 in
theorem s5_86 {x0 : Nat} {x1 : Int32} {x2 : Int32} : ip_WP 5 86 [some (.ref x0), some (.int x1), some (.int x2)] [] (G, F, I, J) b post px ↔ ((1 ≤ b.1 ∧ 6 ≤ b.2) ∧ px "java/lang/IndexOutOfBoundsException" (G, F, I, J)) := ip_s_thr f5_86 rfl (Nat.le_of_ble_eq_true rfl)
theorem f6_0 : ip_fetch 6 0 = some (.iload_n 1, 1) := by decide +kernel
theorem s6_0 {x0 : Nat} {x1 : Int32} : ip_WP 6 0 [some (.ref x0), some (.int x1)] [] (G, F, I, J) b post px ↔ ip_WP 6 1 [some (.ref x0), some (.int x1)] [.int x1] (G, F, I, J) b post px := ip_nx_iff ((ip_st_of f6_0).trans rfl)
theorem f6_1 : ip_fetch 6 1 = some (.bipush 7, 2) := by decide +kernel
theorem s6_1 {x0 : Nat} {x1 : Int32} {s0 : Int32} : ip_WP 6 1 [some (.ref x0), some (.int x1)] [.int s0] (G, F, I, J) b post px ↔ ip_WP 6 3 [some (.ref x0), some (.int x1)] [.int 7, .int s0] (G, F, I, J) b post px := ip_s_bipush f6_1 (by decide)
theorem f6_3 : ip_fetch 6 3 = some (.invokestatic 118, 3) := by decide +kernel
set_option maxRecDepth 100000 in
theorem s6_3 {x0 : Nat} {x1 : Int32} {s0 : Int32} {s1 : Int32} : ip_WP 6 3 [some (.ref x0), some (.int x1)] [.int s1, .int s0] (G, F, I, J) b post px ↔ (ip_bud 18 b = true ∧ ip_WP 18 0 [some (.int s0), some (.int s1)] [] (G, F, I, J) (1, 6) (fun r h' => ip_WP 6 6 [some (.ref x0), some (.int x1)] (r.toList ++ []) h' (ip_rst 18 b) post px) px) := ip_ck_iff (x := ip_cl 18 [some (.int s0), some (.int s1)] [] (1, 6) (ip_rst 18 b)) ((ip_st_of f6_3).trans rfl) (ip_cl_iff)
theorem f6_6 : ip_fetch 6 6 = some (.aload_n 0, 1) := by decide +kernel
theorem s6_6 {x0 : Nat} {x1 : Int32} : ip_WP 6 6 [some (.ref x0), some (.int x1)] [] (G, F, I, J) b post px ↔ ip_WP 6 7 [some (.ref x0), some (.int x1)] [.ref x0] (G, F, I, J) b post px := ip_nx_iff ((ip_st_of f6_6).trans rfl)
theorem f6_7 : ip_fetch 6 7 = some (.getfield 22, 3) := by decide +kernel
set_option maxRecDepth 100000 in
theorem s6_7 {x0 : Nat} {x1 : Int32} {s0 : Nat} : ip_WP 6 7 [some (.ref x0), some (.int x1)] [.ref s0] (G, F, I, J) b post px ↔ (ip_isO G s0 0 = true ∧ ip_WP 6 10 [some (.ref x0), some (.int x1)] [F s0 2] (G, F, I, J) b post px) := ip_s_getf f6_7 (by decide +kernel)
theorem f6_10 : ip_fetch 6 10 = some (.getfield 141, 3) := by decide +kernel
set_option maxRecDepth 100000 in
theorem s6_10 {x0 : Nat} {x1 : Int32} {s0 : Nat} : ip_WP 6 10 [some (.ref x0), some (.int x1)] [.ref s0] (G, F, I, J) b post px ↔ (ip_isO G s0 3 = true ∧ ip_WP 6 13 [some (.ref x0), some (.int x1)] [F s0 7] (G, F, I, J) b post px) := ip_s_getf f6_10 (by decide +kernel)
theorem f6_13 : ip_fetch 6 13 = some (.iload_n 1, 1) := by decide +kernel
theorem s6_13 {x0 : Nat} {x1 : Int32} {s0 : Nat} : ip_WP 6 13 [some (.ref x0), some (.int x1)] [.ref s0] (G, F, I, J) b post px ↔ ip_WP 6 14 [some (.ref x0), some (.int x1)] [.int x1, .ref s0] (G, F, I, J) b post px := ip_nx_iff ((ip_st_of f6_13).trans rfl)
theorem f6_14 : ip_fetch 6 14 = some (.invokevirtual 130, 3) := by decide +kernel
set_option maxRecDepth 100000 in
theorem s6_14 {x0 : Nat} {x1 : Int32} {s0 : Nat} {s1 : Int32} : ip_WP 6 14 [some (.ref x0), some (.int x1)] [.int s1, .ref s0] (G, F, I, J) b post px ↔ (ip_isO G s0 9 = true ∧ ip_WP 191 0 [some (.ref s0), some (.int s1)] [] (G, F, I, J) (0, 0) (fun r h' => ip_WP 6 17 [some (.ref x0), some (.int x1)] (r.toList ++ []) h' b post px) (fun _ _ => False)) := ip_ck_iff (x := ip_cl 191 [some (.ref s0), some (.int s1)] [] (0, 0) b) ((ip_st_of f6_14).trans rfl) (ip_cl_iff)
theorem f6_17 : ip_fetch 6 17 = some (.ireturn, 1) := by decide +kernel
theorem s6_17 {x0 : Nat} {x1 : Int32} {s0 : Int32} : ip_WP 6 17 [some (.ref x0), some (.int x1)] [.int s0] (G, F, I, J) b post px ↔ post (some (.int s0)) (G, F, I, J) := ip_rt_iff ((ip_st_of f6_17).trans rfl)
theorem f7_0 : ip_fetch 7 0 = some (.iload_n 1, 1) := by decide +kernel
theorem s7_0 {x0 : Nat} {x1 : Int32} {x2 : Int32} : ip_WP 7 0 [some (.ref x0), some (.int x1), some (.int x2)] [] (G, F, I, J) b post px ↔ ip_WP 7 1 [some (.ref x0), some (.int x1), some (.int x2)] [.int x1] (G, F, I, J) b post px := ip_nx_iff ((ip_st_of f7_0).trans rfl)
theorem f7_1 : ip_fetch 7 1 = some (.aload_n 0, 1) := by decide +kernel
theorem s7_1 {x0 : Nat} {x1 : Int32} {x2 : Int32} {s0 : Int32} : ip_WP 7 1 [some (.ref x0), some (.int x1), some (.int x2)] [.int s0] (G, F, I, J) b post px ↔ ip_WP 7 2 [some (.ref x0), some (.int x1), some (.int x2)] [.ref x0, .int s0] (G, F, I, J) b post px := ip_nx_iff ((ip_st_of f7_1).trans rfl)
theorem f7_2 : ip_fetch 7 2 = some (.getfield 22, 3) := by decide +kernel
set_option maxRecDepth 100000 in
theorem s7_2 {x0 : Nat} {x1 : Int32} {x2 : Int32} {s0 : Int32} {s1 : Nat} : ip_WP 7 2 [some (.ref x0), some (.int x1), some (.int x2)] [.ref s1, .int s0] (G, F, I, J) b post px ↔ (ip_isO G s1 0 = true ∧ ip_WP 7 5 [some (.ref x0), some (.int x1), some (.int x2)] [F s1 2, .int s0] (G, F, I, J) b post px) := ip_s_getf f7_2 (by decide +kernel)
theorem f7_5 : ip_fetch 7 5 = some (.invokevirtual 144, 3) := by decide +kernel
set_option maxRecDepth 100000 in
theorem s7_5 {x0 : Nat} {x1 : Int32} {x2 : Int32} {s0 : Int32} {s1 : Nat} : ip_WP 7 5 [some (.ref x0), some (.int x1), some (.int x2)] [.ref s1, .int s0] (G, F, I, J) b post px ↔ (ip_isO G s1 3 = true ∧ ip_WP 110 0 [some (.ref s1)] [] (G, F, I, J) (0, 0) (fun r h' => ip_WP 7 8 [some (.ref x0), some (.int x1), some (.int x2)] (r.toList ++ [.int s0]) h' b post px) (fun _ _ => False)) := ip_ck_iff (x := ip_cl 110 [some (.ref s1)] [.int s0] (0, 0) b) ((ip_st_of f7_5).trans rfl) (ip_cl_iff)
theorem f7_8 : ip_fetch 7 8 = some (.invokestatic 118, 3) := by decide +kernel
set_option maxRecDepth 100000 in
theorem s7_8 {x0 : Nat} {x1 : Int32} {x2 : Int32} {s0 : Int32} {s1 : Int32} : ip_WP 7 8 [some (.ref x0), some (.int x1), some (.int x2)] [.int s1, .int s0] (G, F, I, J) b post px ↔ (ip_bud 18 b = true ∧ ip_WP 18 0 [some (.int s0), some (.int s1)] [] (G, F, I, J) (1, 6) (fun r h' => ip_WP 7 11 [some (.ref x0), some (.int x1), some (.int x2)] (r.toList ++ []) h' (ip_rst 18 b) post px) px) := ip_ck_iff (x := ip_cl 18 [some (.int s0), some (.int s1)] [] (1, 6) (ip_rst 18 b)) ((ip_st_of f7_8).trans rfl) (ip_cl_iff)
theorem f7_11 : ip_fetch 7 11 = some (.iload_n 2, 1) := by decide +kernel
theorem s7_11 {x0 : Nat} {x1 : Int32} {x2 : Int32} : ip_WP 7 11 [some (.ref x0), some (.int x1), some (.int x2)] [] (G, F, I, J) b post px ↔ ip_WP 7 12 [some (.ref x0), some (.int x1), some (.int x2)] [.int x2] (G, F, I, J) b post px := ip_nx_iff ((ip_st_of f7_11).trans rfl)
theorem f7_12 : ip_fetch 7 12 = some (.iconst 2, 1) := by decide +kernel
theorem s7_12 {x0 : Nat} {x1 : Int32} {x2 : Int32} {s0 : Int32} : ip_WP 7 12 [some (.ref x0), some (.int x1), some (.int x2)] [.int s0] (G, F, I, J) b post px ↔ ip_WP 7 13 [some (.ref x0), some (.int x1), some (.int x2)] [.int 2, .int s0] (G, F, I, J) b post px := ip_s_iconst f7_12 (by decide)
theorem f7_13 : ip_fetch 7 13 = some (.invokestatic 118, 3) := by decide +kernel
set_option maxRecDepth 100000 in
theorem s7_13 {x0 : Nat} {x1 : Int32} {x2 : Int32} {s0 : Int32} {s1 : Int32} : ip_WP 7 13 [some (.ref x0), some (.int x1), some (.int x2)] [.int s1, .int s0] (G, F, I, J) b post px ↔ (ip_bud 18 b = true ∧ ip_WP 18 0 [some (.int s0), some (.int s1)] [] (G, F, I, J) (1, 6) (fun r h' => ip_WP 7 16 [some (.ref x0), some (.int x1), some (.int x2)] (r.toList ++ []) h' (ip_rst 18 b) post px) px) := ip_ck_iff (x := ip_cl 18 [some (.int s0), some (.int s1)] [] (1, 6) (ip_rst 18 b)) ((ip_st_of f7_13).trans rfl) (ip_cl_iff)
theorem f7_16 : ip_fetch 7 16 = some (.iload_n 2, 1) := by decide +kernel
theorem s7_16 {x0 : Nat} {x1 : Int32} {x2 : Int32} : ip_WP 7 16 [some (.ref x0), some (.int x1), some (.int x2)] [] (G, F, I, J) b post px ↔ ip_WP 7 17 [some (.ref x0), some (.int x1), some (.int x2)] [.int x2] (G, F, I, J) b post px := ip_nx_iff ((ip_st_of f7_16).trans rfl)
theorem f7_17 : ip_fetch 7 17 = some (.ifCond .ne 17, 3) := by decide +kernel
theorem s7_17 {x0 : Nat} {x1 : Int32} {x2 : Int32} {s0 : Int32} : ip_WP 7 17 [some (.ref x0), some (.int x1), some (.int x2)] [.int s0] (G, F, I, J) b post px ↔ if ¬ s0 = 0 then ip_WP 7 34 [some (.ref x0), some (.int x1), some (.int x2)] [] (G, F, I, J) b post px else ip_WP 7 20 [some (.ref x0), some (.int x1), some (.int x2)] [] (G, F, I, J) b post px := ip_s_if_ne f7_17 rfl
theorem f7_20 : ip_fetch 7 20 = some (.aload_n 0, 1) := by decide +kernel
theorem s7_20 {x0 : Nat} {x1 : Int32} {x2 : Int32} : ip_WP 7 20 [some (.ref x0), some (.int x1), some (.int x2)] [] (G, F, I, J) b post px ↔ ip_WP 7 21 [some (.ref x0), some (.int x1), some (.int x2)] [.ref x0] (G, F, I, J) b post px := ip_nx_iff ((ip_st_of f7_20).trans rfl)
theorem f7_21 : ip_fetch 7 21 = some (.getfield 22, 3) := by decide +kernel
set_option maxRecDepth 100000 in
theorem s7_21 {x0 : Nat} {x1 : Int32} {x2 : Int32} {s0 : Nat} : ip_WP 7 21 [some (.ref x0), some (.int x1), some (.int x2)] [.ref s0] (G, F, I, J) b post px ↔ (ip_isO G s0 0 = true ∧ ip_WP 7 24 [some (.ref x0), some (.int x1), some (.int x2)] [F s0 2] (G, F, I, J) b post px) := ip_s_getf f7_21 (by decide +kernel)
theorem f7_24 : ip_fetch 7 24 = some (.getfield 147, 3) := by decide +kernel
set_option maxRecDepth 100000 in
theorem s7_24 {x0 : Nat} {x1 : Int32} {x2 : Int32} {s0 : Nat} : ip_WP 7 24 [some (.ref x0), some (.int x1), some (.int x2)] [.ref s0] (G, F, I, J) b post px ↔ (ip_isO G s0 3 = true ∧ ip_WP 7 27 [some (.ref x0), some (.int x1), some (.int x2)] [F s0 8] (G, F, I, J) b post px) := ip_s_getf f7_24 (by decide +kernel)
theorem f7_27 : ip_fetch 7 27 = some (.iload_n 1, 1) := by decide +kernel
theorem s7_27 {x0 : Nat} {x1 : Int32} {x2 : Int32} {s0 : Nat} : ip_WP 7 27 [some (.ref x0), some (.int x1), some (.int x2)] [.ref s0] (G, F, I, J) b post px ↔ ip_WP 7 28 [some (.ref x0), some (.int x1), some (.int x2)] [.int x1, .ref s0] (G, F, I, J) b post px := ip_nx_iff ((ip_st_of f7_27).trans rfl)
theorem f7_28 : ip_fetch 7 28 = some (.invokevirtual 130, 3) := by decide +kernel
set_option maxRecDepth 100000 in
theorem s7_28 {x0 : Nat} {x1 : Int32} {x2 : Int32} {s0 : Nat} {s1 : Int32} : ip_WP 7 28 [some (.ref x0), some (.int x1), some (.int x2)] [.int s1, .ref s0] (G, F, I, J) b post px ↔ (ip_isO G s0 9 = true ∧ ip_WP 191 0 [some (.ref s0), some (.int s1)] [] (G, F, I, J) (0, 0) (fun r h' => ip_WP 7 31 [some (.ref x0), some (.int x1), some (.int x2)] (r.toList ++ []) h' b post px) (fun _ _ => False)) := ip_ck_iff (x := ip_cl 191 [some (.ref s0), some (.int s1)] [] (0, 0) b) ((ip_st_of f7_28).trans rfl) (ip_cl_iff)
theorem f7_31 : ip_fetch 7 31 = some (.goto 14, 3) := by decide +kernel
theorem s7_31 {x0 : Nat} {x1 : Int32} {x2 : Int32} {s0 : Int32} : ip_WP 7 31 [some (.ref x0), some (.int x1), some (.int x2)] [.int s0] (G, F, I, J) b post px ↔ ip_WP 7 45 [some (.ref x0), some (.int x1), some (.int x2)] [.int s0] (G, F, I, J) b post px := ip_nx_iff ((ip_st_of f7_31).trans rfl)
theorem f7_34 : ip_fetch 7 34 = some (.aload_n 0, 1) := by decide +kernel
theorem s7_34 {x0 : Nat} {x1 : Int32} {x2 : Int32} : ip_WP 7 34 [some (.ref x0), some (.int x1), some (.int x2)] [] (G, F, I, J) b post px ↔ ip_WP 7 35 [some (.ref x0), some (.int x1), some (.int x2)] [.ref x0] (G, F, I, J) b post px := ip_nx_iff ((ip_st_of f7_34).trans rfl)
theorem f7_35 : ip_fetch 7 35 = some (.getfield 22, 3) := by decide +kernel
set_option maxRecDepth 100000 in
theorem s7_35 {x0 : Nat} {x1 : Int32} {x2 : Int32} {s0 : Nat} : ip_WP 7 35 [some (.ref x0), some (.int x1), some (.int x2)] [.ref s0] (G, F, I, J) b post px ↔ (ip_isO G s0 0 = true ∧ ip_WP 7 38 [some (.ref x0), some (.int x1), some (.int x2)] [F s0 2] (G, F, I, J) b post px) := ip_s_getf f7_35 (by decide +kernel)
theorem f7_38 : ip_fetch 7 38 = some (.getfield 150, 3) := by decide +kernel
set_option maxRecDepth 100000 in
theorem s7_38 {x0 : Nat} {x1 : Int32} {x2 : Int32} {s0 : Nat} : ip_WP 7 38 [some (.ref x0), some (.int x1), some (.int x2)] [.ref s0] (G, F, I, J) b post px ↔ (ip_isO G s0 3 = true ∧ ip_WP 7 41 [some (.ref x0), some (.int x1), some (.int x2)] [F s0 9] (G, F, I, J) b post px) := ip_s_getf f7_38 (by decide +kernel)
theorem f7_41 : ip_fetch 7 41 = some (.iload_n 1, 1) := by decide +kernel
theorem s7_41 {x0 : Nat} {x1 : Int32} {x2 : Int32} {s0 : Nat} : ip_WP 7 41 [some (.ref x0), some (.int x1), some (.int x2)] [.ref s0] (G, F, I, J) b post px ↔ ip_WP 7 42 [some (.ref x0), some (.int x1), some (.int x2)] [.int x1, .ref s0] (G, F, I, J) b post px := ip_nx_iff ((ip_st_of f7_41).trans rfl)
theorem f7_42 : ip_fetch 7 42 = some (.invokevirtual 130, 3) := by decide +kernel
set_option maxRecDepth 100000 in
theorem s7_42 {x0 : Nat} {x1 : Int32} {x2 : Int32} {s0 : Nat} {s1 : Int32} : ip_WP 7 42 [some (.ref x0), some (.int x1), some (.int x2)] [.int s1, .ref s0] (G, F, I, J) b post px ↔ (ip_isO G s0 9 = true ∧ ip_WP 191 0 [some (.ref s0), some (.int s1)] [] (G, F, I, J) (0, 0) (fun r h' => ip_WP 7 45 [some (.ref x0), some (.int x1), some (.int x2)] (r.toList ++ []) h' b post px) (fun _ _ => False)) := ip_ck_iff (x := ip_cl 191 [some (.ref s0), some (.int s1)] [] (0, 0) b) ((ip_st_of f7_42).trans rfl) (ip_cl_iff)
theorem f7_45 : ip_fetch 7 45 = some (.ireturn, 1) := by decide +kernel
theorem s7_45 {x0 : Nat} {x1 : Int32} {x2 : Int32} {s0 : Int32} : ip_WP 7 45 [some (.ref x0), some (.int x1), some (.int x2)] [.int s0] (G, F, I, J) b post px ↔ post (some (.int s0)) (G, F, I, J) := ip_rt_iff ((ip_st_of f7_45).trans rfl)
theorem f8_0 : ip_fetch 8 0 = some (.iload_n 1, 1) := by decide +kernel
theorem s8_0 {x0 : Nat} {x1 : Int32} {x2 : Int32} : ip_WP 8 0 [some (.ref x0), some (.int x1), some (.int x2)] [] (G, F, I, J) b post px ↔ ip_WP 8 1 [some (.ref x0), some (.int x1), some (.int x2)] [.int x1] (G, F, I, J) b post px := ip_nx_iff ((ip_st_of f8_0).trans rfl)
theorem f8_1 : ip_fetch 8 1 = some (.aload_n 0, 1) := by decide +kernel
theorem s8_1 {x0 : Nat} {x1 : Int32} {x2 : Int32} {s0 : Int32} : ip_WP 8 1 [some (.ref x0), some (.int x1), some (.int x2)] [.int s0] (G, F, I, J) b post px ↔ ip_WP 8 2 [some (.ref x0), some (.int x1), some (.int x2)] [.ref x0, .int s0] (G, F, I, J) b post px := ip_nx_iff ((ip_st_of f8_1).trans rfl)
theorem f8_2 : ip_fetch 8 2 = some (.getfield 22, 3) := by decide +kernel
set_option maxRecDepth 100000 in
theorem s8_2 {x0 : Nat} {x1 : Int32} {x2 : Int32} {s0 : Int32} {s1 : Nat} : ip_WP 8 2 [some (.ref x0), some (.int x1), some (.int x2)] [.ref s1, .int s0] (G, F, I, J) b post px ↔ (ip_isO G s1 0 = true ∧ ip_WP 8 5 [some (.ref x0), some (.int x1), some (.int x2)] [F s1 2, .int s0] (G, F, I, J) b post px) := ip_s_getf f8_2 (by decide +kernel)
theorem f8_5 : ip_fetch 8 5 = some (.getfield 153, 3) := by decide +kernel
set_option maxRecDepth 100000 in
theorem s8_5 {x0 : Nat} {x1 : Int32} {x2 : Int32} {s0 : Int32} {s1 : Nat} : ip_WP 8 5 [some (.ref x0), some (.int x1), some (.int x2)] [.ref s1, .int s0] (G, F, I, J) b post px ↔ (ip_isO G s1 3 = true ∧ ip_WP 8 8 [some (.ref x0), some (.int x1), some (.int x2)] [F s1 2, .int s0] (G, F, I, J) b post px) := ip_s_getf f8_5 (by decide +kernel)
theorem f8_8 : ip_fetch 8 8 = some (.invokevirtual 115, 3) := by decide +kernel
set_option maxRecDepth 100000 in
theorem s8_8 {x0 : Nat} {x1 : Int32} {x2 : Int32} {s0 : Int32} {s1 : Nat} : ip_WP 8 8 [some (.ref x0), some (.int x1), some (.int x2)] [.ref s1, .int s0] (G, F, I, J) b post px ↔ (ip_isO G s1 6 = true ∧ ip_WP 143 0 [some (.ref s1)] [] (G, F, I, J) (0, 0) (fun r h' => ip_WP 8 11 [some (.ref x0), some (.int x1), some (.int x2)] (r.toList ++ [.int s0]) h' b post px) (fun _ _ => False)) := ip_ck_iff (x := ip_cl 143 [some (.ref s1)] [.int s0] (0, 0) b) ((ip_st_of f8_8).trans rfl) (ip_cl_iff)
theorem f8_11 : ip_fetch 8 11 = some (.invokestatic 118, 3) := by decide +kernel
set_option maxRecDepth 100000 in
theorem s8_11 {x0 : Nat} {x1 : Int32} {x2 : Int32} {s0 : Int32} {s1 : Int32} : ip_WP 8 11 [some (.ref x0), some (.int x1), some (.int x2)] [.int s1, .int s0] (G, F, I, J) b post px ↔ (ip_bud 18 b = true ∧ ip_WP 18 0 [some (.int s0), some (.int s1)] [] (G, F, I, J) (1, 6) (fun r h' => ip_WP 8 14 [some (.ref x0), some (.int x1), some (.int x2)] (r.toList ++ []) h' (ip_rst 18 b) post px) px) := ip_ck_iff (x := ip_cl 18 [some (.int s0), some (.int s1)] [] (1, 6) (ip_rst 18 b)) ((ip_st_of f8_11).trans rfl) (ip_cl_iff)
theorem f8_14 : ip_fetch 8 14 = some (.iload_n 2, 1) := by decide +kernel
theorem s8_14 {x0 : Nat} {x1 : Int32} {x2 : Int32} : ip_WP 8 14 [some (.ref x0), some (.int x1), some (.int x2)] [] (G, F, I, J) b post px ↔ ip_WP 8 15 [some (.ref x0), some (.int x1), some (.int x2)] [.int x2] (G, F, I, J) b post px := ip_nx_iff ((ip_st_of f8_14).trans rfl)
theorem f8_15 : ip_fetch 8 15 = some (.iconst 2, 1) := by decide +kernel
theorem s8_15 {x0 : Nat} {x1 : Int32} {x2 : Int32} {s0 : Int32} : ip_WP 8 15 [some (.ref x0), some (.int x1), some (.int x2)] [.int s0] (G, F, I, J) b post px ↔ ip_WP 8 16 [some (.ref x0), some (.int x1), some (.int x2)] [.int 2, .int s0] (G, F, I, J) b post px := ip_s_iconst f8_15 (by decide)
theorem f8_16 : ip_fetch 8 16 = some (.invokestatic 118, 3) := by decide +kernel
set_option maxRecDepth 100000 in
theorem s8_16 {x0 : Nat} {x1 : Int32} {x2 : Int32} {s0 : Int32} {s1 : Int32} : ip_WP 8 16 [some (.ref x0), some (.int x1), some (.int x2)] [.int s1, .int s0] (G, F, I, J) b post px ↔ (ip_bud 18 b = true ∧ ip_WP 18 0 [some (.int s0), some (.int s1)] [] (G, F, I, J) (1, 6) (fun r h' => ip_WP 8 19 [some (.ref x0), some (.int x1), some (.int x2)] (r.toList ++ []) h' (ip_rst 18 b) post px) px) := ip_ck_iff (x := ip_cl 18 [some (.int s0), some (.int s1)] [] (1, 6) (ip_rst 18 b)) ((ip_st_of f8_16).trans rfl) (ip_cl_iff)
theorem f8_19 : ip_fetch 8 19 = some (.iload_n 2, 1) := by decide +kernel
theorem s8_19 {x0 : Nat} {x1 : Int32} {x2 : Int32} : ip_WP 8 19 [some (.ref x0), some (.int x1), some (.int x2)] [] (G, F, I, J) b post px ↔ ip_WP 8 20 [some (.ref x0), some (.int x1), some (.int x2)] [.int x2] (G, F, I, J) b post px := ip_nx_iff ((ip_st_of f8_19).trans rfl)
theorem f8_20 : ip_fetch 8 20 = some (.ifCond .ne 17, 3) := by decide +kernel
theorem s8_20 {x0 : Nat} {x1 : Int32} {x2 : Int32} {s0 : Int32} : ip_WP 8 20 [some (.ref x0), some (.int x1), some (.int x2)] [.int s0] (G, F, I, J) b post px ↔ if ¬ s0 = 0 then ip_WP 8 37 [some (.ref x0), some (.int x1), some (.int x2)] [] (G, F, I, J) b post px else ip_WP 8 23 [some (.ref x0), some (.int x1), some (.int x2)] [] (G, F, I, J) b post px := ip_s_if_ne f8_20 rfl
theorem f8_23 : ip_fetch 8 23 = some (.aload_n 0, 1) := by decide +kernel
theorem s8_23 {x0 : Nat} {x1 : Int32} {x2 : Int32} : ip_WP 8 23 [some (.ref x0), some (.int x1), some (.int x2)] [] (G, F, I, J) b post px ↔ ip_WP 8 24 [some (.ref x0), some (.int x1), some (.int x2)] [.ref x0] (G, F, I, J) b post px := ip_nx_iff ((ip_st_of f8_23).trans rfl)
theorem f8_24 : ip_fetch 8 24 = some (.getfield 22, 3) := by decide +kernel
set_option maxRecDepth 100000 in
theorem s8_24 {x0 : Nat} {x1 : Int32} {x2 : Int32} {s0 : Nat} : ip_WP 8 24 [some (.ref x0), some (.int x1), some (.int x2)] [.ref s0] (G, F, I, J) b post px ↔ (ip_isO G s0 0 = true ∧ ip_WP 8 27 [some (.ref x0), some (.int x1), some (.int x2)] [F s0 2] (G, F, I, J) b post px) := ip_s_getf f8_24 (by decide +kernel)
theorem f8_27 : ip_fetch 8 27 = some (.getfield 156, 3) := by decide +kernel
set_option maxRecDepth 100000 in
theorem s8_27 {x0 : Nat} {x1 : Int32} {x2 : Int32} {s0 : Nat} : ip_WP 8 27 [some (.ref x0), some (.int x1), some (.int x2)] [.ref s0] (G, F, I, J) b post px ↔ (ip_isO G s0 3 = true ∧ ip_WP 8 30 [some (.ref x0), some (.int x1), some (.int x2)] [F s0 10] (G, F, I, J) b post px) := ip_s_getf f8_27 (by decide +kernel)
theorem f8_30 : ip_fetch 8 30 = some (.iload_n 1, 1) := by decide +kernel
theorem s8_30 {x0 : Nat} {x1 : Int32} {x2 : Int32} {s0 : Nat} : ip_WP 8 30 [some (.ref x0), some (.int x1), some (.int x2)] [.ref s0] (G, F, I, J) b post px ↔ ip_WP 8 31 [some (.ref x0), some (.int x1), some (.int x2)] [.int x1, .ref s0] (G, F, I, J) b post px := ip_nx_iff ((ip_st_of f8_30).trans rfl)
theorem f8_31 : ip_fetch 8 31 = some (.invokevirtual 130, 3) := by decide +kernel
set_option maxRecDepth 100000 in
theorem s8_31 {x0 : Nat} {x1 : Int32} {x2 : Int32} {s0 : Nat} {s1 : Int32} : ip_WP 8 31 [some (.ref x0), some (.int x1), some (.int x2)] [.int s1, .ref s0] (G, F, I, J) b post px ↔ (ip_isO G s0 9 = true ∧ ip_WP 191 0 [some (.ref s0), some (.int s1)] [] (G, F, I, J) (0, 0) (fun r h' => ip_WP 8 34 [some (.ref x0), some (.int x1), some (.int x2)] (r.toList ++ []) h' b post px) (fun _ _ => False)) := ip_ck_iff (x := ip_cl 191 [some (.ref s0), some (.int s1)] [] (0, 0) b) ((ip_st_of f8_31).trans rfl) (ip_cl_iff)
theorem f8_34 : ip_fetch 8 34 = some (.goto 14, 3) := by decide +kernel
theorem s8_34 {x0 : Nat} {x1 : Int32} {x2 : Int32} {s0 : Int32} : ip_WP 8 34 [some (.ref x0), some (.int x1), some (.int x2)] [.int s0] (G, F, I, J) b post px ↔ ip_WP 8 48 [some (.ref x0), some (.int x1), some (.int x2)] [.int s0] (G, F, I, J) b post px := ip_nx_iff ((ip_st_of f8_34).trans rfl)
theorem f8_37 : ip_fetch 8 37 = some (.aload_n 0, 1) := by decide +kernel
theorem s8_37 {x0 : Nat} {x1 : Int32} {x2 : Int32} : ip_WP 8 37 [some (.ref x0), some (.int x1), some (.int x2)] [] (G, F, I, J) b post px ↔ ip_WP 8 38 [some (.ref x0), some (.int x1), some (.int x2)] [.ref x0] (G, F, I, J) b post px := ip_nx_iff ((ip_st_of f8_37).trans rfl)
theorem f8_38 : ip_fetch 8 38 = some (.getfield 22, 3) := by decide +kernel
set_option maxRecDepth 100000 in
theorem s8_38 {x0 : Nat} {x1 : Int32} {x2 : Int32} {s0 : Nat} : ip_WP 8 38 [some (.ref x0), some (.int x1), some (.int x2)] [.ref s0] (G, F, I, J) b post px ↔ (ip_isO G s0 0 = true ∧ ip_WP 8 41 [some (.ref x0), some (.int x1), some (.int x2)] [F s0 2] (G, F, I, J) b post px) := ip_s_getf f8_38 (by decide +kernel)
theorem f8_41 : ip_fetch 8 41 = some (.getfield 159, 3) := by decide +kernel
set_option maxRecDepth 100000 in
theorem s8_41 {x0 : Nat} {x1 : Int32} {x2 : Int32} {s0 : Nat} : ip_WP 8 41 [some (.ref x0), some (.int x1), some (.int x2)] [.ref s0] (G, F, I, J) b post px ↔ (ip_isO G s0 3 = true ∧ ip_WP 8 44 [some (.ref x0), some (.int x1), some (.int x2)] [F s0 11] (G, F, I, J) b post px) := ip_s_getf f8_41 (by decide +kernel)
theorem f8_44 : ip_fetch 8 44 = some (.iload_n 1, 1) := by decide +kernel
theorem s8_44 {x0 : Nat} {x1 : Int32} {x2 : Int32} {s0 : Nat} : ip_WP 8 44 [some (.ref x0), some (.int x1), some (.int x2)] [.ref s0] (G, F, I, J) b post px ↔ ip_WP 8 45 [some (.ref x0), some (.int x1), some (.int x2)] [.int x1, .ref s0] (G, F, I, J) b post px := ip_nx_iff ((ip_st_of f8_44).trans rfl)
theorem f8_45 : ip_fetch 8 45 = some (.invokevirtual 130, 3) := by decide +kernel
set_option maxRecDepth 100000 in
theorem s8_45 {x0 : Nat} {x1 : Int32} {x2 : Int32} {s0 : Nat} {s1 : Int32} : ip_WP 8 45 [some (.ref x0), some (.int x1), some (.int x2)] [.int s1, .ref s0] (G, F, I, J) b post px ↔ (ip_isO G s0 9 = true ∧ ip_WP 191 0 [some (.ref s0), some (.int s1)] [] (G, F, I, J) (0, 0) (fun r h' => ip_WP 8 48 [some (.ref x0), some (.int x1), some (.int x2)] (r.toList ++ []) h' b post px) (fun _ _ => False)) := ip_ck_iff (x := ip_cl 191 [some (.ref s0), some (.int s1)] [] (0, 0) b) ((ip_st_of f8_45).trans rfl) (ip_cl_iff)
theorem f8_48 : ip_fetch 8 48 = some (.ireturn, 1) := by decide +kernel
theorem s8_48 {x0 : Nat} {x1 : Int32} {x2 : Int32} {s0 : Int32} : ip_WP 8 48 [some (.ref x0), some (.int x1), some (.int x2)] [.int s0] (G, F, I, J) b post px ↔ post (some (.int s0)) (G, F, I, J) := ip_rt_iff ((ip_st_of f8_48).trans rfl)
theorem f9_0 : ip_fetch 9 0 = some (.iload_n 1, 1) := by decide +kernel
theorem s9_0 {x0 : Nat} {x1 : Int32} {x2 : Int32} : ip_WP 9 0 [some (.ref x0), some (.int x1), some (.int x2)] [] (G, F, I, J) b post px ↔ ip_WP 9 1 [some (.ref x0), some (.int x1), some (.int x2)] [.int x1] (G, F, I, J) b post px := ip_nx_iff ((ip_st_of f9_0).trans rfl)
theorem f9_1 : ip_fetch 9 1 = some (.aload_n 0, 1) := by decide +kernel
theorem s9_1 {x0 : Nat} {x1 : Int32} {x2 : Int32} {s0 : Int32} : ip_WP 9 1 [some (.ref x0), some (.int x1), some (.int x2)] [.int s0] (G, F, I, J) b post px ↔ ip_WP 9 2 [some (.ref x0), some (.int x1), some (.int x2)] [.ref x0, .int s0] (G, F, I, J) b post px := ip_nx_iff ((ip_st_of f9_1).trans rfl)
theorem f9_2 : ip_fetch 9 2 = some (.getfield 22, 3) := by decide +kernel
set_option maxRecDepth 100000 in
theorem s9_2 {x0 : Nat} {x1 : Int32} {x2 : Int32} {s0 : Int32} {s1 : Nat} : ip_WP 9 2 [some (.ref x0), some (.int x1), some (.int x2)] [.ref s1, .int s0] (G, F, I, J) b post px ↔ (ip_isO G s1 0 = true ∧ ip_WP 9 5 [some (.ref x0), some (.int x1), some (.int x2)] [F s1 2, .int s0] (G, F, I, J) b post px) := ip_s_getf f9_2 (by decide +kernel)
theorem f9_5 : ip_fetch 9 5 = some (.getfield 162, 3) := by decide +kernel
set_option maxRecDepth 100000 in
theorem s9_5 {x0 : Nat} {x1 : Int32} {x2 : Int32} {s0 : Int32} {s1 : Nat} : ip_WP 9 5 [some (.ref x0), some (.int x1), some (.int x2)] [.ref s1, .int s0] (G, F, I, J) b post px ↔ (ip_isO G s1 3 = true ∧ ip_WP 9 8 [some (.ref x0), some (.int x1), some (.int x2)] [F s1 3, .int s0] (G, F, I, J) b post px) := ip_s_getf f9_5 (by decide +kernel)
theorem f9_8 : ip_fetch 9 8 = some (.invokevirtual 115, 3) := by decide +kernel
set_option maxRecDepth 100000 in
theorem s9_8 {x0 : Nat} {x1 : Int32} {x2 : Int32} {s0 : Int32} {s1 : Nat} : ip_WP 9 8 [some (.ref x0), some (.int x1), some (.int x2)] [.ref s1, .int s0] (G, F, I, J) b post px ↔ (ip_isO G s1 6 = true ∧ ip_WP 143 0 [some (.ref s1)] [] (G, F, I, J) (0, 0) (fun r h' => ip_WP 9 11 [some (.ref x0), some (.int x1), some (.int x2)] (r.toList ++ [.int s0]) h' b post px) (fun _ _ => False)) := ip_ck_iff (x := ip_cl 143 [some (.ref s1)] [.int s0] (0, 0) b) ((ip_st_of f9_8).trans rfl) (ip_cl_iff)
theorem f9_11 : ip_fetch 9 11 = some (.invokestatic 118, 3) := by decide +kernel
set_option maxRecDepth 100000 in
theorem s9_11 {x0 : Nat} {x1 : Int32} {x2 : Int32} {s0 : Int32} {s1 : Int32} : ip_WP 9 11 [some (.ref x0), some (.int x1), some (.int x2)] [.int s1, .int s0] (G, F, I, J) b post px ↔ (ip_bud 18 b = true ∧ ip_WP 18 0 [some (.int s0), some (.int s1)] [] (G, F, I, J) (1, 6) (fun r h' => ip_WP 9 14 [some (.ref x0), some (.int x1), some (.int x2)] (r.toList ++ []) h' (ip_rst 18 b) post px) px) := ip_ck_iff (x := ip_cl 18 [some (.int s0), some (.int s1)] [] (1, 6) (ip_rst 18 b)) ((ip_st_of f9_11).trans rfl) (ip_cl_iff)
theorem f9_14 : ip_fetch 9 14 = some (.iload_n 2, 1) := by decide +kernel
theorem s9_14 {x0 : Nat} {x1 : Int32} {x2 : Int32} : ip_WP 9 14 [some (.ref x0), some (.int x1), some (.int x2)] [] (G, F, I, J) b post px ↔ ip_WP 9 15 [some (.ref x0), some (.int x1), some (.int x2)] [.int x2] (G, F, I, J) b post px := ip_nx_iff ((ip_st_of f9_14).trans rfl)
theorem f9_15 : ip_fetch 9 15 = some (.aload_n 0, 1) := by decide +kernel
theorem s9_15 {x0 : Nat} {x1 : Int32} {x2 : Int32} {s0 : Int32} : ip_WP 9 15 [some (.ref x0), some (.int x1), some (.int x2)] [.int s0] (G, F, I, J) b post px ↔ ip_WP 9 16 [some (.ref x0), some (.int x1), some (.int x2)] [.ref x0, .int s0] (G, F, I, J) b post px := ip_nx_iff ((ip_st_of f9_15).trans rfl)
theorem f9_16 : ip_fetch 9 16 = some (.getfield 22, 3) := by decide +kernel
set_option maxRecDepth 100000 in
theorem s9_16 {x0 : Nat} {x1 : Int32} {x2 : Int32} {s0 : Int32} {s1 : Nat} : ip_WP 9 16 [some (.ref x0), some (.int x1), some (.int x2)] [.ref s1, .int s0] (G, F, I, J) b post px ↔ (ip_isO G s1 0 = true ∧ ip_WP 9 19 [some (.ref x0), some (.int x1), some (.int x2)] [F s1 2, .int s0] (G, F, I, J) b post px) := ip_s_getf f9_16 (by decide +kernel)
theorem f9_19 : ip_fetch 9 19 = some (.getfield 111, 3) := by decide +kernel
set_option maxRecDepth 100000 in
theorem s9_19 {x0 : Nat} {x1 : Int32} {x2 : Int32} {s0 : Int32} {s1 : Nat} : ip_WP 9 19 [some (.ref x0), some (.int x1), some (.int x2)] [.ref s1, .int s0] (G, F, I, J) b post px ↔ (ip_isO G s1 3 = true ∧ ip_WP 9 22 [some (.ref x0), some (.int x1), some (.int x2)] [F s1 0, .int s0] (G, F, I, J) b post px) := ip_s_getf f9_19 (by decide +kernel)
theorem f9_22 : ip_fetch 9 22 = some (.invokevirtual 115, 3) := by decide +kernel
set_option maxRecDepth 100000 in
theorem s9_22 {x0 : Nat} {x1 : Int32} {x2 : Int32} {s0 : Int32} {s1 : Nat} : ip_WP 9 22 [some (.ref x0), some (.int x1), some (.int x2)] [.ref s1, .int s0] (G, F, I, J) b post px ↔ (ip_isO G s1 6 = true ∧ ip_WP 143 0 [some (.ref s1)] [] (G, F, I, J) (0, 0) (fun r h' => ip_WP 9 25 [some (.ref x0), some (.int x1), some (.int x2)] (r.toList ++ [.int s0]) h' b post px) (fun _ _ => False)) := ip_ck_iff (x := ip_cl 143 [some (.ref s1)] [.int s0] (0, 0) b) ((ip_st_of f9_22).trans rfl) (ip_cl_iff)
theorem f9_25 : ip_fetch 9 25 = some (.invokestatic 118, 3) := by decide +kernel
set_option maxRecDepth 100000 in
theorem s9_25 {x0 : Nat} {x1 : Int32} {x2 : Int32} {s0 : Int32} {s1 : Int32} : ip_WP 9 25 [some (.ref x0), some (.int x1), some (.int x2)] [.int s1, .int s0] (G, F, I, J) b post px ↔ (ip_bud 18 b = true ∧ ip_WP 18 0 [some (.int s0), some (.int s1)] [] (G, F, I, J) (1, 6) (fun r h' => ip_WP 9 28 [some (.ref x0), some (.int x1), some (.int x2)] (r.toList ++ []) h' (ip_rst 18 b) post px) px) := ip_ck_iff (x := ip_cl 18 [some (.int s0), some (.int s1)] [] (1, 6) (ip_rst 18 b)) ((ip_st_of f9_25).trans rfl) (ip_cl_iff)
theorem f9_28 : ip_fetch 9 28 = some (.aload_n 0, 1) := by decide +kernel
theorem s9_28 {x0 : Nat} {x1 : Int32} {x2 : Int32} : ip_WP 9 28 [some (.ref x0), some (.int x1), some (.int x2)] [] (G, F, I, J) b post px ↔ ip_WP 9 29 [some (.ref x0), some (.int x1), some (.int x2)] [.ref x0] (G, F, I, J) b post px := ip_nx_iff ((ip_st_of f9_28).trans rfl)
theorem f9_29 : ip_fetch 9 29 = some (.getfield 22, 3) := by decide +kernel
set_option maxRecDepth 100000 in
theorem s9_29 {x0 : Nat} {x1 : Int32} {x2 : Int32} {s0 : Nat} : ip_WP 9 29 [some (.ref x0), some (.int x1), some (.int x2)] [.ref s0] (G, F, I, J) b post px ↔ (ip_isO G s0 0 = true ∧ ip_WP 9 32 [some (.ref x0), some (.int x1), some (.int x2)] [F s0 2] (G, F, I, J) b post px) := ip_s_getf f9_29 (by decide +kernel)
theorem f9_32 : ip_fetch 9 32 = some (.iload_n 1, 1) := by decide +kernel
theorem s9_32 {x0 : Nat} {x1 : Int32} {x2 : Int32} {s0 : Nat} : ip_WP 9 32 [some (.ref x0), some (.int x1), some (.int x2)] [.ref s0] (G, F, I, J) b post px ↔ ip_WP 9 33 [some (.ref x0), some (.int x1), some (.int x2)] [.int x1, .ref s0] (G, F, I, J) b post px := ip_nx_iff ((ip_st_of f9_32).trans rfl)
theorem f9_33 : ip_fetch 9 33 = some (.iload_n 2, 1) := by decide +kernel
theorem s9_33 {x0 : Nat} {x1 : Int32} {x2 : Int32} {s0 : Nat} {s1 : Int32} : ip_WP 9 33 [some (.ref x0), some (.int x1), some (.int x2)] [.int s1, .ref s0] (G, F, I, J) b post px ↔ ip_WP 9 34 [some (.ref x0), some (.int x1), some (.int x2)] [.int x2, .int s1, .ref s0] (G, F, I, J) b post px := ip_nx_iff ((ip_st_of f9_33).trans rfl)
theorem f9_34 : ip_fetch 9 34 = some (.invokevirtual 165, 3) := by decide +kernel
set_option maxRecDepth 100000 in
theorem s9_34 {x0 : Nat} {x1 : Int32} {x2 : Int32} {s0 : Nat} {s1 : Int32} {s2 : Int32} : ip_WP 9 34 [some (.ref x0), some (.int x1), some (.int x2)] [.int s2, .int s1, .ref s0] (G, F, I, J) b post px ↔ (ip_isO G s0 3 = true ∧ ip_WP 114 0 [some (.ref s0), some (.int s1), some (.int s2)] [] (G, F, I, J) (0, 0) (fun r h' => ip_WP 9 37 [some (.ref x0), some (.int x1), some (.int x2)] (r.toList ++ []) h' b post px) (fun _ _ => False)) := ip_ck_iff (x := ip_cl 114 [some (.ref s0), some (.int s1), some (.int s2)] [] (0, 0) b) ((ip_st_of f9_34).trans rfl) (ip_cl_iff)
theorem f9_37 : ip_fetch 9 37 = some (.ireturn, 1) := by decide +kernel
theorem s9_37 {x0 : Nat} {x1 : Int32} {x2 : Int32} {s0 : Int32} : ip_WP 9 37 [some (.ref x0), some (.int x1), some (.int x2)] [.int s0] (G, F, I, J) b post px ↔ ((s0 = 0 ∨ s0 = 1) ∧ post (some (.int s0)) (G, F, I, J)) := ip_s_zret ((ip_st_of f9_37).trans rfl)
theorem f10_0 : ip_fetch 10 0 = some (.aload_n 0, 1) := by decide +kernel
theorem s10_0 {x0 : Nat} : ip_WP 10 0 [some (.ref x0)] [] (G, F, I, J) b post px ↔ ip_WP 10 1 [some (.ref x0)] [.ref x0] (G, F, I, J) b post px := ip_nx_iff ((ip_st_of f10_0).trans rfl)
theorem f10_1 : ip_fetch 10 1 = some (.getfield 51, 3) := by decide +kernel
set_option maxRecDepth 100000 in
theorem s10_1 {x0 : Nat} {s0 : Nat} : ip_WP 10 1 [some (.ref x0)] [.ref s0] (G, F, I, J) b post px ↔ (ip_isO G s0 0 = true ∧ ip_WP 10 4 [some (.ref x0)] [F s0 5] (G, F, I, J) b post px) := ip_s_getf f10_1 (by decide +kernel)
theorem f10_4 : ip_fetch 10 4 = some (.invokevirtual 169, 3) := by decide +kernel
set_option maxRecDepth 100000 in
theorem s10_4 {x0 : Nat} {s0 : Nat} : ip_WP 10 4 [some (.ref x0)] [.ref s0] (G, F, I, J) b post px ↔ (ip_isO G s0 4 = true ∧ ip_WP 120 0 [some (.ref s0)] [] (G, F, I, J) (0, 0) (fun r h' => ip_WP 10 7 [some (.ref x0)] (r.toList ++ []) h' b post px) (fun _ _ => False)) := ip_ck_iff (x := ip_cl 120 [some (.ref s0)] [] (0, 0) b) ((ip_st_of f10_4).trans rfl) (ip_cl_iff)
theorem f10_7 : ip_fetch 10 7 = some (.ireturn, 1) := by decide +kernel
theorem s10_7 {x0 : Nat} {s0 : Int32} : ip_WP 10 7 [some (.ref x0)] [.int s0] (G, F, I, J) b post px ↔ post (some (.int s0)) (G, F, I, J) := ip_rt_iff ((ip_st_of f10_7).trans rfl)
theorem f11_0 : ip_fetch 11 0 = some (.aload_n 0, 1) := by decide +kernel
theorem s11_0 {x0 : Nat} {x1 : Int32} {x2 : Int32} : ip_WP 11 0 [some (.ref x0), some (.int x1), some (.int x2)] [] (G, F, I, J) b post px ↔ ip_WP 11 1 [some (.ref x0), some (.int x1), some (.int x2)] [.ref x0] (G, F, I, J) b post px := ip_nx_iff ((ip_st_of f11_0).trans rfl)
theorem f11_1 : ip_fetch 11 1 = some (.getfield 51, 3) := by decide +kernel
set_option maxRecDepth 100000 in
theorem s11_1 {x0 : Nat} {x1 : Int32} {x2 : Int32} {s0 : Nat} : ip_WP 11 1 [some (.ref x0), some (.int x1), some (.int x2)] [.ref s0] (G, F, I, J) b post px ↔ (ip_isO G s0 0 = true ∧ ip_WP 11 4 [some (.ref x0), some (.int x1), some (.int x2)] [F s0 5] (G, F, I, J) b post px) := ip_s_getf f11_1 (by decide +kernel)
theorem f11_4 : ip_fetch 11 4 = some (.iload_n 1, 1) := by decide +kernel
theorem s11_4 {x0 : Nat} {x1 : Int32} {x2 : Int32} {s0 : Nat} : ip_WP 11 4 [some (.ref x0), some (.int x1), some (.int x2)] [.ref s0] (G, F, I, J) b post px ↔ ip_WP 11 5 [some (.ref x0), some (.int x1), some (.int x2)] [.int x1, .ref s0] (G, F, I, J) b post px := ip_nx_iff ((ip_st_of f11_4).trans rfl)
theorem f11_5 : ip_fetch 11 5 = some (.iload_n 2, 1) := by decide +kernel
theorem s11_5 {x0 : Nat} {x1 : Int32} {x2 : Int32} {s0 : Nat} {s1 : Int32} : ip_WP 11 5 [some (.ref x0), some (.int x1), some (.int x2)] [.int s1, .ref s0] (G, F, I, J) b post px ↔ ip_WP 11 6 [some (.ref x0), some (.int x1), some (.int x2)] [.int x2, .int s1, .ref s0] (G, F, I, J) b post px := ip_nx_iff ((ip_st_of f11_5).trans rfl)
theorem f11_6 : ip_fetch 11 6 = some (.invokestatic 170, 3) := by decide +kernel
set_option maxRecDepth 100000 in
theorem s11_6 {x0 : Nat} {x1 : Int32} {x2 : Int32} {s0 : Nat} {s1 : Int32} {s2 : Int32} : ip_WP 11 6 [some (.ref x0), some (.int x1), some (.int x2)] [.int s2, .int s1, .ref s0] (G, F, I, J) b post px ↔ (ip_bud 17 b = true ∧ ip_WP 17 0 [some (.ref s0), some (.int s1), some (.int s2)] [] (G, F, I, J) (2, 12) (fun r h' => ip_WP 11 9 [some (.ref x0), some (.int x1), some (.int x2)] (r.toList ++ []) h' (ip_rst 17 b) post px) px) := ip_ck_iff (x := ip_cl 17 [some (.ref s0), some (.int s1), some (.int s2)] [] (2, 12) (ip_rst 17 b)) ((ip_st_of f11_6).trans rfl) (ip_cl_iff)
theorem f11_9 : ip_fetch 11 9 = some (.ireturn, 1) := by decide +kernel
theorem s11_9 {x0 : Nat} {x1 : Int32} {x2 : Int32} {s0 : Int32} : ip_WP 11 9 [some (.ref x0), some (.int x1), some (.int x2)] [.int s0] (G, F, I, J) b post px ↔ post (some (.int s0)) (G, F, I, J) := ip_rt_iff ((ip_st_of f11_9).trans rfl)
theorem f12_0 : ip_fetch 12 0 = some (.aload_n 0, 1) := by decide +kernel
theorem s12_0 {x0 : Nat} {x1 : Int32} {x2 : Int32} : ip_WP 12 0 [some (.ref x0), some (.int x1), some (.int x2)] [] (G, F, I, J) b post px ↔ ip_WP 12 1 [some (.ref x0), some (.int x1), some (.int x2)] [.ref x0] (G, F, I, J) b post px := ip_nx_iff ((ip_st_of f12_0).trans rfl)
theorem f12_1 : ip_fetch 12 1 = some (.getfield 55, 3) := by decide +kernel
set_option maxRecDepth 100000 in
theorem s12_1 {x0 : Nat} {x1 : Int32} {x2 : Int32} {s0 : Nat} : ip_WP 12 1 [some (.ref x0), some (.int x1), some (.int x2)] [.ref s0] (G, F, I, J) b post px ↔ (ip_isO G s0 0 = true ∧ ip_WP 12 4 [some (.ref x0), some (.int x1), some (.int x2)] [F s0 6] (G, F, I, J) b post px) := ip_s_getf f12_1 (by decide +kernel)
theorem f12_4 : ip_fetch 12 4 = some (.iload_n 1, 1) := by decide +kernel
theorem s12_4 {x0 : Nat} {x1 : Int32} {x2 : Int32} {s0 : Nat} : ip_WP 12 4 [some (.ref x0), some (.int x1), some (.int x2)] [.ref s0] (G, F, I, J) b post px ↔ ip_WP 12 5 [some (.ref x0), some (.int x1), some (.int x2)] [.int x1, .ref s0] (G, F, I, J) b post px := ip_nx_iff ((ip_st_of f12_4).trans rfl)
theorem f12_5 : ip_fetch 12 5 = some (.iload_n 2, 1) := by decide +kernel
theorem s12_5 {x0 : Nat} {x1 : Int32} {x2 : Int32} {s0 : Nat} {s1 : Int32} : ip_WP 12 5 [some (.ref x0), some (.int x1), some (.int x2)] [.int s1, .ref s0] (G, F, I, J) b post px ↔ ip_WP 12 6 [some (.ref x0), some (.int x1), some (.int x2)] [.int x2, .int s1, .ref s0] (G, F, I, J) b post px := ip_nx_iff ((ip_st_of f12_5).trans rfl)
theorem f12_6 : ip_fetch 12 6 = some (.invokestatic 170, 3) := by decide +kernel
set_option maxRecDepth 100000 in
theorem s12_6 {x0 : Nat} {x1 : Int32} {x2 : Int32} {s0 : Nat} {s1 : Int32} {s2 : Int32} : ip_WP 12 6 [some (.ref x0), some (.int x1), some (.int x2)] [.int s2, .int s1, .ref s0] (G, F, I, J) b post px ↔ (ip_bud 17 b = true ∧ ip_WP 17 0 [some (.ref s0), some (.int s1), some (.int s2)] [] (G, F, I, J) (2, 12) (fun r h' => ip_WP 12 9 [some (.ref x0), some (.int x1), some (.int x2)] (r.toList ++ []) h' (ip_rst 17 b) post px) px) := ip_ck_iff (x := ip_cl 17 [some (.ref s0), some (.int s1), some (.int s2)] [] (2, 12) (ip_rst 17 b)) ((ip_st_of f12_6).trans rfl) (ip_cl_iff)
theorem f12_9 : ip_fetch 12 9 = some (.ireturn, 1) := by decide +kernel
theorem s12_9 {x0 : Nat} {x1 : Int32} {x2 : Int32} {s0 : Int32} : ip_WP 12 9 [some (.ref x0), some (.int x1), some (.int x2)] [.int s0] (G, F, I, J) b post px ↔ post (some (.int s0)) (G, F, I, J) := ip_rt_iff ((ip_st_of f12_9).trans rfl)
theorem f13_0 : ip_fetch 13 0 = some (.aload_n 0, 1) := by decide +kernel
theorem s13_0 {x0 : Nat} : ip_WP 13 0 [some (.ref x0)] [] (G, F, I, J) b post px ↔ ip_WP 13 1 [some (.ref x0)] [.ref x0] (G, F, I, J) b post px := ip_nx_iff ((ip_st_of f13_0).trans rfl)
theorem f13_1 : ip_fetch 13 1 = some (.getfield 40, 3) := by decide +kernel
set_option maxRecDepth 100000 in
theorem s13_1 {x0 : Nat} {s0 : Nat} : ip_WP 13 1 [some (.ref x0)] [.ref s0] (G, F, I, J) b post px ↔ (ip_isO G s0 0 = true ∧ ip_WP 13 4 [some (.ref x0)] [F s0 4] (G, F, I, J) b post px) := ip_s_getf f13_1 (by decide +kernel)
theorem f13_4 : ip_fetch 13 4 = some (.invokevirtual 174, 3) := by decide +kernel
set_option maxRecDepth 100000 in
theorem s13_4 {x0 : Nat} {s0 : Nat} : ip_WP 13 4 [some (.ref x0)] [.ref s0] (G, F, I, J) b post px ↔ (ip_isO G s0 7 = true ∧ ip_WP 150 0 [some (.ref s0), none] [] (G, F, I, J) (0, 0) (fun r h' => ip_WP 13 7 [some (.ref x0)] (r.toList ++ []) h' b post px) (fun _ _ => False)) := ip_ck_iff (x := ip_cl 150 [some (.ref s0), none] [] (0, 0) b) ((ip_st_of f13_4).trans rfl) (ip_cl_iff)
theorem f13_7 : ip_fetch 13 7 = some (.aload_n 0, 1) := by decide +kernel
theorem s13_7 {x0 : Nat} : ip_WP 13 7 [some (.ref x0)] [] (G, F, I, J) b post px ↔ ip_WP 13 8 [some (.ref x0)] [.ref x0] (G, F, I, J) b post px := ip_nx_iff ((ip_st_of f13_7).trans rfl)
theorem f13_8 : ip_fetch 13 8 = some (.getfield 16, 3) := by decide +kernel
set_option maxRecDepth 100000 in
theorem s13_8 {x0 : Nat} {s0 : Nat} : ip_WP 13 8 [some (.ref x0)] [.ref s0] (G, F, I, J) b post px ↔ (ip_isO G s0 0 = true ∧ ip_WP 13 11 [some (.ref x0)] [F s0 1] (G, F, I, J) b post px) := ip_s_getf f13_8 (by decide +kernel)
theorem f13_11 : ip_fetch 13 11 = some (.invokevirtual 62, 3) := by decide +kernel
set_option maxRecDepth 100000 in
theorem s13_11 {x0 : Nat} {s0 : Nat} : ip_WP 13 11 [some (.ref x0)] [.ref s0] (G, F, I, J) b post px ↔ (ip_isO G s0 2 = true ∧ ip_WP 88 0 [some (.ref s0)] [] (G, F, I, J) (0, 0) (fun r h' => ip_WP 13 14 [some (.ref x0)] (r.toList ++ []) h' b post px) (fun _ _ => False)) := ip_ck_iff (x := ip_cl 88 [some (.ref s0)] [] (0, 0) b) ((ip_st_of f13_11).trans rfl) (ip_cl_iff)
theorem f13_14 : ip_fetch 13 14 = some (.ireturn, 1) := by decide +kernel
theorem s13_14 {x0 : Nat} {s0 : Int32} : ip_WP 13 14 [some (.ref x0)] [.int s0] (G, F, I, J) b post px ↔ post (some (.int s0)) (G, F, I, J) := ip_rt_iff ((ip_st_of f13_14).trans rfl)
theorem f14_0 : ip_fetch 14 0 = some (.iload_n 1, 1) := by decide +kernel
theorem s14_0 {x0 : Nat} {x1 : Int32} : ip_WP 14 0 [some (.ref x0), some (.int x1)] [] (G, F, I, J) b post px ↔ ip_WP 14 1 [some (.ref x0), some (.int x1)] [.int x1] (G, F, I, J) b post px := ip_nx_iff ((ip_st_of f14_0).trans rfl)
theorem f14_1 : ip_fetch 14 1 = some (.aload_n 0, 1) := by decide +kernel
theorem s14_1 {x0 : Nat} {x1 : Int32} {s0 : Int32} : ip_WP 14 1 [some (.ref x0), some (.int x1)] [.int s0] (G, F, I, J) b post px ↔ ip_WP 14 2 [some (.ref x0), some (.int x1)] [.ref x0, .int s0] (G, F, I, J) b post px := ip_nx_iff ((ip_st_of f14_1).trans rfl)
theorem f14_2 : ip_fetch 14 2 = some (.getfield 16, 3) := by decide +kernel
set_option maxRecDepth 100000 in
theorem s14_2 {x0 : Nat} {x1 : Int32} {s0 : Int32} {s1 : Nat} : ip_WP 14 2 [some (.ref x0), some (.int x1)] [.ref s1, .int s0] (G, F, I, J) b post px ↔ (ip_isO G s1 0 = true ∧ ip_WP 14 5 [some (.ref x0), some (.int x1)] [F s1 1, .int s0] (G, F, I, J) b post px) := ip_s_getf f14_2 (by decide +kernel)
theorem f14_5 : ip_fetch 14 5 = some (.invokevirtual 62, 3) := by decide +kernel
set_option maxRecDepth 100000 in
theorem s14_5 {x0 : Nat} {x1 : Int32} {s0 : Int32} {s1 : Nat} : ip_WP 14 5 [some (.ref x0), some (.int x1)] [.ref s1, .int s0] (G, F, I, J) b post px ↔ (ip_isO G s1 2 = true ∧ ip_WP 88 0 [some (.ref s1)] [] (G, F, I, J) (0, 0) (fun r h' => ip_WP 14 8 [some (.ref x0), some (.int x1)] (r.toList ++ [.int s0]) h' b post px) (fun _ _ => False)) := ip_ck_iff (x := ip_cl 88 [some (.ref s1)] [.int s0] (0, 0) b) ((ip_st_of f14_5).trans rfl) (ip_cl_iff)
theorem f14_8 : ip_fetch 14 8 = some (.invokestatic 118, 3) := by decide +kernel
set_option maxRecDepth 100000 in
theorem s14_8 {x0 : Nat} {x1 : Int32} {s0 : Int32} {s1 : Int32} : ip_WP 14 8 [some (.ref x0), some (.int x1)] [.int s1, .int s0] (G, F, I, J) b post px ↔ (ip_bud 18 b = true ∧ ip_WP 18 0 [some (.int s0), some (.int s1)] [] (G, F, I, J) (1, 6) (fun r h' => ip_WP 14 11 [some (.ref x0), some (.int x1)] (r.toList ++ []) h' (ip_rst 18 b) post px) px) := ip_ck_iff (x := ip_cl 18 [some (.int s0), some (.int s1)] [] (1, 6) (ip_rst 18 b)) ((ip_st_of f14_8).trans rfl) (ip_cl_iff)
theorem f14_11 : ip_fetch 14 11 = some (.aload_n 0, 1) := by decide +kernel
theorem s14_11 {x0 : Nat} {x1 : Int32} : ip_WP 14 11 [some (.ref x0), some (.int x1)] [] (G, F, I, J) b post px ↔ ip_WP 14 12 [some (.ref x0), some (.int x1)] [.ref x0] (G, F, I, J) b post px := ip_nx_iff ((ip_st_of f14_11).trans rfl)
theorem f14_12 : ip_fetch 14 12 = some (.getfield 16, 3) := by decide +kernel
set_option maxRecDepth 100000 in
theorem s14_12 {x0 : Nat} {x1 : Int32} {s0 : Nat} : ip_WP 14 12 [some (.ref x0), some (.int x1)] [.ref s0] (G, F, I, J) b post px ↔ (ip_isO G s0 0 = true ∧ ip_WP 14 15 [some (.ref x0), some (.int x1)] [F s0 1] (G, F, I, J) b post px) := ip_s_getf f14_12 (by decide +kernel)
theorem f14_15 : ip_fetch 14 15 = some (.iload_n 1, 1) := by decide +kernel
theorem s14_15 {x0 : Nat} {x1 : Int32} {s0 : Nat} : ip_WP 14 15 [some (.ref x0), some (.int x1)] [.ref s0] (G, F, I, J) b post px ↔ ip_WP 14 16 [some (.ref x0), some (.int x1)] [.int x1, .ref s0] (G, F, I, J) b post px := ip_nx_iff ((ip_st_of f14_15).trans rfl)
theorem f14_16 : ip_fetch 14 16 = some (.invokevirtual 177, 3) := by decide +kernel
set_option maxRecDepth 100000 in
theorem s14_16 {x0 : Nat} {x1 : Int32} {s0 : Nat} {s1 : Int32} : ip_WP 14 16 [some (.ref x0), some (.int x1)] [.int s1, .ref s0] (G, F, I, J) b post px ↔ (ip_isO G s0 2 = true ∧ ip_WP 89 0 [some (.ref s0), some (.int s1)] [] (G, F, I, J) (0, 0) (fun r h' => ip_WP 14 19 [some (.ref x0), some (.int x1)] (r.toList ++ []) h' b post px) (fun _ _ => False)) := ip_ck_iff (x := ip_cl 89 [some (.ref s0), some (.int s1)] [] (0, 0) b) ((ip_st_of f14_16).trans rfl) (ip_cl_iff)
theorem f14_19 : ip_fetch 14 19 = some (.ireturn, 1) := by decide +kernel
theorem s14_19 {x0 : Nat} {x1 : Int32} {s0 : Int32} : ip_WP 14 19 [some (.ref x0), some (.int x1)] [.int s0] (G, F, I, J) b post px ↔ post (some (.int s0)) (G, F, I, J) := ip_rt_iff ((ip_st_of f14_19).trans rfl)
theorem f15_0 : ip_fetch 15 0 = some (.aload_n 0, 1) := by decide +kernel
theorem s15_0 {x0 : Nat} : ip_WP 15 0 [some (.ref x0)] [] (G, F, I, J) b post px ↔ ip_WP 15 1 [some (.ref x0)] [.ref x0] (G, F, I, J) b post px := ip_nx_iff ((ip_st_of f15_0).trans rfl)
theorem f15_1 : ip_fetch 15 1 = some (.getfield 10, 3) := by decide +kernel
set_option maxRecDepth 100000 in
theorem s15_1 {x0 : Nat} {s0 : Nat} : ip_WP 15 1 [some (.ref x0)] [.ref s0] (G, F, I, J) b post px ↔ (ip_isO G s0 0 = true ∧ ip_WP 15 4 [some (.ref x0)] [F s0 0] (G, F, I, J) b post px) := ip_s_getf f15_1 (by decide +kernel)
theorem f15_4 : ip_fetch 15 4 = some (.aload_n 0, 1) := by decide +kernel
theorem s15_4 {x0 : Nat} {s0 : Nat} : ip_WP 15 4 [some (.ref x0)] [.ref s0] (G, F, I, J) b post px ↔ ip_WP 15 5 [some (.ref x0)] [.ref x0, .ref s0] (G, F, I, J) b post px := ip_nx_iff ((ip_st_of f15_4).trans rfl)
theorem f15_5 : ip_fetch 15 5 = some (.getfield 16, 3) := by decide +kernel
set_option maxRecDepth 100000 in
theorem s15_5 {x0 : Nat} {s0 : Nat} {s1 : Nat} : ip_WP 15 5 [some (.ref x0)] [.ref s1, .ref s0] (G, F, I, J) b post px ↔ (ip_isO G s1 0 = true ∧ ip_WP 15 8 [some (.ref x0)] [F s1 1, .ref s0] (G, F, I, J) b post px) := ip_s_getf f15_5 (by decide +kernel)
theorem f15_8 : ip_fetch 15 8 = some (.invokevirtual 180, 3) := by decide +kernel
set_option maxRecDepth 100000 in
theorem s15_8 {x0 : Nat} {s0 : Nat} {s1 : Nat} : ip_WP 15 8 [some (.ref x0)] [.ref s1, .ref s0] (G, F, I, J) b post px ↔ (ip_isO G s0 2 = true ∧ ip_WP 95 0 [some (.ref s0), some (.ref s1)] [] (G, F, I, J) (0, 0) (fun r h' => ip_WP 15 11 [some (.ref x0)] (r.toList ++ []) h' b post px) (fun _ _ => False)) := ip_ck_iff (x := ip_cl 95 [some (.ref s0), some (.ref s1)] [] (0, 0) b) ((ip_st_of f15_8).trans rfl) (ip_cl_iff)
theorem f15_11 : ip_fetch 15 11 = some (.aload_n 0, 1) := by decide +kernel
theorem s15_11 {x0 : Nat} : ip_WP 15 11 [some (.ref x0)] [] (G, F, I, J) b post px ↔ ip_WP 15 12 [some (.ref x0)] [.ref x0] (G, F, I, J) b post px := ip_nx_iff ((ip_st_of f15_11).trans rfl)
theorem f15_12 : ip_fetch 15 12 = some (.getfield 10, 3) := by decide +kernel
set_option maxRecDepth 100000 in
theorem s15_12 {x0 : Nat} {s0 : Nat} : ip_WP 15 12 [some (.ref x0)] [.ref s0] (G, F, I, J) b post px ↔ (ip_isO G s0 0 = true ∧ ip_WP 15 15 [some (.ref x0)] [F s0 0] (G, F, I, J) b post px) := ip_s_getf f15_12 (by decide +kernel)
theorem f15_15 : ip_fetch 15 15 = some (.invokevirtual 62, 3) := by decide +kernel
set_option maxRecDepth 100000 in
theorem s15_15 {x0 : Nat} {s0 : Nat} : ip_WP 15 15 [some (.ref x0)] [.ref s0] (G, F, I, J) b post px ↔ (ip_isO G s0 2 = true ∧ ip_WP 88 0 [some (.ref s0)] [] (G, F, I, J) (0, 0) (fun r h' => ip_WP 15 18 [some (.ref x0)] (r.toList ++ []) h' b post px) (fun _ _ => False)) := ip_ck_iff (x := ip_cl 88 [some (.ref s0)] [] (0, 0) b) ((ip_st_of f15_15).trans rfl) (ip_cl_iff)
theorem f15_18 : ip_fetch 15 18 = some (.ireturn, 1) := by decide +kernel
theorem s15_18 {x0 : Nat} {s0 : Int32} : ip_WP 15 18 [some (.ref x0)] [.int s0] (G, F, I, J) b post px ↔ post (some (.int s0)) (G, F, I, J) := ip_rt_iff ((ip_st_of f15_18).trans rfl)
theorem f16_0 : ip_fetch 16 0 = some (.iload_n 1, 1) := by decide +kernel
theorem s16_0 {x0 : Nat} {x1 : Int32} : ip_WP 16 0 [some (.ref x0), some (.int x1)] [] (G, F, I, J) b post px ↔ ip_WP 16 1 [some (.ref x0), some (.int x1)] [.int x1] (G, F, I, J) b post px := ip_nx_iff ((ip_st_of f16_0).trans rfl)
-- switch 16 1
theorem f16_1 : ip_fetch 16 1 = some (.tableswitch 135 0 8 #[51, 59, 70, 81, 89, 100, 111, 119, 127], 51) := by decide +kernel
theorem s16_1 {x0 : Nat} {x1 : Int32} {s0 : Int32} : ip_WP 16 1 [some (.ref x0), some (.int x1)] [.int s0] (G, F, I, J) b post px ↔ if s0 = 0 then ip_WP 16 52 [some (.ref x0), some (.int x1)] [] (G, F, I, J) b post px else if s0 = 1 then ip_WP 16 60 [some (.ref x0), some (.int x1)] [] (G, F, I, J) b post px else if s0 = 2 then ip_WP 16 71 [some (.ref x0), some (.int x1)] [] (G, F, I, J) b post px else if s0 = 3 then ip_WP 16 82 [some (.ref x0), some (.int x1)] [] (G, F, I, J) b post px else if s0 = 4 then ip_WP 16 90 [some (.ref x0), some (.int x1)] [] (G, F, I, J) b post px else if s0 = 5 then ip_WP 16 101 [some (.ref x0), some (.int x1)] [] (G, F, I, J) b post px else if s0 = 6 then ip_WP 16 112 [some (.ref x0), some (.int x1)] [] (G, F, I, J) b post px else if s0 = 7 then ip_WP 16 120 [some (.ref x0), some (.int x1)] [] (G, F, I, J) b post px else if s0 = 8 then ip_WP 16 128 [some (.ref x0), some (.int x1)] [] (G, F, I, J) b post px else ip_WP 16 136 [some (.ref x0), some (.int x1)] [] (G, F, I, J) b post px := by
  by_cases h0 : s0 = 0
  · subst h0
    rw [if_pos rfl]
    exact ip_nx_iff ((ip_st_of f16_1).trans rfl)
  rw [if_neg h0]
  by_cases h1 : s0 = 1
  · subst h1
    rw [if_pos rfl]
    exact ip_nx_iff ((ip_st_of f16_1).trans rfl)
  rw [if_neg h1]
  by_cases h2 : s0 = 2
  · subst h2
    rw [if_pos rfl]
    exact ip_nx_iff ((ip_st_of f16_1).trans rfl)
  rw [if_neg h2]
  by_cases h3 : s0 = 3
  · subst h3
    rw [if_pos rfl]
    exact ip_nx_iff ((ip_st_of f16_1).trans rfl)
  rw [if_neg h3]
  by_cases h4 : s0 = 4
  · subst h4
    rw [if_pos rfl]
    exact ip_nx_iff ((ip_st_of f16_1).trans rfl)
  rw [if_neg h4]
  by_cases h5 : s0 = 5
  · subst h5
    rw [if_pos rfl]
    exact ip_nx_iff ((ip_st_of f16_1).trans rfl)
  rw [if_neg h5]
  by_cases h6 : s0 = 6
  · subst h6
    rw [if_pos rfl]
    exact ip_nx_iff ((ip_st_of f16_1).trans rfl)
  rw [if_neg h6]
  by_cases h7 : s0 = 7
  · subst h7
    rw [if_pos rfl]
    exact ip_nx_iff ((ip_st_of f16_1).trans rfl)
  rw [if_neg h7]
  by_cases h8 : s0 = 8
  · subst h8
    rw [if_pos rfl]
    exact ip_nx_iff ((ip_st_of f16_1).trans rfl)
  rw [if_neg h8]
  have g0 := lv_neT (a := 0) h0 (by decide)
  have g1 := lv_neT (a := 1) h1 (by decide)
  have g2 := lv_neT (a := 2) h2 (by decide)
  have g3 := lv_neT (a := 3) h3 (by decide)
  have g4 := lv_neT (a := 4) h4 (by decide)
  have g5 := lv_neT (a := 5) h5 (by decide)
  have g6 := lv_neT (a := 6) h6 (by decide)
  have g7 := lv_neT (a := 7) h7 (by decide)
  have g8 := lv_neT (a := 8) h8 (by decide)
  exact ip_s_tsd f16_1 (by omega) rfl rfl
theorem f16_52 : ip_fetch 16 52 = some (.aload_n 0, 1) := by decide +kernel
theorem s16_52 {x0 : Nat} {x1 : Int32} : ip_WP 16 52 [some (.ref x0), some (.int x1)] [] (G, F, I, J) b post px ↔ ip_WP 16 53 [some (.ref x0), some (.int x1)] [.ref x0] (G, F, I, J) b post px := ip_nx_iff ((ip_st_of f16_52).trans rfl)
theorem f16_53 : ip_fetch 16 53 = some (.getfield 10, 3) := by decide +kernel
set_option maxRecDepth 100000 in
theorem s16_53 {x0 : Nat} {x1 : Int32} {s0 : Nat} : ip_WP 16 53 [some (.ref x0), some (.int x1)] [.ref s0] (G, F, I, J) b post px ↔ (ip_isO G s0 0 = true ∧ ip_WP 16 56 [some (.ref x0), some (.int x1)] [F s0 0] (G, F, I, J) b post px) := ip_s_getf f16_53 (by decide +kernel)
theorem f16_56 : ip_fetch 16 56 = some (.invokevirtual 62, 3) := by decide +kernel
set_option maxRecDepth 100000 in
theorem s16_56 {x0 : Nat} {x1 : Int32} {s0 : Nat} : ip_WP 16 56 [some (.ref x0), some (.int x1)] [.ref s0] (G, F, I, J) b post px ↔ (ip_isO G s0 2 = true ∧ ip_WP 88 0 [some (.ref s0)] [] (G, F, I, J) (0, 0) (fun r h' => ip_WP 16 59 [some (.ref x0), some (.int x1)] (r.toList ++ []) h' b post px) (fun _ _ => False)) := ip_ck_iff (x := ip_cl 88 [some (.ref s0)] [] (0, 0) b) ((ip_st_of f16_56).trans rfl) (ip_cl_iff)
theorem f16_59 : ip_fetch 16 59 = some (.ireturn, 1) := by decide +kernel
theorem s16_59 {x0 : Nat} {x1 : Int32} {s0 : Int32} : ip_WP 16 59 [some (.ref x0), some (.int x1)] [.int s0] (G, F, I, J) b post px ↔ post (some (.int s0)) (G, F, I, J) := ip_rt_iff ((ip_st_of f16_59).trans rfl)
theorem f16_60 : ip_fetch 16 60 = some (.aload_n 0, 1) := by decide +kernel
theorem s16_60 {x0 : Nat} {x1 : Int32} : ip_WP 16 60 [some (.ref x0), some (.int x1)] [] (G, F, I, J) b post px ↔ ip_WP 16 61 [some (.ref x0), some (.int x1)] [.ref x0] (G, F, I, J) b post px := ip_nx_iff ((ip_st_of f16_60).trans rfl)
theorem f16_61 : ip_fetch 16 61 = some (.getfield 22, 3) := by decide +kernel
set_option maxRecDepth 100000 in
theorem s16_61 {x0 : Nat} {x1 : Int32} {s0 : Nat} : ip_WP 16 61 [some (.ref x0), some (.int x1)] [.ref s0] (G, F, I, J) b post px ↔ (ip_isO G s0 0 = true ∧ ip_WP 16 64 [some (.ref x0), some (.int x1)] [F s0 2] (G, F, I, J) b post px) := ip_s_getf f16_61 (by decide +kernel)
theorem f16_64 : ip_fetch 16 64 = some (.getfield 111, 3) := by decide +kernel
set_option maxRecDepth 100000 in
theorem s16_64 {x0 : Nat} {x1 : Int32} {s0 : Nat} : ip_WP 16 64 [some (.ref x0), some (.int x1)] [.ref s0] (G, F, I, J) b post px ↔ (ip_isO G s0 3 = true ∧ ip_WP 16 67 [some (.ref x0), some (.int x1)] [F s0 0] (G, F, I, J) b post px) := ip_s_getf f16_64 (by decide +kernel)
theorem f16_67 : ip_fetch 16 67 = some (.invokevirtual 115, 3) := by decide +kernel
set_option maxRecDepth 100000 in
theorem s16_67 {x0 : Nat} {x1 : Int32} {s0 : Nat} : ip_WP 16 67 [some (.ref x0), some (.int x1)] [.ref s0] (G, F, I, J) b post px ↔ (ip_isO G s0 6 = true ∧ ip_WP 143 0 [some (.ref s0)] [] (G, F, I, J) (0, 0) (fun r h' => ip_WP 16 70 [some (.ref x0), some (.int x1)] (r.toList ++ []) h' b post px) (fun _ _ => False)) := ip_ck_iff (x := ip_cl 143 [some (.ref s0)] [] (0, 0) b) ((ip_st_of f16_67).trans rfl) (ip_cl_iff)
theorem f16_70 : ip_fetch 16 70 = some (.ireturn, 1) := by decide +kernel
theorem s16_70 {x0 : Nat} {x1 : Int32} {s0 : Int32} : ip_WP 16 70 [some (.ref x0), some (.int x1)] [.int s0] (G, F, I, J) b post px ↔ post (some (.int s0)) (G, F, I, J) := ip_rt_iff ((ip_st_of f16_70).trans rfl)
theorem f16_71 : ip_fetch 16 71 = some (.aload_n 0, 1) := by decide +kernel
theorem s16_71 {x0 : Nat} {x1 : Int32} : ip_WP 16 71 [some (.ref x0), some (.int x1)] [] (G, F, I, J) b post px ↔ ip_WP 16 72 [some (.ref x0), some (.int x1)] [.ref x0] (G, F, I, J) b post px := ip_nx_iff ((ip_st_of f16_71).trans rfl)
theorem f16_72 : ip_fetch 16 72 = some (.getfield 22, 3) := by decide +kernel
set_option maxRecDepth 100000 in
theorem s16_72 {x0 : Nat} {x1 : Int32} {s0 : Nat} : ip_WP 16 72 [some (.ref x0), some (.int x1)] [.ref s0] (G, F, I, J) b post px ↔ (ip_isO G s0 0 = true ∧ ip_WP 16 75 [some (.ref x0), some (.int x1)] [F s0 2] (G, F, I, J) b post px) := ip_s_getf f16_72 (by decide +kernel)
theorem f16_75 : ip_fetch 16 75 = some (.getfield 184, 3) := by decide +kernel
set_option maxRecDepth 100000 in
theorem s16_75 {x0 : Nat} {x1 : Int32} {s0 : Nat} : ip_WP 16 75 [some (.ref x0), some (.int x1)] [.ref s0] (G, F, I, J) b post px ↔ (ip_isO G s0 3 = true ∧ ip_WP 16 78 [some (.ref x0), some (.int x1)] [F s0 1] (G, F, I, J) b post px) := ip_s_getf f16_75 (by decide +kernel)
theorem f16_78 : ip_fetch 16 78 = some (.invokevirtual 115, 3) := by decide +kernel
set_option maxRecDepth 100000 in
theorem s16_78 {x0 : Nat} {x1 : Int32} {s0 : Nat} : ip_WP 16 78 [some (.ref x0), some (.int x1)] [.ref s0] (G, F, I, J) b post px ↔ (ip_isO G s0 6 = true ∧ ip_WP 143 0 [some (.ref s0)] [] (G, F, I, J) (0, 0) (fun r h' => ip_WP 16 81 [some (.ref x0), some (.int x1)] (r.toList ++ []) h' b post px) (fun _ _ => False)) := ip_ck_iff (x := ip_cl 143 [some (.ref s0)] [] (0, 0) b) ((ip_st_of f16_78).trans rfl) (ip_cl_iff)
theorem f16_81 : ip_fetch 16 81 = some (.ireturn, 1) := by decide +kernel
theorem s16_81 {x0 : Nat} {x1 : Int32} {s0 : Int32} : ip_WP 16 81 [some (.ref x0), some (.int x1)] [.int s0] (G, F, I, J) b post px ↔ post (some (.int s0)) (G, F, I, J) := ip_rt_iff ((ip_st_of f16_81).trans rfl)
theorem f16_82 : ip_fetch 16 82 = some (.aload_n 0, 1) := by decide +kernel
theorem s16_82 {x0 : Nat} {x1 : Int32} : ip_WP 16 82 [some (.ref x0), some (.int x1)] [] (G, F, I, J) b post px ↔ ip_WP 16 83 [some (.ref x0), some (.int x1)] [.ref x0] (G, F, I, J) b post px := ip_nx_iff ((ip_st_of f16_82).trans rfl)
theorem f16_83 : ip_fetch 16 83 = some (.getfield 22, 3) := by decide +kernel
set_option maxRecDepth 100000 in
theorem s16_83 {x0 : Nat} {x1 : Int32} {s0 : Nat} : ip_WP 16 83 [some (.ref x0), some (.int x1)] [.ref s0] (G, F, I, J) b post px ↔ (ip_isO G s0 0 = true ∧ ip_WP 16 86 [some (.ref x0), some (.int x1)] [F s0 2] (G, F, I, J) b post px) := ip_s_getf f16_83 (by decide +kernel)
theorem f16_86 : ip_fetch 16 86 = some (.invokevirtual 144, 3) := by decide +kernel
set_option maxRecDepth 100000 in
theorem s16_86 {x0 : Nat} {x1 : Int32} {s0 : Nat} : ip_WP 16 86 [some (.ref x0), some (.int x1)] [.ref s0] (G, F, I, J) b post px ↔ (ip_isO G s0 3 = true ∧ ip_WP 110 0 [some (.ref s0)] [] (G, F, I, J) (0, 0) (fun r h' => ip_WP 16 89 [some (.ref x0), some (.int x1)] (r.toList ++ []) h' b post px) (fun _ _ => False)) := ip_ck_iff (x := ip_cl 110 [some (.ref s0)] [] (0, 0) b) ((ip_st_of f16_86).trans rfl) (ip_cl_iff)
theorem f16_89 : ip_fetch 16 89 = some (.ireturn, 1) := by decide +kernel
theorem s16_89 {x0 : Nat} {x1 : Int32} {s0 : Int32} : ip_WP 16 89 [some (.ref x0), some (.int x1)] [.int s0] (G, F, I, J) b post px ↔ post (some (.int s0)) (G, F, I, J) := ip_rt_iff ((ip_st_of f16_89).trans rfl)
theorem f16_90 : ip_fetch 16 90 = some (.aload_n 0, 1) := by decide +kernel
theorem s16_90 {x0 : Nat} {x1 : Int32} : ip_WP 16 90 [some (.ref x0), some (.int x1)] [] (G, F, I, J) b post px ↔ ip_WP 16 91 [some (.ref x0), some (.int x1)] [.ref x0] (G, F, I, J) b post px := ip_nx_iff ((ip_st_of f16_90).trans rfl)
theorem f16_91 : ip_fetch 16 91 = some (.getfield 22, 3) := by decide +kernel
set_option maxRecDepth 100000 in
theorem s16_91 {x0 : Nat} {x1 : Int32} {s0 : Nat} : ip_WP 16 91 [some (.ref x0), some (.int x1)] [.ref s0] (G, F, I, J) b post px ↔ (ip_isO G s0 0 = true ∧ ip_WP 16 94 [some (.ref x0), some (.int x1)] [F s0 2] (G, F, I, J) b post px) := ip_s_getf f16_91 (by decide +kernel)
theorem f16_94 : ip_fetch 16 94 = some (.getfield 153, 3) := by decide +kernel
set_option maxRecDepth 100000 in
theorem s16_94 {x0 : Nat} {x1 : Int32} {s0 : Nat} : ip_WP 16 94 [some (.ref x0), some (.int x1)] [.ref s0] (G, F, I, J) b post px ↔ (ip_isO G s0 3 = true ∧ ip_WP 16 97 [some (.ref x0), some (.int x1)] [F s0 2] (G, F, I, J) b post px) := ip_s_getf f16_94 (by decide +kernel)
theorem f16_97 : ip_fetch 16 97 = some (.invokevirtual 115, 3) := by decide +kernel
set_option maxRecDepth 100000 in
theorem s16_97 {x0 : Nat} {x1 : Int32} {s0 : Nat} : ip_WP 16 97 [some (.ref x0), some (.int x1)] [.ref s0] (G, F, I, J) b post px ↔ (ip_isO G s0 6 = true ∧ ip_WP 143 0 [some (.ref s0)] [] (G, F, I, J) (0, 0) (fun r h' => ip_WP 16 100 [some (.ref x0), some (.int x1)] (r.toList ++ []) h' b post px) (fun _ _ => False)) := ip_ck_iff (x := ip_cl 143 [some (.ref s0)] [] (0, 0) b) ((ip_st_of f16_97).trans rfl) (ip_cl_iff)
theorem f16_100 : ip_fetch 16 100 = some (.ireturn, 1) := by decide +kernel
theorem s16_100 {x0 : Nat} {x1 : Int32} {s0 : Int32} : ip_WP 16 100 [some (.ref x0), some (.int x1)] [.int s0] (G, F, I, J) b post px ↔ post (some (.int s0)) (G, F, I, J) := ip_rt_iff ((ip_st_of f16_100).trans rfl)
theorem f16_101 : ip_fetch 16 101 = some (.aload_n 0, 1) := by decide +kernel
theorem s16_101 {x0 : Nat} {x1 : Int32} : ip_WP 16 101 [some (.ref x0), some (.int x1)] [] (G, F, I, J) b post px ↔ ip_WP 16 102 [some (.ref x0), some (.int x1)] [.ref x0] (G, F, I, J) b post px := ip_nx_iff ((ip_st_of f16_101).trans rfl)
theorem f16_102 : ip_fetch 16 102 = some (.getfield 22, 3) := by decide +kernel
set_option maxRecDepth 100000 in
theorem s16_102 {x0 : Nat} {x1 : Int32} {s0 : Nat} : ip_WP 16 102 [some (.ref x0), some (.int x1)] [.ref s0] (G, F, I, J) b post px ↔ (ip_isO G s0 0 = true ∧ ip_WP 16 105 [some (.ref x0), some (.int x1)] [F s0 2] (G, F, I, J) b post px) := ip_s_getf f16_102 (by decide +kernel)
theorem f16_105 : ip_fetch 16 105 = some (.getfield 162, 3) := by decide +kernel
set_option maxRecDepth 100000 in
theorem s16_105 {x0 : Nat} {x1 : Int32} {s0 : Nat} : ip_WP 16 105 [some (.ref x0), some (.int x1)] [.ref s0] (G, F, I, J) b post px ↔ (ip_isO G s0 3 = true ∧ ip_WP 16 108 [some (.ref x0), some (.int x1)] [F s0 3] (G, F, I, J) b post px) := ip_s_getf f16_105 (by decide +kernel)
theorem f16_108 : ip_fetch 16 108 = some (.invokevirtual 115, 3) := by decide +kernel
set_option maxRecDepth 100000 in
theorem s16_108 {x0 : Nat} {x1 : Int32} {s0 : Nat} : ip_WP 16 108 [some (.ref x0), some (.int x1)] [.ref s0] (G, F, I, J) b post px ↔ (ip_isO G s0 6 = true ∧ ip_WP 143 0 [some (.ref s0)] [] (G, F, I, J) (0, 0) (fun r h' => ip_WP 16 111 [some (.ref x0), some (.int x1)] (r.toList ++ []) h' b post px) (fun _ _ => False)) := ip_ck_iff (x := ip_cl 143 [some (.ref s0)] [] (0, 0) b) ((ip_st_of f16_108).trans rfl) (ip_cl_iff)
theorem f16_111 : ip_fetch 16 111 = some (.ireturn, 1) := by decide +kernel
theorem s16_111 {x0 : Nat} {x1 : Int32} {s0 : Int32} : ip_WP 16 111 [some (.ref x0), some (.int x1)] [.int s0] (G, F, I, J) b post px ↔ post (some (.int s0)) (G, F, I, J) := ip_rt_iff ((ip_st_of f16_111).trans rfl)
theorem f16_112 : ip_fetch 16 112 = some (.aload_n 0, 1) := by decide +kernel
theorem s16_112 {x0 : Nat} {x1 : Int32} : ip_WP 16 112 [some (.ref x0), some (.int x1)] [] (G, F, I, J) b post px ↔ ip_WP 16 113 [some (.ref x0), some (.int x1)] [.ref x0] (G, F, I, J) b post px := ip_nx_iff ((ip_st_of f16_112).trans rfl)
theorem f16_113 : ip_fetch 16 113 = some (.getfield 22, 3) := by decide +kernel
set_option maxRecDepth 100000 in
theorem s16_113 {x0 : Nat} {x1 : Int32} {s0 : Nat} : ip_WP 16 113 [some (.ref x0), some (.int x1)] [.ref s0] (G, F, I, J) b post px ↔ (ip_isO G s0 0 = true ∧ ip_WP 16 116 [some (.ref x0), some (.int x1)] [F s0 2] (G, F, I, J) b post px) := ip_s_getf f16_113 (by decide +kernel)
theorem f16_116 : ip_fetch 16 116 = some (.invokevirtual 100, 3) := by decide +kernel
set_option maxRecDepth 100000 in
theorem s16_116 {x0 : Nat} {x1 : Int32} {s0 : Nat} : ip_WP 16 116 [some (.ref x0), some (.int x1)] [.ref s0] (G, F, I, J) b post px ↔ (ip_isO G s0 3 = true ∧ ip_WP 104 0 [some (.ref s0)] [] (G, F, I, J) (0, 0) (fun r h' => ip_WP 16 119 [some (.ref x0), some (.int x1)] (r.toList ++ []) h' b post px) (fun _ _ => False)) := ip_ck_iff (x := ip_cl 104 [some (.ref s0)] [] (0, 0) b) ((ip_st_of f16_116).trans rfl) (ip_cl_iff)
theorem f16_119 : ip_fetch 16 119 = some (.ireturn, 1) := by decide +kernel
theorem s16_119 {x0 : Nat} {x1 : Int32} {s0 : Int32} : ip_WP 16 119 [some (.ref x0), some (.int x1)] [.int s0] (G, F, I, J) b post px ↔ post (some (.int s0)) (G, F, I, J) := ip_rt_iff ((ip_st_of f16_119).trans rfl)
theorem f16_120 : ip_fetch 16 120 = some (.aload_n 0, 1) := by decide +kernel
theorem s16_120 {x0 : Nat} {x1 : Int32} : ip_WP 16 120 [some (.ref x0), some (.int x1)] [] (G, F, I, J) b post px ↔ ip_WP 16 121 [some (.ref x0), some (.int x1)] [.ref x0] (G, F, I, J) b post px := ip_nx_iff ((ip_st_of f16_120).trans rfl)
theorem f16_121 : ip_fetch 16 121 = some (.getfield 55, 3) := by decide +kernel
set_option maxRecDepth 100000 in
theorem s16_121 {x0 : Nat} {x1 : Int32} {s0 : Nat} : ip_WP 16 121 [some (.ref x0), some (.int x1)] [.ref s0] (G, F, I, J) b post px ↔ (ip_isO G s0 0 = true ∧ ip_WP 16 124 [some (.ref x0), some (.int x1)] [F s0 6] (G, F, I, J) b post px) := ip_s_getf f16_121 (by decide +kernel)
theorem f16_124 : ip_fetch 16 124 = some (.invokevirtual 169, 3) := by decide +kernel
set_option maxRecDepth 100000 in
theorem s16_124 {x0 : Nat} {x1 : Int32} {s0 : Nat} : ip_WP 16 124 [some (.ref x0), some (.int x1)] [.ref s0] (G, F, I, J) b post px ↔ (ip_isO G s0 4 = true ∧ ip_WP 120 0 [some (.ref s0)] [] (G, F, I, J) (0, 0) (fun r h' => ip_WP 16 127 [some (.ref x0), some (.int x1)] (r.toList ++ []) h' b post px) (fun _ _ => False)) := ip_ck_iff (x := ip_cl 120 [some (.ref s0)] [] (0, 0) b) ((ip_st_of f16_124).trans rfl) (ip_cl_iff)
theorem f16_127 : ip_fetch 16 127 = some (.ireturn, 1) := by decide +kernel
theorem s16_127 {x0 : Nat} {x1 : Int32} {s0 : Int32} : ip_WP 16 127 [some (.ref x0), some (.int x1)] [.int s0] (G, F, I, J) b post px ↔ post (some (.int s0)) (G, F, I, J) := ip_rt_iff ((ip_st_of f16_127).trans rfl)
theorem f16_128 : ip_fetch 16 128 = some (.aload_n 0, 1) := by decide +kernel
theorem s16_128 {x0 : Nat} {x1 : Int32} : ip_WP 16 128 [some (.ref x0), some (.int x1)] [] (G, F, I, J) b post px ↔ ip_WP 16 129 [some (.ref x0), some (.int x1)] [.ref x0] (G, F, I, J) b post px := ip_nx_iff ((ip_st_of f16_128).trans rfl)
theorem f16_129 : ip_fetch 16 129 = some (.getfield 16, 3) := by decide +kernel
set_option maxRecDepth 100000 in
theorem s16_129 {x0 : Nat} {x1 : Int32} {s0 : Nat} : ip_WP 16 129 [some (.ref x0), some (.int x1)] [.ref s0] (G, F, I, J) b post px ↔ (ip_isO G s0 0 = true ∧ ip_WP 16 132 [some (.ref x0), some (.int x1)] [F s0 1] (G, F, I, J) b post px) := ip_s_getf f16_129 (by decide +kernel)
theorem f16_132 : ip_fetch 16 132 = some (.invokevirtual 62, 3) := by decide +kernel
set_option maxRecDepth 100000 in
theorem s16_132 {x0 : Nat} {x1 : Int32} {s0 : Nat} : ip_WP 16 132 [some (.ref x0), some (.int x1)] [.ref s0] (G, F, I, J) b post px ↔ (ip_isO G s0 2 = true ∧ ip_WP 88 0 [some (.ref s0)] [] (G, F, I, J) (0, 0) (fun r h' => ip_WP 16 135 [some (.ref x0), some (.int x1)] (r.toList ++ []) h' b post px) (fun _ _ => False)) := ip_ck_iff (x := ip_cl 88 [some (.ref s0)] [] (0, 0) b) ((ip_st_of f16_132).trans rfl) (ip_cl_iff)
theorem f16_135 : ip_fetch 16 135 = some (.ireturn, 1) := by decide +kernel
theorem s16_135 {x0 : Nat} {x1 : Int32} {s0 : Int32} : ip_WP 16 135 [some (.ref x0), some (.int x1)] [.int s0] (G, F, I, J) b post px ↔ post (some (.int s0)) (G, F, I, J) := ip_rt_iff ((ip_st_of f16_135).trans rfl)
theorem f16_136 : ip_fetch 16 136 = some (.iconst (-1), 1) := by decide +kernel
theorem s16_136 {x0 : Nat} {x1 : Int32} : ip_WP 16 136 [some (.ref x0), some (.int x1)] [] (G, F, I, J) b post px ↔ ip_WP 16 137 [some (.ref x0), some (.int x1)] [.int (-1)] (G, F, I, J) b post px := ip_s_iconst f16_136 (by decide)
theorem f16_137 : ip_fetch 16 137 = some (.ireturn, 1) := by decide +kernel
theorem s16_137 {x0 : Nat} {x1 : Int32} {s0 : Int32} : ip_WP 16 137 [some (.ref x0), some (.int x1)] [.int s0] (G, F, I, J) b post px ↔ post (some (.int s0)) (G, F, I, J) := ip_rt_iff ((ip_st_of f16_137).trans rfl)
theorem f17_0 : ip_fetch 17 0 = some (.iload_n 1, 1) := by decide +kernel
theorem s17_0 {x0 : Nat} {x1 : Int32} {x2 : Int32} : ip_WP 17 0 [some (.ref x0), some (.int x1), some (.int x2)] [] (G, F, I, J) b post px ↔ ip_WP 17 1 [some (.ref x0), some (.int x1), some (.int x2)] [.int x1] (G, F, I, J) b post px := ip_nx_iff ((ip_st_of f17_0).trans rfl)
theorem f17_1 : ip_fetch 17 1 = some (.aload_n 0, 1) := by decide +kernel
theorem s17_1 {x0 : Nat} {x1 : Int32} {x2 : Int32} {s0 : Int32} : ip_WP 17 1 [some (.ref x0), some (.int x1), some (.int x2)] [.int s0] (G, F, I, J) b post px ↔ ip_WP 17 2 [some (.ref x0), some (.int x1), some (.int x2)] [.ref x0, .int s0] (G, F, I, J) b post px := ip_nx_iff ((ip_st_of f17_1).trans rfl)
theorem f17_2 : ip_fetch 17 2 = some (.invokevirtual 169, 3) := by decide +kernel
set_option maxRecDepth 100000 in
theorem s17_2 {x0 : Nat} {x1 : Int32} {x2 : Int32} {s0 : Int32} {s1 : Nat} : ip_WP 17 2 [some (.ref x0), some (.int x1), some (.int x2)] [.ref s1, .int s0] (G, F, I, J) b post px ↔ (ip_isO G s1 4 = true ∧ ip_WP 120 0 [some (.ref s1)] [] (G, F, I, J) (0, 0) (fun r h' => ip_WP 17 5 [some (.ref x0), some (.int x1), some (.int x2)] (r.toList ++ [.int s0]) h' b post px) (fun _ _ => False)) := ip_ck_iff (x := ip_cl 120 [some (.ref s1)] [.int s0] (0, 0) b) ((ip_st_of f17_2).trans rfl) (ip_cl_iff)
theorem f17_5 : ip_fetch 17 5 = some (.invokestatic 118, 3) := by decide +kernel
set_option maxRecDepth 100000 in
theorem s17_5 {x0 : Nat} {x1 : Int32} {x2 : Int32} {s0 : Int32} {s1 : Int32} : ip_WP 17 5 [some (.ref x0), some (.int x1), some (.int x2)] [.int s1, .int s0] (G, F, I, J) b post px ↔ (ip_bud 18 b = true ∧ ip_WP 18 0 [some (.int s0), some (.int s1)] [] (G, F, I, J) (1, 6) (fun r h' => ip_WP 17 8 [some (.ref x0), some (.int x1), some (.int x2)] (r.toList ++ []) h' (ip_rst 18 b) post px) px) := ip_ck_iff (x := ip_cl 18 [some (.int s0), some (.int s1)] [] (1, 6) (ip_rst 18 b)) ((ip_st_of f17_5).trans rfl) (ip_cl_iff)
theorem f17_8 : ip_fetch 17 8 = some (.iload_n 2, 1) := by decide +kernel
theorem s17_8 {x0 : Nat} {x1 : Int32} {x2 : Int32} : ip_WP 17 8 [some (.ref x0), some (.int x1), some (.int x2)] [] (G, F, I, J) b post px ↔ ip_WP 17 9 [some (.ref x0), some (.int x1), some (.int x2)] [.int x2] (G, F, I, J) b post px := ip_nx_iff ((ip_st_of f17_8).trans rfl)
theorem f17_9 : ip_fetch 17 9 = some (.iconst 2, 1) := by decide +kernel
theorem s17_9 {x0 : Nat} {x1 : Int32} {x2 : Int32} {s0 : Int32} : ip_WP 17 9 [some (.ref x0), some (.int x1), some (.int x2)] [.int s0] (G, F, I, J) b post px ↔ ip_WP 17 10 [some (.ref x0), some (.int x1), some (.int x2)] [.int 2, .int s0] (G, F, I, J) b post px := ip_s_iconst f17_9 (by decide)
theorem f17_10 : ip_fetch 17 10 = some (.invokestatic 118, 3) := by decide +kernel
set_option maxRecDepth 100000 in
theorem s17_10 {x0 : Nat} {x1 : Int32} {x2 : Int32} {s0 : Int32} {s1 : Int32} : ip_WP 17 10 [some (.ref x0), some (.int x1), some (.int x2)] [.int s1, .int s0] (G, F, I, J) b post px ↔ (ip_bud 18 b = true ∧ ip_WP 18 0 [some (.int s0), some (.int s1)] [] (G, F, I, J) (1, 6) (fun r h' => ip_WP 17 13 [some (.ref x0), some (.int x1), some (.int x2)] (r.toList ++ []) h' (ip_rst 18 b) post px) px) := ip_ck_iff (x := ip_cl 18 [some (.int s0), some (.int s1)] [] (1, 6) (ip_rst 18 b)) ((ip_st_of f17_10).trans rfl) (ip_cl_iff)
theorem f17_13 : ip_fetch 17 13 = some (.iload_n 2, 1) := by decide +kernel
theorem s17_13 {x0 : Nat} {x1 : Int32} {x2 : Int32} : ip_WP 17 13 [some (.ref x0), some (.int x1), some (.int x2)] [] (G, F, I, J) b post px ↔ ip_WP 17 14 [some (.ref x0), some (.int x1), some (.int x2)] [.int x2] (G, F, I, J) b post px := ip_nx_iff ((ip_st_of f17_13).trans rfl)
theorem f17_14 : ip_fetch 17 14 = some (.ifCond .ne 11, 3) := by decide +kernel
theorem s17_14 {x0 : Nat} {x1 : Int32} {x2 : Int32} {s0 : Int32} : ip_WP 17 14 [some (.ref x0), some (.int x1), some (.int x2)] [.int s0] (G, F, I, J) b post px ↔ if ¬ s0 = 0 then ip_WP 17 25 [some (.ref x0), some (.int x1), some (.int x2)] [] (G, F, I, J) b post px else ip_WP 17 17 [some (.ref x0), some (.int x1), some (.int x2)] [] (G, F, I, J) b post px := ip_s_if_ne f17_14 rfl
theorem f17_17 : ip_fetch 17 17 = some (.aload_n 0, 1) := by decide +kernel
theorem s17_17 {x0 : Nat} {x1 : Int32} {x2 : Int32} : ip_WP 17 17 [some (.ref x0), some (.int x1), some (.int x2)] [] (G, F, I, J) b post px ↔ ip_WP 17 18 [some (.ref x0), some (.int x1), some (.int x2)] [.ref x0] (G, F, I, J) b post px := ip_nx_iff ((ip_st_of f17_17).trans rfl)
theorem f17_18 : ip_fetch 17 18 = some (.iload_n 1, 1) := by decide +kernel
theorem s17_18 {x0 : Nat} {x1 : Int32} {x2 : Int32} {s0 : Nat} : ip_WP 17 18 [some (.ref x0), some (.int x1), some (.int x2)] [.ref s0] (G, F, I, J) b post px ↔ ip_WP 17 19 [some (.ref x0), some (.int x1), some (.int x2)] [.int x1, .ref s0] (G, F, I, J) b post px := ip_nx_iff ((ip_st_of f17_18).trans rfl)
theorem f17_19 : ip_fetch 17 19 = some (.invokevirtual 187, 3) := by decide +kernel
set_option maxRecDepth 100000 in
theorem s17_19 {x0 : Nat} {x1 : Int32} {x2 : Int32} {s0 : Nat} {s1 : Int32} : ip_WP 17 19 [some (.ref x0), some (.int x1), some (.int x2)] [.int s1, .ref s0] (G, F, I, J) b post px ↔ (ip_isO G s0 4 = true ∧ ip_WP 123 0 [some (.ref s0), some (.int s1)] [] (G, F, I, J) (0, 0) (fun r h' => ip_WP 17 22 [some (.ref x0), some (.int x1), some (.int x2)] (r.toList ++ []) h' b post px) (fun _ _ => False)) := ip_ck_iff (x := ip_cl 123 [some (.ref s0), some (.int s1)] [] (0, 0) b) ((ip_st_of f17_19).trans rfl) (ip_cl_iff)
theorem f17_22 : ip_fetch 17 22 = some (.goto 8, 3) := by decide +kernel
theorem s17_22 {x0 : Nat} {x1 : Int32} {x2 : Int32} {s0 : Int32} : ip_WP 17 22 [some (.ref x0), some (.int x1), some (.int x2)] [.int s0] (G, F, I, J) b post px ↔ ip_WP 17 30 [some (.ref x0), some (.int x1), some (.int x2)] [.int s0] (G, F, I, J) b post px := ip_nx_iff ((ip_st_of f17_22).trans rfl)
theorem f17_25 : ip_fetch 17 25 = some (.aload_n 0, 1) := by decide +kernel
theorem s17_25 {x0 : Nat} {x1 : Int32} {x2 : Int32} : ip_WP 17 25 [some (.ref x0), some (.int x1), some (.int x2)] [] (G, F, I, J) b post px ↔ ip_WP 17 26 [some (.ref x0), some (.int x1), some (.int x2)] [.ref x0] (G, F, I, J) b post px := ip_nx_iff ((ip_st_of f17_25).trans rfl)
theorem f17_26 : ip_fetch 17 26 = some (.iload_n 1, 1) := by decide +kernel
theorem s17_26 {x0 : Nat} {x1 : Int32} {x2 : Int32} {s0 : Nat} : ip_WP 17 26 [some (.ref x0), some (.int x1), some (.int x2)] [.ref s0] (G, F, I, J) b post px ↔ ip_WP 17 27 [some (.ref x0), some (.int x1), some (.int x2)] [.int x1, .ref s0] (G, F, I, J) b post px := ip_nx_iff ((ip_st_of f17_26).trans rfl)
theorem f17_27 : ip_fetch 17 27 = some (.invokevirtual 190, 3) := by decide +kernel
set_option maxRecDepth 100000 in
theorem s17_27 {x0 : Nat} {x1 : Int32} {x2 : Int32} {s0 : Nat} {s1 : Int32} : ip_WP 17 27 [some (.ref x0), some (.int x1), some (.int x2)] [.int s1, .ref s0] (G, F, I, J) b post px ↔ (ip_isO G s0 4 = true ∧ ip_WP 124 0 [some (.ref s0), some (.int s1)] [] (G, F, I, J) (0, 0) (fun r h' => ip_WP 17 30 [some (.ref x0), some (.int x1), some (.int x2)] (r.toList ++ []) h' b post px) (fun _ _ => False)) := ip_ck_iff (x := ip_cl 124 [some (.ref s0), some (.int s1)] [] (0, 0) b) ((ip_st_of f17_27).trans rfl) (ip_cl_iff)
theorem f17_30 : ip_fetch 17 30 = some (.ireturn, 1) := by decide +kernel
theorem s17_30 {x0 : Nat} {x1 : Int32} {x2 : Int32} {s0 : Int32} : ip_WP 17 30 [some (.ref x0), some (.int x1), some (.int x2)] [.int s0] (G, F, I, J) b post px ↔ post (some (.int s0)) (G, F, I, J) := ip_rt_iff ((ip_st_of f17_30).trans rfl)
theorem f18_0 : ip_fetch 18 0 = some (.iload_n 0, 1) := by decide +kernel
theorem s18_0 {x0 : Int32} {x1 : Int32} : ip_WP 18 0 [some (.int x0), some (.int x1)] [] (G, F, I, J) b post px ↔ ip_WP 18 1 [some (.int x0), some (.int x1)] [.int x0] (G, F, I, J) b post px := ip_nx_iff ((ip_st_of f18_0).trans rfl)
theorem f18_1 : ip_fetch 18 1 = some (.ifCond .lt 8, 3) := by decide +kernel
theorem s18_1 {x0 : Int32} {x1 : Int32} {s0 : Int32} : ip_WP 18 1 [some (.int x0), some (.int x1)] [.int s0] (G, F, I, J) b post px ↔ if s0 < 0 then ip_WP 18 9 [some (.int x0), some (.int x1)] [] (G, F, I, J) b post px else ip_WP 18 4 [some (.int x0), some (.int x1)] [] (G, F, I, J) b post px := ip_s_if_lt f18_1 rfl
theorem f18_4 : ip_fetch 18 4 = some (.iload_n 0, 1) := by decide +kernel
theorem s18_4 {x0 : Int32} {x1 : Int32} : ip_WP 18 4 [some (.int x0), some (.int x1)] [] (G, F, I, J) b post px ↔ ip_WP 18 5 [some (.int x0), some (.int x1)] [.int x0] (G, F, I, J) b post px := ip_nx_iff ((ip_st_of f18_4).trans rfl)
theorem f18_5 : ip_fetch 18 5 = some (.iload_n 1, 1) := by decide +kernel
theorem s18_5 {x0 : Int32} {x1 : Int32} {s0 : Int32} : ip_WP 18 5 [some (.int x0), some (.int x1)] [.int s0] (G, F, I, J) b post px ↔ ip_WP 18 6 [some (.int x0), some (.int x1)] [.int x1, .int s0] (G, F, I, J) b post px := ip_nx_iff ((ip_st_of f18_5).trans rfl)
theorem f18_6 : ip_fetch 18 6 = some (.if_icmp .lt 13, 3) := by decide +kernel
theorem s18_6 {x0 : Int32} {x1 : Int32} {s0 : Int32} {s1 : Int32} : ip_WP 18 6 [some (.int x0), some (.int x1)] [.int s1, .int s0] (G, F, I, J) b post px ↔ if s0 < s1 then ip_WP 18 19 [some (.int x0), some (.int x1)] [] (G, F, I, J) b post px else ip_WP 18 9 [some (.int x0), some (.int x1)] [] (G, F, I, J) b post px := ip_s_ic_lt f18_6 rfl
theorem f18_9 : ip_fetch 18 9 = some (.new 106, 3) := by decide +kernel
set_option maxRecDepth 100000 in
theorem s18_9 {x0 : Int32} {x1 : Int32} : ip_WP 18 9 [some (.int x0), some (.int x1)] [] (G, F, I, J) b post px ↔ ((1 ≤ b.1 ∧ 6 ≤ b.2) ∧ px "java/lang/IndexOutOfBoundsException" (G, F, I, J)) := ip_s_thr f18_9 rfl (Nat.le_of_ble_eq_true rfl)
theorem f18_19 : ip_fetch 18 19 = some (.return_, 1) := by decide +kernel
theorem s18_19 {x0 : Int32} {x1 : Int32} : ip_WP 18 19 [some (.int x0), some (.int x1)] [] (G, F, I, J) b post px ↔ post none (G, F, I, J) := ip_rt_iff ((ip_st_of f18_19).trans rfl)
end
