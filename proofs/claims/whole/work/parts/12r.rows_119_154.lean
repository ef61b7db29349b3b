section
variable {G : List ip_K} {F : Nat → Nat → Value} {I : Nat → Nat → Int32} {J : Nat → Nat → Int64} {b : ip_B} {post : Option Value → ip_H → Prop} {px : String → ip_H → Prop}
theorem f119_0 : ip_fetch 119 0 = some (.aload_n 0, 1) := by decide +kernel
theorem s119_0 {x0 : Nat} {x1 : Int32} : ip_WP 119 0 [some (.ref x0), some (.int x1)] [] (G, F, I, J) b post px ↔ ip_WP 119 1 [some (.ref x0), some (.int x1)] [.ref x0] (G, F, I, J) b post px := ip_nx_iff ((ip_st_of f119_0).trans rfl)
theorem f119_1 : ip_fetch 119 1 = some (.invokespecial 3, 3) := by decide +kernel
set_option maxRecDepth 100000 in
theorem s119_1 {x0 : Nat} {x1 : Int32} {s0 : Nat} : ip_WP 119 1 [some (.ref x0), some (.int x1)] [.ref s0] (G, F, I, J) b post px ↔ ip_WP 119 4 [some (.ref x0), some (.int x1)] [] (G, F, I, J) b post px := ip_s_obj f119_1 rfl (Nat.le_of_ble_eq_true rfl)
theorem f119_4 : ip_fetch 119 4 = some (.aload_n 0, 1) := by decide +kernel
theorem s119_4 {x0 : Nat} {x1 : Int32} : ip_WP 119 4 [some (.ref x0), some (.int x1)] [] (G, F, I, J) b post px ↔ ip_WP 119 5 [some (.ref x0), some (.int x1)] [.ref x0] (G, F, I, J) b post px := ip_nx_iff ((ip_st_of f119_4).trans rfl)
theorem f119_5 : ip_fetch 119 5 = some (.new 9, 3) := by decide +kernel
set_option maxRecDepth 100000 in
theorem s119_5 {x0 : Nat} {x1 : Int32} {s0 : Nat} : ip_WP 119 5 [some (.ref x0), some (.int x1)] [.ref s0] (G, F, I, J) b post px ↔ (ip_wfc G.length [some (.ref x0), some (.int x1)] [.ref s0] = true ∧ (1 ≤ b.1 ∧ 2 ≤ b.2 ∧ G.length < ip_SC) ∧ ip_WP 119 8 [some (.ref x0), some (.int x1)] [.ref G.length, .ref s0] (G ++ [.inr (9, 2)], fun a j => if a = G.length then ip_dfl (ip_fty 9 j) else F a j, I, J) (b.1 - 1, b.2 - 2) post px) := ip_s_new f119_5 rfl rfl rfl rfl
theorem f119_8 : ip_fetch 119 8 = some (.dup, 1) := by decide +kernel
theorem s119_8 {x0 : Nat} {x1 : Int32} {s0 : Nat} {s1 : Nat} : ip_WP 119 8 [some (.ref x0), some (.int x1)] [.ref s1, .ref s0] (G, F, I, J) b post px ↔ ip_WP 119 9 [some (.ref x0), some (.int x1)] [.ref s1, .ref s1, .ref s0] (G, F, I, J) b post px := ip_nx_iff ((ip_st_of f119_8).trans rfl)
theorem f119_9 : ip_fetch 119 9 = some (.iload_n 1, 1) := by decide +kernel
theorem s119_9 {x0 : Nat} {x1 : Int32} {s0 : Nat} {s1 : Nat} {s2 : Nat} : ip_WP 119 9 [some (.ref x0), some (.int x1)] [.ref s2, .ref s1, .ref s0] (G, F, I, J) b post px ↔ ip_WP 119 10 [some (.ref x0), some (.int x1)] [.int x1, .ref s2, .ref s1, .ref s0] (G, F, I, J) b post px := ip_nx_iff ((ip_st_of f119_9).trans rfl)
theorem f119_10 : ip_fetch 119 10 = some (.iconst (-1), 1) := by decide +kernel
theorem s119_10 {x0 : Nat} {x1 : Int32} {s0 : Nat} {s1 : Nat} {s2 : Nat} {s3 : Int32} : ip_WP 119 10 [some (.ref x0), some (.int x1)] [.int s3, .ref s2, .ref s1, .ref s0] (G, F, I, J) b post px ↔ ip_WP 119 11 [some (.ref x0), some (.int x1)] [.int (-1), .int s3, .ref s2, .ref s1, .ref s0] (G, F, I, J) b post px := ip_s_iconst f119_10 (by decide)
theorem f119_11 : ip_fetch 119 11 = some (.invokespecial 11, 3) := by decide +kernel
set_option maxRecDepth 100000 in
theorem s119_11 {x0 : Nat} {x1 : Int32} {s0 : Nat} {s1 : Nat} {s2 : Nat} {s3 : Int32} {s4 : Int32} : ip_WP 119 11 [some (.ref x0), some (.int x1)] [.int s4, .int s3, .ref s2, .ref s1, .ref s0] (G, F, I, J) b post px ↔ (ip_wfc G.length [some (.ref x0), some (.int x1)] [.ref s1, .ref s0] = true ∧ (ip_bud 189 b = true ∧ ip_WP 189 0 [some (.ref s2), some (.int s3), some (.int s4)] [] (G, F, I, J) (1, 68) (fun r h' => ip_WP 119 14 [some (.ref x0), some (.int x1)] (r.toList ++ [.ref s1, .ref s0]) h' (ip_rst 189 b) post px) (fun _ _ => False))) := ip_ck_iff (x := if ip_bud 189 b = true then ip_cl 189 [some (.ref s2), some (.int s3), some (.int s4)] [.ref s1, .ref s0] (1, 68) (ip_rst 189 b) else none) ((ip_st_of f119_11).trans rfl) (fun hs => ip_ck_iff (x := ip_cl 189 [some (.ref s2), some (.int s3), some (.int s4)] [.ref s1, .ref s0] (1, 68) (ip_rst 189 b)) hs (ip_cl_iff))
theorem f119_14 : ip_fetch 119 14 = some (.putfield 14, 3) := by decide +kernel
set_option maxRecDepth 100000 in
theorem s119_14 {x0 : Nat} {x1 : Int32} {s0 : Nat} {s1 : Nat} : ip_WP 119 14 [some (.ref x0), some (.int x1)] [.ref s1, .ref s0] (G, F, I, J) b post px ↔ (ip_isO G s0 4 = true ∧ s1 < G.length ∧ ip_WP 119 17 [some (.ref x0), some (.int x1)] [] (G, ip_up F s0 0 (.ref s1), I, J) b post px) := ip_s_putR f119_14 (by decide +kernel) rfl
theorem f119_17 : ip_fetch 119 17 = some (.aload_n 0, 1) := by decide +kernel
theorem s119_17 {x0 : Nat} {x1 : Int32} : ip_WP 119 17 [some (.ref x0), some (.int x1)] [] (G, F, I, J) b post px ↔ ip_WP 119 18 [some (.ref x0), some (.int x1)] [.ref x0] (G, F, I, J) b post px := ip_nx_iff ((ip_st_of f119_17).trans rfl)
theorem f119_18 : ip_fetch 119 18 = some (.new 9, 3) := by decide +kernel
set_option maxRecDepth 100000 in
theorem s119_18 {x0 : Nat} {x1 : Int32} {s0 : Nat} : ip_WP 119 18 [some (.ref x0), some (.int x1)] [.ref s0] (G, F, I, J) b post px ↔ (ip_wfc G.length [some (.ref x0), some (.int x1)] [.ref s0] = true ∧ (1 ≤ b.1 ∧ 2 ≤ b.2 ∧ G.length < ip_SC) ∧ ip_WP 119 21 [some (.ref x0), some (.int x1)] [.ref G.length, .ref s0] (G ++ [.inr (9, 2)], fun a j => if a = G.length then ip_dfl (ip_fty 9 j) else F a j, I, J) (b.1 - 1, b.2 - 2) post px) := ip_s_new f119_18 rfl rfl rfl rfl
theorem f119_21 : ip_fetch 119 21 = some (.dup, 1) := by decide +kernel
theorem s119_21 {x0 : Nat} {x1 : Int32} {s0 : Nat} {s1 : Nat} : ip_WP 119 21 [some (.ref x0), some (.int x1)] [.ref s1, .ref s0] (G, F, I, J) b post px ↔ ip_WP 119 22 [some (.ref x0), some (.int x1)] [.ref s1, .ref s1, .ref s0] (G, F, I, J) b post px := ip_nx_iff ((ip_st_of f119_21).trans rfl)
theorem f119_22 : ip_fetch 119 22 = some (.iload_n 1, 1) := by decide +kernel
theorem s119_22 {x0 : Nat} {x1 : Int32} {s0 : Nat} {s1 : Nat} {s2 : Nat} : ip_WP 119 22 [some (.ref x0), some (.int x1)] [.ref s2, .ref s1, .ref s0] (G, F, I, J) b post px ↔ ip_WP 119 23 [some (.ref x0), some (.int x1)] [.int x1, .ref s2, .ref s1, .ref s0] (G, F, I, J) b post px := ip_nx_iff ((ip_st_of f119_22).trans rfl)
theorem f119_23 : ip_fetch 119 23 = some (.iconst (-1), 1) := by decide +kernel
theorem s119_23 {x0 : Nat} {x1 : Int32} {s0 : Nat} {s1 : Nat} {s2 : Nat} {s3 : Int32} : ip_WP 119 23 [some (.ref x0), some (.int x1)] [.int s3, .ref s2, .ref s1, .ref s0] (G, F, I, J) b post px ↔ ip_WP 119 24 [some (.ref x0), some (.int x1)] [.int (-1), .int s3, .ref s2, .ref s1, .ref s0] (G, F, I, J) b post px := ip_s_iconst f119_23 (by decide)
theorem f119_24 : ip_fetch 119 24 = some (.invokespecial 11, 3) := by decide +kernel
set_option maxRecDepth 100000 in
theorem s119_24 {x0 : Nat} {x1 : Int32} {s0 : Nat} {s1 : Nat} {s2 : Nat} {s3 : Int32} {s4 : Int32} : ip_WP 119 24 [some (.ref x0), some (.int x1)] [.int s4, .int s3, .ref s2, .ref s1, .ref s0] (G, F, I, J) b post px ↔ (ip_wfc G.length [some (.ref x0), some (.int x1)] [.ref s1, .ref s0] = true ∧ (ip_bud 189 b = true ∧ ip_WP 189 0 [some (.ref s2), some (.int s3), some (.int s4)] [] (G, F, I, J) (1, 68) (fun r h' => ip_WP 119 27 [some (.ref x0), some (.int x1)] (r.toList ++ [.ref s1, .ref s0]) h' (ip_rst 189 b) post px) (fun _ _ => False))) := ip_ck_iff (x := if ip_bud 189 b = true then ip_cl 189 [some (.ref s2), some (.int s3), some (.int s4)] [.ref s1, .ref s0] (1, 68) (ip_rst 189 b) else none) ((ip_st_of f119_24).trans rfl) (fun hs => ip_ck_iff (x := ip_cl 189 [some (.ref s2), some (.int s3), some (.int s4)] [.ref s1, .ref s0] (1, 68) (ip_rst 189 b)) hs (ip_cl_iff))
theorem f119_27 : ip_fetch 119 27 = some (.putfield 20, 3) := by decide +kernel
set_option maxRecDepth 100000 in
theorem s119_27 {x0 : Nat} {x1 : Int32} {s0 : Nat} {s1 : Nat} : ip_WP 119 27 [some (.ref x0), some (.int x1)] [.ref s1, .ref s0] (G, F, I, J) b post px ↔ (ip_isO G s0 4 = true ∧ s1 < G.length ∧ ip_WP 119 30 [some (.ref x0), some (.int x1)] [] (G, ip_up F s0 1 (.ref s1), I, J) b post px) := ip_s_putR f119_27 (by decide +kernel) rfl
theorem f119_30 : ip_fetch 119 30 = some (.aload_n 0, 1) := by decide +kernel
theorem s119_30 {x0 : Nat} {x1 : Int32} : ip_WP 119 30 [some (.ref x0), some (.int x1)] [] (G, F, I, J) b post px ↔ ip_WP 119 31 [some (.ref x0), some (.int x1)] [.ref x0] (G, F, I, J) b post px := ip_nx_iff ((ip_st_of f119_30).trans rfl)
theorem f119_31 : ip_fetch 119 31 = some (.iconst 0, 1) := by decide +kernel
theorem s119_31 {x0 : Nat} {x1 : Int32} {s0 : Nat} : ip_WP 119 31 [some (.ref x0), some (.int x1)] [.ref s0] (G, F, I, J) b post px ↔ ip_WP 119 32 [some (.ref x0), some (.int x1)] [.int 0, .ref s0] (G, F, I, J) b post px := ip_s_iconst f119_31 (by decide)
theorem f119_32 : ip_fetch 119 32 = some (.putfield 23, 3) := by decide +kernel
set_option maxRecDepth 100000 in
theorem s119_32 {x0 : Nat} {x1 : Int32} {s0 : Nat} {s1 : Int32} : ip_WP 119 32 [some (.ref x0), some (.int x1)] [.int s1, .ref s0] (G, F, I, J) b post px ↔ (ip_isO G s0 4 = true ∧ ip_WP 119 35 [some (.ref x0), some (.int x1)] [] (G, ip_up F s0 2 (.int s1), I, J) b post px) := ip_s_put f119_32 (by decide +kernel) rfl
theorem f119_35 : ip_fetch 119 35 = some (.return_, 1) := by decide +kernel
theorem s119_35 {x0 : Nat} {x1 : Int32} : ip_WP 119 35 [some (.ref x0), some (.int x1)] [] (G, F, I, J) b post px ↔ post none (G, F, I, J) := ip_rt_iff ((ip_st_of f119_35).trans rfl)
theorem f120_0 : ip_fetch 120 0 = some (.aload_n 0, 1) := by decide +kernel
theorem s120_0 {x0 : Nat} : ip_WP 120 0 [some (.ref x0)] [] (G, F, I, J) b post px ↔ ip_WP 120 1 [some (.ref x0)] [.ref x0] (G, F, I, J) b post px := ip_nx_iff ((ip_st_of f120_0).trans rfl)
theorem f120_1 : ip_fetch 120 1 = some (.getfield 23, 3) := by decide +kernel
set_option maxRecDepth 100000 in
theorem s120_1 {x0 : Nat} {s0 : Nat} : ip_WP 120 1 [some (.ref x0)] [.ref s0] (G, F, I, J) b post px ↔ (ip_isO G s0 4 = true ∧ ip_WP 120 4 [some (.ref x0)] [F s0 2] (G, F, I, J) b post px) := ip_s_getf f120_1 (by decide +kernel)
theorem f120_4 : ip_fetch 120 4 = some (.ireturn, 1) := by decide +kernel
theorem s120_4 {x0 : Nat} {s0 : Int32} : ip_WP 120 4 [some (.ref x0)] [.int s0] (G, F, I, J) b post px ↔ post (some (.int s0)) (G, F, I, J) := ip_rt_iff ((ip_st_of f120_4).trans rfl)
theorem f121_0 : ip_fetch 121 0 = some (.aload_n 0, 1) := by decide +kernel
theorem s121_0 {x0 : Nat} : ip_WP 121 0 [some (.ref x0)] [] (G, F, I, J) b post px ↔ ip_WP 121 1 [some (.ref x0)] [.ref x0] (G, F, I, J) b post px := ip_nx_iff ((ip_st_of f121_0).trans rfl)
theorem f121_1 : ip_fetch 121 1 = some (.iconst 0, 1) := by decide +kernel
theorem s121_1 {x0 : Nat} {s0 : Nat} : ip_WP 121 1 [some (.ref x0)] [.ref s0] (G, F, I, J) b post px ↔ ip_WP 121 2 [some (.ref x0)] [.int 0, .ref s0] (G, F, I, J) b post px := ip_s_iconst f121_1 (by decide)
theorem f121_2 : ip_fetch 121 2 = some (.putfield 23, 3) := by decide +kernel
set_option maxRecDepth 100000 in
theorem s121_2 {x0 : Nat} {s0 : Nat} {s1 : Int32} : ip_WP 121 2 [some (.ref x0)] [.int s1, .ref s0] (G, F, I, J) b post px ↔ (ip_isO G s0 4 = true ∧ ip_WP 121 5 [some (.ref x0)] [] (G, ip_up F s0 2 (.int s1), I, J) b post px) := ip_s_put f121_2 (by decide +kernel) rfl
theorem f121_5 : ip_fetch 121 5 = some (.return_, 1) := by decide +kernel
theorem s121_5 {x0 : Nat} : ip_WP 121 5 [some (.ref x0)] [] (G, F, I, J) b post px ↔ post none (G, F, I, J) := ip_rt_iff ((ip_st_of f121_5).trans rfl)
theorem f122_0 : ip_fetch 122 0 = some (.aload_n 0, 1) := by decide +kernel
theorem s122_0 {x0 : Nat} {x1 : Int32} {x2 : Int32} : ip_WP 122 0 [some (.ref x0), some (.int x1), some (.int x2)] [] (G, F, I, J) b post px ↔ ip_WP 122 1 [some (.ref x0), some (.int x1), some (.int x2)] [.ref x0] (G, F, I, J) b post px := ip_nx_iff ((ip_st_of f122_0).trans rfl)
theorem f122_1 : ip_fetch 122 1 = some (.getfield 14, 3) := by decide +kernel
set_option maxRecDepth 100000 in
theorem s122_1 {x0 : Nat} {x1 : Int32} {x2 : Int32} {s0 : Nat} : ip_WP 122 1 [some (.ref x0), some (.int x1), some (.int x2)] [.ref s0] (G, F, I, J) b post px ↔ (ip_isO G s0 4 = true ∧ ip_WP 122 4 [some (.ref x0), some (.int x1), some (.int x2)] [F s0 0] (G, F, I, J) b post px) := ip_s_getf f122_1 (by decide +kernel)
theorem f122_4 : ip_fetch 122 4 = some (.aload_n 0, 1) := by decide +kernel
theorem s122_4 {x0 : Nat} {x1 : Int32} {x2 : Int32} {s0 : Nat} : ip_WP 122 4 [some (.ref x0), some (.int x1), some (.int x2)] [.ref s0] (G, F, I, J) b post px ↔ ip_WP 122 5 [some (.ref x0), some (.int x1), some (.int x2)] [.ref x0, .ref s0] (G, F, I, J) b post px := ip_nx_iff ((ip_st_of f122_4).trans rfl)
theorem f122_5 : ip_fetch 122 5 = some (.getfield 23, 3) := by decide +kernel
set_option maxRecDepth 100000 in
theorem s122_5 {x0 : Nat} {x1 : Int32} {x2 : Int32} {s0 : Nat} {s1 : Nat} : ip_WP 122 5 [some (.ref x0), some (.int x1), some (.int x2)] [.ref s1, .ref s0] (G, F, I, J) b post px ↔ (ip_isO G s1 4 = true ∧ ip_WP 122 8 [some (.ref x0), some (.int x1), some (.int x2)] [F s1 2, .ref s0] (G, F, I, J) b post px) := ip_s_getf f122_5 (by decide +kernel)
theorem f122_8 : ip_fetch 122 8 = some (.iload_n 1, 1) := by decide +kernel
theorem s122_8 {x0 : Nat} {x1 : Int32} {x2 : Int32} {s0 : Nat} {s1 : Int32} : ip_WP 122 8 [some (.ref x0), some (.int x1), some (.int x2)] [.int s1, .ref s0] (G, F, I, J) b post px ↔ ip_WP 122 9 [some (.ref x0), some (.int x1), some (.int x2)] [.int x1, .int s1, .ref s0] (G, F, I, J) b post px := ip_nx_iff ((ip_st_of f122_8).trans rfl)
theorem f122_9 : ip_fetch 122 9 = some (.invokevirtual 27, 3) := by decide +kernel
set_option maxRecDepth 100000 in
theorem s122_9 {x0 : Nat} {x1 : Int32} {x2 : Int32} {s0 : Nat} {s1 : Int32} {s2 : Int32} : ip_WP 122 9 [some (.ref x0), some (.int x1), some (.int x2)] [.int s2, .int s1, .ref s0] (G, F, I, J) b post px ↔ (ip_isO G s0 9 = true ∧ ip_WP 192 0 [some (.ref s0), some (.int s1), some (.int s2)] [] (G, F, I, J) (0, 0) (fun r h' => ip_WP 122 12 [some (.ref x0), some (.int x1), some (.int x2)] (r.toList ++ []) h' b post px) (fun _ _ => False)) := ip_ck_iff (x := ip_cl 192 [some (.ref s0), some (.int s1), some (.int s2)] [] (0, 0) b) ((ip_st_of f122_9).trans rfl) (ip_cl_iff)
theorem f122_12 : ip_fetch 122 12 = some (.aload_n 0, 1) := by decide +kernel
theorem s122_12 {x0 : Nat} {x1 : Int32} {x2 : Int32} : ip_WP 122 12 [some (.ref x0), some (.int x1), some (.int x2)] [] (G, F, I, J) b post px ↔ ip_WP 122 13 [some (.ref x0), some (.int x1), some (.int x2)] [.ref x0] (G, F, I, J) b post px := ip_nx_iff ((ip_st_of f122_12).trans rfl)
theorem f122_13 : ip_fetch 122 13 = some (.getfield 20, 3) := by decide +kernel
set_option maxRecDepth 100000 in
theorem s122_13 {x0 : Nat} {x1 : Int32} {x2 : Int32} {s0 : Nat} : ip_WP 122 13 [some (.ref x0), some (.int x1), some (.int x2)] [.ref s0] (G, F, I, J) b post px ↔ (ip_isO G s0 4 = true ∧ ip_WP 122 16 [some (.ref x0), some (.int x1), some (.int x2)] [F s0 1] (G, F, I, J) b post px) := ip_s_getf f122_13 (by decide +kernel)
theorem f122_16 : ip_fetch 122 16 = some (.aload_n 0, 1) := by decide +kernel
theorem s122_16 {x0 : Nat} {x1 : Int32} {x2 : Int32} {s0 : Nat} : ip_WP 122 16 [some (.ref x0), some (.int x1), some (.int x2)] [.ref s0] (G, F, I, J) b post px ↔ ip_WP 122 17 [some (.ref x0), some (.int x1), some (.int x2)] [.ref x0, .ref s0] (G, F, I, J) b post px := ip_nx_iff ((ip_st_of f122_16).trans rfl)
theorem f122_17 : ip_fetch 122 17 = some (.getfield 23, 3) := by decide +kernel
set_option maxRecDepth 100000 in
theorem s122_17 {x0 : Nat} {x1 : Int32} {x2 : Int32} {s0 : Nat} {s1 : Nat} : ip_WP 122 17 [some (.ref x0), some (.int x1), some (.int x2)] [.ref s1, .ref s0] (G, F, I, J) b post px ↔ (ip_isO G s1 4 = true ∧ ip_WP 122 20 [some (.ref x0), some (.int x1), some (.int x2)] [F s1 2, .ref s0] (G, F, I, J) b post px) := ip_s_getf f122_17 (by decide +kernel)
theorem f122_20 : ip_fetch 122 20 = some (.iload_n 2, 1) := by decide +kernel
theorem s122_20 {x0 : Nat} {x1 : Int32} {x2 : Int32} {s0 : Nat} {s1 : Int32} : ip_WP 122 20 [some (.ref x0), some (.int x1), some (.int x2)] [.int s1, .ref s0] (G, F, I, J) b post px ↔ ip_WP 122 21 [some (.ref x0), some (.int x1), some (.int x2)] [.int x2, .int s1, .ref s0] (G, F, I, J) b post px := ip_nx_iff ((ip_st_of f122_20).trans rfl)
theorem f122_21 : ip_fetch 122 21 = some (.invokevirtual 27, 3) := by decide +kernel
set_option maxRecDepth 100000 in
theorem s122_21 {x0 : Nat} {x1 : Int32} {x2 : Int32} {s0 : Nat} {s1 : Int32} {s2 : Int32} : ip_WP 122 21 [some (.ref x0), some (.int x1), some (.int x2)] [.int s2, .int s1, .ref s0] (G, F, I, J) b post px ↔ (ip_isO G s0 9 = true ∧ ip_WP 192 0 [some (.ref s0), some (.int s1), some (.int s2)] [] (G, F, I, J) (0, 0) (fun r h' => ip_WP 122 24 [some (.ref x0), some (.int x1), some (.int x2)] (r.toList ++ []) h' b post px) (fun _ _ => False)) := ip_ck_iff (x := ip_cl 192 [some (.ref s0), some (.int s1), some (.int s2)] [] (0, 0) b) ((ip_st_of f122_21).trans rfl) (ip_cl_iff)
theorem f122_24 : ip_fetch 122 24 = some (.aload_n 0, 1) := by decide +kernel
theorem s122_24 {x0 : Nat} {x1 : Int32} {x2 : Int32} : ip_WP 122 24 [some (.ref x0), some (.int x1), some (.int x2)] [] (G, F, I, J) b post px ↔ ip_WP 122 25 [some (.ref x0), some (.int x1), some (.int x2)] [.ref x0] (G, F, I, J) b post px := ip_nx_iff ((ip_st_of f122_24).trans rfl)
theorem f122_25 : ip_fetch 122 25 = some (.dup, 1) := by decide +kernel
theorem s122_25 {x0 : Nat} {x1 : Int32} {x2 : Int32} {s0 : Nat} : ip_WP 122 25 [some (.ref x0), some (.int x1), some (.int x2)] [.ref s0] (G, F, I, J) b post px ↔ ip_WP 122 26 [some (.ref x0), some (.int x1), some (.int x2)] [.ref s0, .ref s0] (G, F, I, J) b post px := ip_nx_iff ((ip_st_of f122_25).trans rfl)
theorem f122_26 : ip_fetch 122 26 = some (.getfield 23, 3) := by decide +kernel
set_option maxRecDepth 100000 in
theorem s122_26 {x0 : Nat} {x1 : Int32} {x2 : Int32} {s0 : Nat} {s1 : Nat} : ip_WP 122 26 [some (.ref x0), some (.int x1), some (.int x2)] [.ref s1, .ref s0] (G, F, I, J) b post px ↔ (ip_isO G s1 4 = true ∧ ip_WP 122 29 [some (.ref x0), some (.int x1), some (.int x2)] [F s1 2, .ref s0] (G, F, I, J) b post px) := ip_s_getf f122_26 (by decide +kernel)
theorem f122_29 : ip_fetch 122 29 = some (.iconst 1, 1) := by decide +kernel
theorem s122_29 {x0 : Nat} {x1 : Int32} {x2 : Int32} {s0 : Nat} {s1 : Int32} : ip_WP 122 29 [some (.ref x0), some (.int x1), some (.int x2)] [.int s1, .ref s0] (G, F, I, J) b post px ↔ ip_WP 122 30 [some (.ref x0), some (.int x1), some (.int x2)] [.int 1, .int s1, .ref s0] (G, F, I, J) b post px := ip_s_iconst f122_29 (by decide)
theorem f122_30 : ip_fetch 122 30 = some (.iadd, 1) := by decide +kernel
theorem s122_30 {x0 : Nat} {x1 : Int32} {x2 : Int32} {s0 : Nat} {s1 : Int32} {s2 : Int32} : ip_WP 122 30 [some (.ref x0), some (.int x1), some (.int x2)] [.int s2, .int s1, .ref s0] (G, F, I, J) b post px ↔ ip_WP 122 31 [some (.ref x0), some (.int x1), some (.int x2)] [.int (s1 + s2), .ref s0] (G, F, I, J) b post px := ip_nx_iff ((ip_st_of f122_30).trans rfl)
theorem f122_31 : ip_fetch 122 31 = some (.putfield 23, 3) := by decide +kernel
set_option maxRecDepth 100000 in
theorem s122_31 {x0 : Nat} {x1 : Int32} {x2 : Int32} {s0 : Nat} {s1 : Int32} : ip_WP 122 31 [some (.ref x0), some (.int x1), some (.int x2)] [.int s1, .ref s0] (G, F, I, J) b post px ↔ (ip_isO G s0 4 = true ∧ ip_WP 122 34 [some (.ref x0), some (.int x1), some (.int x2)] [] (G, ip_up F s0 2 (.int s1), I, J) b post px) := ip_s_put f122_31 (by decide +kernel) rfl
theorem f122_34 : ip_fetch 122 34 = some (.return_, 1) := by decide +kernel
theorem s122_34 {x0 : Nat} {x1 : Int32} {x2 : Int32} : ip_WP 122 34 [some (.ref x0), some (.int x1), some (.int x2)] [] (G, F, I, J) b post px ↔ post none (G, F, I, J) := ip_rt_iff ((ip_st_of f122_34).trans rfl)
theorem f123_0 : ip_fetch 123 0 = some (.aload_n 0, 1) := by decide +kernel
theorem s123_0 {x0 : Nat} {x1 : Int32} : ip_WP 123 0 [some (.ref x0), some (.int x1)] [] (G, F, I, J) b post px ↔ ip_WP 123 1 [some (.ref x0), some (.int x1)] [.ref x0] (G, F, I, J) b post px := ip_nx_iff ((ip_st_of f123_0).trans rfl)
theorem f123_1 : ip_fetch 123 1 = some (.getfield 14, 3) := by decide +kernel
set_option maxRecDepth 100000 in
theorem s123_1 {x0 : Nat} {x1 : Int32} {s0 : Nat} : ip_WP 123 1 [some (.ref x0), some (.int x1)] [.ref s0] (G, F, I, J) b post px ↔ (ip_isO G s0 4 = true ∧ ip_WP 123 4 [some (.ref x0), some (.int x1)] [F s0 0] (G, F, I, J) b post px) := ip_s_getf f123_1 (by decide +kernel)
theorem f123_4 : ip_fetch 123 4 = some (.iload_n 1, 1) := by decide +kernel
theorem s123_4 {x0 : Nat} {x1 : Int32} {s0 : Nat} : ip_WP 123 4 [some (.ref x0), some (.int x1)] [.ref s0] (G, F, I, J) b post px ↔ ip_WP 123 5 [some (.ref x0), some (.int x1)] [.int x1, .ref s0] (G, F, I, J) b post px := ip_nx_iff ((ip_st_of f123_4).trans rfl)
theorem f123_5 : ip_fetch 123 5 = some (.invokevirtual 30, 3) := by decide +kernel
set_option maxRecDepth 100000 in
theorem s123_5 {x0 : Nat} {x1 : Int32} {s0 : Nat} {s1 : Int32} : ip_WP 123 5 [some (.ref x0), some (.int x1)] [.int s1, .ref s0] (G, F, I, J) b post px ↔ (ip_isO G s0 9 = true ∧ ip_WP 191 0 [some (.ref s0), some (.int s1)] [] (G, F, I, J) (0, 0) (fun r h' => ip_WP 123 8 [some (.ref x0), some (.int x1)] (r.toList ++ []) h' b post px) (fun _ _ => False)) := ip_ck_iff (x := ip_cl 191 [some (.ref s0), some (.int s1)] [] (0, 0) b) ((ip_st_of f123_5).trans rfl) (ip_cl_iff)
theorem f123_8 : ip_fetch 123 8 = some (.ireturn, 1) := by decide +kernel
theorem s123_8 {x0 : Nat} {x1 : Int32} {s0 : Int32} : ip_WP 123 8 [some (.ref x0), some (.int x1)] [.int s0] (G, F, I, J) b post px ↔ post (some (.int s0)) (G, F, I, J) := ip_rt_iff ((ip_st_of f123_8).trans rfl)
theorem f124_0 : ip_fetch 124 0 = some (.aload_n 0, 1) := by decide +kernel
theorem s124_0 {x0 : Nat} {x1 : Int32} : ip_WP 124 0 [some (.ref x0), some (.int x1)] [] (G, F, I, J) b post px ↔ ip_WP 124 1 [some (.ref x0), some (.int x1)] [.ref x0] (G, F, I, J) b post px := ip_nx_iff ((ip_st_of f124_0).trans rfl)
theorem f124_1 : ip_fetch 124 1 = some (.getfield 20, 3) := by decide +kernel
set_option maxRecDepth 100000 in
theorem s124_1 {x0 : Nat} {x1 : Int32} {s0 : Nat} : ip_WP 124 1 [some (.ref x0), some (.int x1)] [.ref s0] (G, F, I, J) b post px ↔ (ip_isO G s0 4 = true ∧ ip_WP 124 4 [some (.ref x0), some (.int x1)] [F s0 1] (G, F, I, J) b post px) := ip_s_getf f124_1 (by decide +kernel)
theorem f124_4 : ip_fetch 124 4 = some (.iload_n 1, 1) := by decide +kernel
theorem s124_4 {x0 : Nat} {x1 : Int32} {s0 : Nat} : ip_WP 124 4 [some (.ref x0), some (.int x1)] [.ref s0] (G, F, I, J) b post px ↔ ip_WP 124 5 [some (.ref x0), some (.int x1)] [.int x1, .ref s0] (G, F, I, J) b post px := ip_nx_iff ((ip_st_of f124_4).trans rfl)
theorem f124_5 : ip_fetch 124 5 = some (.invokevirtual 30, 3) := by decide +kernel
set_option maxRecDepth 100000 in
theorem s124_5 {x0 : Nat} {x1 : Int32} {s0 : Nat} {s1 : Int32} : ip_WP 124 5 [some (.ref x0), some (.int x1)] [.int s1, .ref s0] (G, F, I, J) b post px ↔ (ip_isO G s0 9 = true ∧ ip_WP 191 0 [some (.ref s0), some (.int s1)] [] (G, F, I, J) (0, 0) (fun r h' => ip_WP 124 8 [some (.ref x0), some (.int x1)] (r.toList ++ []) h' b post px) (fun _ _ => False)) := ip_ck_iff (x := ip_cl 191 [some (.ref s0), some (.int s1)] [] (0, 0) b) ((ip_st_of f124_5).trans rfl) (ip_cl_iff)
theorem f124_8 : ip_fetch 124 8 = some (.ireturn, 1) := by decide +kernel
theorem s124_8 {x0 : Nat} {x1 : Int32} {s0 : Int32} : ip_WP 124 8 [some (.ref x0), some (.int x1)] [.int s0] (G, F, I, J) b post px ↔ post (some (.int s0)) (G, F, I, J) := ip_rt_iff ((ip_st_of f124_8).trans rfl)
theorem f125_0 : ip_fetch 125 0 = some (.aload_n 0, 1) := by decide +kernel
theorem s125_0 {x0 : Nat} {x1 : Nat} : ip_WP 125 0 [some (.ref x0), some (.ref x1)] [] (G, F, I, J) b post px ↔ ip_WP 125 1 [some (.ref x0), some (.ref x1)] [.ref x0] (G, F, I, J) b post px := ip_nx_iff ((ip_st_of f125_0).trans rfl)
theorem f125_1 : ip_fetch 125 1 = some (.invokespecial 3, 3) := by decide +kernel
set_option maxRecDepth 100000 in
theorem s125_1 {x0 : Nat} {x1 : Nat} {s0 : Nat} : ip_WP 125 1 [some (.ref x0), some (.ref x1)] [.ref s0] (G, F, I, J) b post px ↔ ip_WP 125 4 [some (.ref x0), some (.ref x1)] [] (G, F, I, J) b post px := ip_s_obj f125_1 rfl (Nat.le_of_ble_eq_true rfl)
theorem f125_4 : ip_fetch 125 4 = some (.aload_n 0, 1) := by decide +kernel
theorem s125_4 {x0 : Nat} {x1 : Nat} : ip_WP 125 4 [some (.ref x0), some (.ref x1)] [] (G, F, I, J) b post px ↔ ip_WP 125 5 [some (.ref x0), some (.ref x1)] [.ref x0] (G, F, I, J) b post px := ip_nx_iff ((ip_st_of f125_4).trans rfl)
theorem f125_5 : ip_fetch 125 5 = some (.aload_n 1, 1) := by decide +kernel
theorem s125_5 {x0 : Nat} {x1 : Nat} {s0 : Nat} : ip_WP 125 5 [some (.ref x0), some (.ref x1)] [.ref s0] (G, F, I, J) b post px ↔ ip_WP 125 6 [some (.ref x0), some (.ref x1)] [.ref x1, .ref s0] (G, F, I, J) b post px := ip_nx_iff ((ip_st_of f125_5).trans rfl)
theorem f125_6 : ip_fetch 125 6 = some (.putfield 9, 3) := by decide +kernel
set_option maxRecDepth 100000 in
theorem s125_6 {x0 : Nat} {x1 : Nat} {s0 : Nat} {s1 : Nat} : ip_WP 125 6 [some (.ref x0), some (.ref x1)] [.ref s1, .ref s0] (G, F, I, J) b post px ↔ (ip_isO G s0 5 = true ∧ s1 < G.length ∧ ip_WP 125 9 [some (.ref x0), some (.ref x1)] [] (G, ip_up F s0 0 (.ref s1), I, J) b post px) := ip_s_putR f125_6 (by decide +kernel) rfl
theorem f125_9 : ip_fetch 125 9 = some (.aload_n 0, 1) := by decide +kernel
theorem s125_9 {x0 : Nat} {x1 : Nat} : ip_WP 125 9 [some (.ref x0), some (.ref x1)] [] (G, F, I, J) b post px ↔ ip_WP 125 10 [some (.ref x0), some (.ref x1)] [.ref x0] (G, F, I, J) b post px := ip_nx_iff ((ip_st_of f125_9).trans rfl)
theorem f125_10 : ip_fetch 125 10 = some (.new 15, 3) := by decide +kernel
set_option maxRecDepth 100000 in
theorem s125_10 {x0 : Nat} {x1 : Nat} {s0 : Nat} : ip_WP 125 10 [some (.ref x0), some (.ref x1)] [.ref s0] (G, F, I, J) b post px ↔ (ip_wfc G.length [some (.ref x0), some (.ref x1)] [.ref s0] = true ∧ (1 ≤ b.1 ∧ 1 ≤ b.2 ∧ G.length < ip_SC) ∧ ip_WP 125 13 [some (.ref x0), some (.ref x1)] [.ref G.length, .ref s0] (G ++ [.inr (10, 1)], fun a j => if a = G.length then ip_dfl (ip_fty 10 j) else F a j, I, J) (b.1 - 1, b.2 - 1) post px) := ip_s_new f125_10 rfl rfl rfl rfl
theorem f125_13 : ip_fetch 125 13 = some (.dup, 1) := by decide +kernel
theorem s125_13 {x0 : Nat} {x1 : Nat} {s0 : Nat} {s1 : Nat} : ip_WP 125 13 [some (.ref x0), some (.ref x1)] [.ref s1, .ref s0] (G, F, I, J) b post px ↔ ip_WP 125 14 [some (.ref x0), some (.ref x1)] [.ref s1, .ref s1, .ref s0] (G, F, I, J) b post px := ip_nx_iff ((ip_st_of f125_13).trans rfl)
theorem f125_14 : ip_fetch 125 14 = some (.invokespecial 17, 3) := by decide +kernel
set_option maxRecDepth 100000 in
theorem s125_14 {x0 : Nat} {x1 : Nat} {s0 : Nat} {s1 : Nat} {s2 : Nat} : ip_WP 125 14 [some (.ref x0), some (.ref x1)] [.ref s2, .ref s1, .ref s0] (G, F, I, J) b post px ↔ (ip_wfc G.length [some (.ref x0), some (.ref x1)] [.ref s1, .ref s0] = true ∧ (ip_bud 193 b = true ∧ ip_WP 193 0 [some (.ref s2), none] [] (G, F, I, J) (1, 17) (fun r h' => ip_WP 125 17 [some (.ref x0), some (.ref x1)] (r.toList ++ [.ref s1, .ref s0]) h' (ip_rst 193 b) post px) (fun _ _ => False))) := ip_ck_iff (x := if ip_bud 193 b = true then ip_cl 193 [some (.ref s2), none] [.ref s1, .ref s0] (1, 17) (ip_rst 193 b) else none) ((ip_st_of f125_14).trans rfl) (fun hs => ip_ck_iff (x := ip_cl 193 [some (.ref s2), none] [.ref s1, .ref s0] (1, 17) (ip_rst 193 b)) hs (ip_cl_iff))
theorem f125_17 : ip_fetch 125 17 = some (.putfield 18, 3) := by decide +kernel
set_option maxRecDepth 100000 in
theorem s125_17 {x0 : Nat} {x1 : Nat} {s0 : Nat} {s1 : Nat} : ip_WP 125 17 [some (.ref x0), some (.ref x1)] [.ref s1, .ref s0] (G, F, I, J) b post px ↔ (ip_isO G s0 5 = true ∧ s1 < G.length ∧ ip_WP 125 20 [some (.ref x0), some (.ref x1)] [] (G, ip_up F s0 1 (.ref s1), I, J) b post px) := ip_s_putR f125_17 (by decide +kernel) rfl
theorem f125_20 : ip_fetch 125 20 = some (.aload_n 0, 1) := by decide +kernel
theorem s125_20 {x0 : Nat} {x1 : Nat} : ip_WP 125 20 [some (.ref x0), some (.ref x1)] [] (G, F, I, J) b post px ↔ ip_WP 125 21 [some (.ref x0), some (.ref x1)] [.ref x0] (G, F, I, J) b post px := ip_nx_iff ((ip_st_of f125_20).trans rfl)
theorem f125_21 : ip_fetch 125 21 = some (.invokevirtual 22, 3) := by decide +kernel
set_option maxRecDepth 100000 in
theorem s125_21 {x0 : Nat} {x1 : Nat} {s0 : Nat} : ip_WP 125 21 [some (.ref x0), some (.ref x1)] [.ref s0] (G, F, I, J) b post px ↔ (ip_isO G s0 5 = true ∧ ip_WP 126 0 [some (.ref s0)] [] (G, F, I, J) (0, 0) (fun r h' => ip_WP 125 24 [some (.ref x0), some (.ref x1)] (r.toList ++ []) h' b post px) (fun _ _ => False)) := ip_ck_iff (x := ip_cl 126 [some (.ref s0)] [] (0, 0) b) ((ip_st_of f125_21).trans rfl) (ip_cl_iff)
theorem f125_24 : ip_fetch 125 24 = some (.return_, 1) := by decide +kernel
theorem s125_24 {x0 : Nat} {x1 : Nat} : ip_WP 125 24 [some (.ref x0), some (.ref x1)] [] (G, F, I, J) b post px ↔ post none (G, F, I, J) := ip_rt_iff ((ip_st_of f125_24).trans rfl)
theorem f126_0 : ip_fetch 126 0 = some (.aload_n 0, 1) := by decide +kernel
theorem s126_0 {x0 : Nat} : ip_WP 126 0 [some (.ref x0)] [] (G, F, I, J) b post px ↔ ip_WP 126 1 [some (.ref x0)] [.ref x0] (G, F, I, J) b post px := ip_nx_iff ((ip_st_of f126_0).trans rfl)
theorem f126_1 : ip_fetch 126 1 = some (.iconst 0, 1) := by decide +kernel
theorem s126_1 {x0 : Nat} {s0 : Nat} : ip_WP 126 1 [some (.ref x0)] [.ref s0] (G, F, I, J) b post px ↔ ip_WP 126 2 [some (.ref x0)] [.int 0, .ref s0] (G, F, I, J) b post px := ip_s_iconst f126_1 (by decide)
theorem f126_2 : ip_fetch 126 2 = some (.putfield 25, 3) := by decide +kernel
set_option maxRecDepth 100000 in
theorem s126_2 {x0 : Nat} {s0 : Nat} {s1 : Int32} : ip_WP 126 2 [some (.ref x0)] [.int s1, .ref s0] (G, F, I, J) b post px ↔ (ip_isO G s0 5 = true ∧ ip_WP 126 5 [some (.ref x0)] [] (G, ip_up F s0 2 (.int s1), I, J) b post px) := ip_s_put f126_2 (by decide +kernel) rfl
theorem f126_5 : ip_fetch 126 5 = some (.aload_n 0, 1) := by decide +kernel
theorem s126_5 {x0 : Nat} : ip_WP 126 5 [some (.ref x0)] [] (G, F, I, J) b post px ↔ ip_WP 126 6 [some (.ref x0)] [.ref x0] (G, F, I, J) b post px := ip_nx_iff ((ip_st_of f126_5).trans rfl)
theorem f126_6 : ip_fetch 126 6 = some (.iconst 0, 1) := by decide +kernel
theorem s126_6 {x0 : Nat} {s0 : Nat} : ip_WP 126 6 [some (.ref x0)] [.ref s0] (G, F, I, J) b post px ↔ ip_WP 126 7 [some (.ref x0)] [.int 0, .ref s0] (G, F, I, J) b post px := ip_s_iconst f126_6 (by decide)
theorem f126_7 : ip_fetch 126 7 = some (.putfield 29, 3) := by decide +kernel
set_option maxRecDepth 100000 in
theorem s126_7 {x0 : Nat} {s0 : Nat} {s1 : Int32} : ip_WP 126 7 [some (.ref x0)] [.int s1, .ref s0] (G, F, I, J) b post px ↔ (ip_isO G s0 5 = true ∧ ip_WP 126 10 [some (.ref x0)] [] (G, ip_up F s0 4 (.int s1), I, J) b post px) := ip_s_put f126_7 (by decide +kernel) rfl
theorem f126_10 : ip_fetch 126 10 = some (.aload_n 0, 1) := by decide +kernel
theorem s126_10 {x0 : Nat} : ip_WP 126 10 [some (.ref x0)] [] (G, F, I, J) b post px ↔ ip_WP 126 11 [some (.ref x0)] [.ref x0] (G, F, I, J) b post px := ip_nx_iff ((ip_st_of f126_10).trans rfl)
theorem f126_11 : ip_fetch 126 11 = some (.iconst 0, 1) := by decide +kernel
theorem s126_11 {x0 : Nat} {s0 : Nat} : ip_WP 126 11 [some (.ref x0)] [.ref s0] (G, F, I, J) b post px ↔ ip_WP 126 12 [some (.ref x0)] [.int 0, .ref s0] (G, F, I, J) b post px := ip_s_iconst f126_11 (by decide)
theorem f126_12 : ip_fetch 126 12 = some (.putfield 32, 3) := by decide +kernel
set_option maxRecDepth 100000 in
theorem s126_12 {x0 : Nat} {s0 : Nat} {s1 : Int32} : ip_WP 126 12 [some (.ref x0)] [.int s1, .ref s0] (G, F, I, J) b post px ↔ (ip_isO G s0 5 = true ∧ ip_WP 126 15 [some (.ref x0)] [] (G, ip_up F s0 3 (.int s1), I, J) b post px) := ip_s_put f126_12 (by decide +kernel) rfl
theorem f126_15 : ip_fetch 126 15 = some (.aload_n 0, 1) := by decide +kernel
theorem s126_15 {x0 : Nat} : ip_WP 126 15 [some (.ref x0)] [] (G, F, I, J) b post px ↔ ip_WP 126 16 [some (.ref x0)] [.ref x0] (G, F, I, J) b post px := ip_nx_iff ((ip_st_of f126_15).trans rfl)
theorem f126_16 : ip_fetch 126 16 = some (.lconst 0, 1) := by decide +kernel
theorem s126_16 {x0 : Nat} {s0 : Nat} : ip_WP 126 16 [some (.ref x0)] [.ref s0] (G, F, I, J) b post px ↔ ip_WP 126 17 [some (.ref x0)] [.long 0, .ref s0] (G, F, I, J) b post px := ip_s_lconst f126_16 (by decide)
theorem f126_17 : ip_fetch 126 17 = some (.putfield 35, 3) := by decide +kernel
set_option maxRecDepth 100000 in
theorem s126_17 {x0 : Nat} {s0 : Nat} {s1 : Int64} : ip_WP 126 17 [some (.ref x0)] [.long s1, .ref s0] (G, F, I, J) b post px ↔ (ip_isO G s0 5 = true ∧ ip_WP 126 20 [some (.ref x0)] [] (G, ip_up F s0 5 (.long s1), I, J) b post px) := ip_s_put f126_17 (by decide +kernel) rfl
theorem f126_20 : ip_fetch 126 20 = some (.aload_n 0, 1) := by decide +kernel
theorem s126_20 {x0 : Nat} : ip_WP 126 20 [some (.ref x0)] [] (G, F, I, J) b post px ↔ ip_WP 126 21 [some (.ref x0)] [.ref x0] (G, F, I, J) b post px := ip_nx_iff ((ip_st_of f126_20).trans rfl)
theorem f126_21 : ip_fetch 126 21 = some (.iconst 0, 1) := by decide +kernel
theorem s126_21 {x0 : Nat} {s0 : Nat} : ip_WP 126 21 [some (.ref x0)] [.ref s0] (G, F, I, J) b post px ↔ ip_WP 126 22 [some (.ref x0)] [.int 0, .ref s0] (G, F, I, J) b post px := ip_s_iconst f126_21 (by decide)
theorem f126_22 : ip_fetch 126 22 = some (.putfield 39, 3) := by decide +kernel
set_option maxRecDepth 100000 in
theorem s126_22 {x0 : Nat} {s0 : Nat} {s1 : Int32} : ip_WP 126 22 [some (.ref x0)] [.int s1, .ref s0] (G, F, I, J) b post px ↔ (ip_isO G s0 5 = true ∧ ip_WP 126 25 [some (.ref x0)] [] (G, ip_up F s0 6 (.int s1), I, J) b post px) := ip_s_put f126_22 (by decide +kernel) rfl
theorem f126_25 : ip_fetch 126 25 = some (.return_, 1) := by decide +kernel
theorem s126_25 {x0 : Nat} : ip_WP 126 25 [some (.ref x0)] [] (G, F, I, J) b post px ↔ post none (G, F, I, J) := ip_rt_iff ((ip_st_of f126_25).trans rfl)
theorem f127_0 : ip_fetch 127 0 = some (.aload_n 0, 1) := by decide +kernel
theorem s127_0 {x0 : Nat} : ip_WP 127 0 [some (.ref x0)] [] (G, F, I, J) b post px ↔ ip_WP 127 1 [some (.ref x0)] [.ref x0] (G, F, I, J) b post px := ip_nx_iff ((ip_st_of f127_0).trans rfl)
theorem f127_1 : ip_fetch 127 1 = some (.getfield 32, 3) := by decide +kernel
set_option maxRecDepth 100000 in
theorem s127_1 {x0 : Nat} {s0 : Nat} : ip_WP 127 1 [some (.ref x0)] [.ref s0] (G, F, I, J) b post px ↔ (ip_isO G s0 5 = true ∧ ip_WP 127 4 [some (.ref x0)] [F s0 3] (G, F, I, J) b post px) := ip_s_getf f127_1 (by decide +kernel)
theorem f127_4 : ip_fetch 127 4 = some (.ireturn, 1) := by decide +kernel
theorem s127_4 {x0 : Nat} {s0 : Int32} : ip_WP 127 4 [some (.ref x0)] [.int s0] (G, F, I, J) b post px ↔ post (some (.int s0)) (G, F, I, J) := ip_rt_iff ((ip_st_of f127_4).trans rfl)
theorem f128_0 : ip_fetch 128 0 = some (.aload_n 0, 1) := by decide +kernel
theorem s128_0 {x0 : Nat} : ip_WP 128 0 [some (.ref x0)] [] (G, F, I, J) b post px ↔ ip_WP 128 1 [some (.ref x0)] [.ref x0] (G, F, I, J) b post px := ip_nx_iff ((ip_st_of f128_0).trans rfl)
theorem f128_1 : ip_fetch 128 1 = some (.getfield 29, 3) := by decide +kernel
set_option maxRecDepth 100000 in
theorem s128_1 {x0 : Nat} {s0 : Nat} : ip_WP 128 1 [some (.ref x0)] [.ref s0] (G, F, I, J) b post px ↔ (ip_isO G s0 5 = true ∧ ip_WP 128 4 [some (.ref x0)] [F s0 4] (G, F, I, J) b post px) := ip_s_getf f128_1 (by decide +kernel)
theorem f128_4 : ip_fetch 128 4 = some (.ireturn, 1) := by decide +kernel
theorem s128_4 {x0 : Nat} {s0 : Int32} : ip_WP 128 4 [some (.ref x0)] [.int s0] (G, F, I, J) b post px ↔ post (some (.int s0)) (G, F, I, J) := ip_rt_iff ((ip_st_of f128_4).trans rfl)
theorem f129_0 : ip_fetch 129 0 = some (.aload_n 0, 1) := by decide +kernel
theorem s129_0 {x0 : Nat} : ip_WP 129 0 [some (.ref x0)] [] (G, F, I, J) b post px ↔ ip_WP 129 1 [some (.ref x0)] [.ref x0] (G, F, I, J) b post px := ip_nx_iff ((ip_st_of f129_0).trans rfl)
theorem f129_1 : ip_fetch 129 1 = some (.getfield 35, 3) := by decide +kernel
set_option maxRecDepth 100000 in
theorem s129_1 {x0 : Nat} {s0 : Nat} : ip_WP 129 1 [some (.ref x0)] [.ref s0] (G, F, I, J) b post px ↔ (ip_isO G s0 5 = true ∧ ip_WP 129 4 [some (.ref x0)] [F s0 5] (G, F, I, J) b post px) := ip_s_getf f129_1 (by decide +kernel)
theorem f129_4 : ip_fetch 129 4 = some (.lreturn, 1) := by decide +kernel
theorem s129_4 {x0 : Nat} {s0 : Int64} : ip_WP 129 4 [some (.ref x0)] [.long s0] (G, F, I, J) b post px ↔ post (some (.long s0)) (G, F, I, J) := ip_rt_iff ((ip_st_of f129_4).trans rfl)
theorem f130_0 : ip_fetch 130 0 = some (.aload_n 0, 1) := by decide +kernel
theorem s130_0 {x0 : Nat} : ip_WP 130 0 [some (.ref x0)] [] (G, F, I, J) b post px ↔ ip_WP 130 1 [some (.ref x0)] [.ref x0] (G, F, I, J) b post px := ip_nx_iff ((ip_st_of f130_0).trans rfl)
theorem f130_1 : ip_fetch 130 1 = some (.getfield 39, 3) := by decide +kernel
set_option maxRecDepth 100000 in
theorem s130_1 {x0 : Nat} {s0 : Nat} : ip_WP 130 1 [some (.ref x0)] [.ref s0] (G, F, I, J) b post px ↔ (ip_isO G s0 5 = true ∧ ip_WP 130 4 [some (.ref x0)] [F s0 6] (G, F, I, J) b post px) := ip_s_getf f130_1 (by decide +kernel)
theorem f130_4 : ip_fetch 130 4 = some (.ireturn, 1) := by decide +kernel
theorem s130_4 {x0 : Nat} {s0 : Int32} : ip_WP 130 4 [some (.ref x0)] [.int s0] (G, F, I, J) b post px ↔ post (some (.int s0)) (G, F, I, J) := ip_rt_iff ((ip_st_of f130_4).trans rfl)
theorem f131_0 : ip_fetch 131 0 = some (.aload_n 0, 1) := by decide +kernel
theorem s131_0 {x0 : Nat} {x1 : Option Value} : ip_WP 131 0 [some (.ref x0), x1] [] (G, F, I, J) b post px ↔ ip_WP 131 1 [some (.ref x0), x1] [.ref x0] (G, F, I, J) b post px := ip_nx_iff ((ip_st_of f131_0).trans rfl)
theorem f131_1 : ip_fetch 131 1 = some (.invokevirtual 42, 3) := by decide +kernel
set_option maxRecDepth 100000 in
theorem s131_1 {x0 : Nat} {x1 : Option Value} {s0 : Nat} : ip_WP 131 1 [some (.ref x0), x1] [.ref s0] (G, F, I, J) b post px ↔ (ip_isO G s0 5 = true ∧ ip_WP 132 0 [some (.ref s0), none, none] [] (G, F, I, J) (0, 0) (fun r h' => ip_WP 131 4 [some (.ref x0), x1] (r.toList ++ []) h' b post px) (fun _ _ => False)) := ip_ck_iff (x := ip_cl 132 [some (.ref s0), none, none] [] (0, 0) b) ((ip_st_of f131_1).trans rfl) (ip_cl_iff)
theorem f131_4 : ip_fetch 131 4 = some (.aload_n 0, 1) := by decide +kernel
theorem s131_4 {x0 : Nat} {x1 : Option Value} : ip_WP 131 4 [some (.ref x0), x1] [] (G, F, I, J) b post px ↔ ip_WP 131 5 [some (.ref x0), x1] [.ref x0] (G, F, I, J) b post px := ip_nx_iff ((ip_st_of f131_4).trans rfl)
theorem f131_5 : ip_fetch 131 5 = some (.aload_n 0, 1) := by decide +kernel
theorem s131_5 {x0 : Nat} {x1 : Option Value} {s0 : Nat} : ip_WP 131 5 [some (.ref x0), x1] [.ref s0] (G, F, I, J) b post px ↔ ip_WP 131 6 [some (.ref x0), x1] [.ref x0, .ref s0] (G, F, I, J) b post px := ip_nx_iff ((ip_st_of f131_5).trans rfl)
theorem f131_6 : ip_fetch 131 6 = some (.getfield 25, 3) := by decide +kernel
set_option maxRecDepth 100000 in
theorem s131_6 {x0 : Nat} {x1 : Option Value} {s0 : Nat} {s1 : Nat} : ip_WP 131 6 [some (.ref x0), x1] [.ref s1, .ref s0] (G, F, I, J) b post px ↔ (ip_isO G s1 5 = true ∧ ip_WP 131 9 [some (.ref x0), x1] [F s1 2, .ref s0] (G, F, I, J) b post px) := ip_s_getf f131_6 (by decide +kernel)
theorem f131_9 : ip_fetch 131 9 = some (.putfield 29, 3) := by decide +kernel
set_option maxRecDepth 100000 in
theorem s131_9 {x0 : Nat} {x1 : Option Value} {s0 : Nat} {s1 : Int32} : ip_WP 131 9 [some (.ref x0), x1] [.int s1, .ref s0] (G, F, I, J) b post px ↔ (ip_isO G s0 5 = true ∧ ip_WP 131 12 [some (.ref x0), x1] [] (G, ip_up F s0 4 (.int s1), I, J) b post px) := ip_s_put f131_9 (by decide +kernel) rfl
theorem f131_12 : ip_fetch 131 12 = some (.aload_n 0, 1) := by decide +kernel
theorem s131_12 {x0 : Nat} {x1 : Option Value} : ip_WP 131 12 [some (.ref x0), x1] [] (G, F, I, J) b post px ↔ ip_WP 131 13 [some (.ref x0), x1] [.ref x0] (G, F, I, J) b post px := ip_nx_iff ((ip_st_of f131_12).trans rfl)
theorem f131_13 : ip_fetch 131 13 = some (.getfield 9, 3) := by decide +kernel
set_option maxRecDepth 100000 in
theorem s131_13 {x0 : Nat} {x1 : Option Value} {s0 : Nat} : ip_WP 131 13 [some (.ref x0), x1] [.ref s0] (G, F, I, J) b post px ↔ (ip_isO G s0 5 = true ∧ ip_WP 131 16 [some (.ref x0), x1] [F s0 0] (G, F, I, J) b post px) := ip_s_getf f131_13 (by decide +kernel)
theorem f131_16 : ip_fetch 131 16 = some (.aload_n 0, 1) := by decide +kernel
theorem s131_16 {x0 : Nat} {x1 : Option Value} {s0 : Nat} : ip_WP 131 16 [some (.ref x0), x1] [.ref s0] (G, F, I, J) b post px ↔ ip_WP 131 17 [some (.ref x0), x1] [.ref x0, .ref s0] (G, F, I, J) b post px := ip_nx_iff ((ip_st_of f131_16).trans rfl)
theorem f131_17 : ip_fetch 131 17 = some (.getfield 25, 3) := by decide +kernel
set_option maxRecDepth 100000 in
theorem s131_17 {x0 : Nat} {x1 : Option Value} {s0 : Nat} {s1 : Nat} : ip_WP 131 17 [some (.ref x0), x1] [.ref s1, .ref s0] (G, F, I, J) b post px ↔ (ip_isO G s1 5 = true ∧ ip_WP 131 20 [some (.ref x0), x1] [F s1 2, .ref s0] (G, F, I, J) b post px) := ip_s_getf f131_17 (by decide +kernel)
theorem f131_20 : ip_fetch 131 20 = some (.invokevirtual 45, 3) := by decide +kernel
set_option maxRecDepth 100000 in
theorem s131_20 {x0 : Nat} {x1 : Option Value} {s0 : Nat} {s1 : Int32} : ip_WP 131 20 [some (.ref x0), x1] [.int s1, .ref s0] (G, F, I, J) b post px ↔ (ip_isO G s0 2 = true ∧ ip_WP 89 0 [some (.ref s0), some (.int s1)] [] (G, F, I, J) (0, 0) (fun r h' => ip_WP 131 23 [some (.ref x0), x1] (r.toList ++ []) h' b post px) (fun _ _ => False)) := ip_ck_iff (x := ip_cl 89 [some (.ref s0), some (.int s1)] [] (0, 0) b) ((ip_st_of f131_20).trans rfl) (ip_cl_iff)
theorem f131_23 : ip_fetch 131 23 = some (.istore_n 1, 1) := by decide +kernel
theorem s131_23 {x0 : Nat} {x1 : Option Value} {s0 : Int32} : ip_WP 131 23 [some (.ref x0), x1] [.int s0] (G, F, I, J) b post px ↔ ip_WP 131 24 [some (.ref x0), some (.int s0)] [] (G, F, I, J) b post px := ip_nx_iff ((ip_st_of f131_23).trans rfl)
theorem f131_24 : ip_fetch 131 24 = some (.iload_n 1, 1) := by decide +kernel
theorem s131_24 {x0 : Nat} {x1 : Int32} : ip_WP 131 24 [some (.ref x0), some (.int x1)] [] (G, F, I, J) b post px ↔ ip_WP 131 25 [some (.ref x0), some (.int x1)] [.int x1] (G, F, I, J) b post px := ip_nx_iff ((ip_st_of f131_24).trans rfl)
theorem f131_25 : ip_fetch 131 25 = some (.iconst (-1), 1) := by decide +kernel
theorem s131_25 {x0 : Nat} {x1 : Int32} {s0 : Int32} : ip_WP 131 25 [some (.ref x0), some (.int x1)] [.int s0] (G, F, I, J) b post px ↔ ip_WP 131 26 [some (.ref x0), some (.int x1)] [.int (-1), .int s0] (G, F, I, J) b post px := ip_s_iconst f131_25 (by decide)
theorem f131_26 : ip_fetch 131 26 = some (.if_icmp .ne 11, 3) := by decide +kernel
theorem s131_26 {x0 : Nat} {x1 : Int32} {s0 : Int32} {s1 : Int32} : ip_WP 131 26 [some (.ref x0), some (.int x1)] [.int s1, .int s0] (G, F, I, J) b post px ↔ if ¬ s0 = s1 then ip_WP 131 37 [some (.ref x0), some (.int x1)] [] (G, F, I, J) b post px else ip_WP 131 29 [some (.ref x0), some (.int x1)] [] (G, F, I, J) b post px := ip_s_ic_ne f131_26 rfl
theorem f131_29 : ip_fetch 131 29 = some (.aload_n 0, 1) := by decide +kernel
theorem s131_29 {x0 : Nat} {x1 : Int32} : ip_WP 131 29 [some (.ref x0), some (.int x1)] [] (G, F, I, J) b post px ↔ ip_WP 131 30 [some (.ref x0), some (.int x1)] [.ref x0] (G, F, I, J) b post px := ip_nx_iff ((ip_st_of f131_29).trans rfl)
theorem f131_30 : ip_fetch 131 30 = some (.iconst 1, 1) := by decide +kernel
theorem s131_30 {x0 : Nat} {x1 : Int32} {s0 : Nat} : ip_WP 131 30 [some (.ref x0), some (.int x1)] [.ref s0] (G, F, I, J) b post px ↔ ip_WP 131 31 [some (.ref x0), some (.int x1)] [.int 1, .ref s0] (G, F, I, J) b post px := ip_s_iconst f131_30 (by decide)
theorem f131_31 : ip_fetch 131 31 = some (.putfield 32, 3) := by decide +kernel
set_option maxRecDepth 100000 in
theorem s131_31 {x0 : Nat} {x1 : Int32} {s0 : Nat} {s1 : Int32} : ip_WP 131 31 [some (.ref x0), some (.int x1)] [.int s1, .ref s0] (G, F, I, J) b post px ↔ (ip_isO G s0 5 = true ∧ ip_WP 131 34 [some (.ref x0), some (.int x1)] [] (G, ip_up F s0 3 (.int s1), I, J) b post px) := ip_s_put f131_31 (by decide +kernel) rfl
theorem f131_34 : ip_fetch 131 34 = some (.goto 36, 3) := by decide +kernel
theorem s131_34 {x0 : Nat} {x1 : Int32} : ip_WP 131 34 [some (.ref x0), some (.int x1)] [] (G, F, I, J) b post px ↔ ip_WP 131 70 [some (.ref x0), some (.int x1)] [] (G, F, I, J) b post px := ip_nx_iff ((ip_st_of f131_34).trans rfl)
theorem f131_37 : ip_fetch 131 37 = some (.iload_n 1, 1) := by decide +kernel
theorem s131_37 {x0 : Nat} {x1 : Int32} : ip_WP 131 37 [some (.ref x0), some (.int x1)] [] (G, F, I, J) b post px ↔ ip_WP 131 38 [some (.ref x0), some (.int x1)] [.int x1] (G, F, I, J) b post px := ip_nx_iff ((ip_st_of f131_37).trans rfl)
theorem f131_38 : ip_fetch 131 38 = some (.invokestatic 51, 3) := by decide +kernel
set_option maxRecDepth 100000 in
theorem s131_38 {x0 : Nat} {x1 : Int32} {s0 : Int32} : ip_WP 131 38 [some (.ref x0), some (.int x1)] [.int s0] (G, F, I, J) b post px ↔ ip_WP 140 0 [some (.int s0)] [] (G, F, I, J) (0, 0) (fun r h' => ip_WP 131 41 [some (.ref x0), some (.int x1)] (r.toList ++ []) h' b post px) (fun _ _ => False) := ip_cl_iff ((ip_st_of f131_38).trans (rfl : _ = ip_cl 140 [some (.int s0)] [] (0, 0) b))
theorem f131_41 : ip_fetch 131 41 = some (.ifCond .eq 10, 3) := by decide +kernel
theorem s131_41 {x0 : Nat} {x1 : Int32} {s0 : Int32} : ip_WP 131 41 [some (.ref x0), some (.int x1)] [.int s0] (G, F, I, J) b post px ↔ if s0 = 0 then ip_WP 131 51 [some (.ref x0), some (.int x1)] [] (G, F, I, J) b post px else ip_WP 131 44 [some (.ref x0), some (.int x1)] [] (G, F, I, J) b post px := ip_s_if_eq f131_41 rfl
theorem f131_44 : ip_fetch 131 44 = some (.aload_n 0, 1) := by decide +kernel
theorem s131_44 {x0 : Nat} {x1 : Int32} : ip_WP 131 44 [some (.ref x0), some (.int x1)] [] (G, F, I, J) b post px ↔ ip_WP 131 45 [some (.ref x0), some (.int x1)] [.ref x0] (G, F, I, J) b post px := ip_nx_iff ((ip_st_of f131_44).trans rfl)
theorem f131_45 : ip_fetch 131 45 = some (.invokevirtual 57, 3) := by decide +kernel
set_option maxRecDepth 100000 in
theorem s131_45 {x0 : Nat} {x1 : Int32} {s0 : Nat} : ip_WP 131 45 [some (.ref x0), some (.int x1)] [.ref s0] (G, F, I, J) b post px ↔ (ip_isO G s0 5 = true ∧ ip_WP 134 0 [some (.ref s0), none, none] [] (G, F, I, J) (0, 0) (fun r h' => ip_WP 131 48 [some (.ref x0), some (.int x1)] (r.toList ++ []) h' b post px) (fun _ _ => False)) := ip_ck_iff (x := ip_cl 134 [some (.ref s0), none, none] [] (0, 0) b) ((ip_st_of f131_45).trans rfl) (ip_cl_iff)
theorem f131_48 : ip_fetch 131 48 = some (.goto 22, 3) := by decide +kernel
theorem s131_48 {x0 : Nat} {x1 : Int32} : ip_WP 131 48 [some (.ref x0), some (.int x1)] [] (G, F, I, J) b post px ↔ ip_WP 131 70 [some (.ref x0), some (.int x1)] [] (G, F, I, J) b post px := ip_nx_iff ((ip_st_of f131_48).trans rfl)
theorem f131_51 : ip_fetch 131 51 = some (.iload_n 1, 1) := by decide +kernel
theorem s131_51 {x0 : Nat} {x1 : Int32} : ip_WP 131 51 [some (.ref x0), some (.int x1)] [] (G, F, I, J) b post px ↔ ip_WP 131 52 [some (.ref x0), some (.int x1)] [.int x1] (G, F, I, J) b post px := ip_nx_iff ((ip_st_of f131_51).trans rfl)
theorem f131_52 : ip_fetch 131 52 = some (.invokestatic 60, 3) := by decide +kernel
set_option maxRecDepth 100000 in
theorem s131_52 {x0 : Nat} {x1 : Int32} {s0 : Int32} : ip_WP 131 52 [some (.ref x0), some (.int x1)] [.int s0] (G, F, I, J) b post px ↔ ip_WP 141 0 [some (.int s0)] [] (G, F, I, J) (0, 0) (fun r h' => ip_WP 131 55 [some (.ref x0), some (.int x1)] (r.toList ++ []) h' b post px) (fun _ _ => False) := ip_cl_iff ((ip_st_of f131_52).trans (rfl : _ = ip_cl 141 [some (.int s0)] [] (0, 0) b))
theorem f131_55 : ip_fetch 131 55 = some (.ifCond .eq 10, 3) := by decide +kernel
theorem s131_55 {x0 : Nat} {x1 : Int32} {s0 : Int32} : ip_WP 131 55 [some (.ref x0), some (.int x1)] [.int s0] (G, F, I, J) b post px ↔ if s0 = 0 then ip_WP 131 65 [some (.ref x0), some (.int x1)] [] (G, F, I, J) b post px else ip_WP 131 58 [some (.ref x0), some (.int x1)] [] (G, F, I, J) b post px := ip_s_if_eq f131_55 rfl
theorem f131_58 : ip_fetch 131 58 = some (.aload_n 0, 1) := by decide +kernel
theorem s131_58 {x0 : Nat} {x1 : Int32} : ip_WP 131 58 [some (.ref x0), some (.int x1)] [] (G, F, I, J) b post px ↔ ip_WP 131 59 [some (.ref x0), some (.int x1)] [.ref x0] (G, F, I, J) b post px := ip_nx_iff ((ip_st_of f131_58).trans rfl)
theorem f131_59 : ip_fetch 131 59 = some (.invokevirtual 63, 3) := by decide +kernel
set_option maxRecDepth 100000 in
theorem s131_59 {x0 : Nat} {x1 : Int32} {s0 : Nat} : ip_WP 131 59 [some (.ref x0), some (.int x1)] [.ref s0] (G, F, I, J) b post px ↔ (ip_isO G s0 5 = true ∧ ip_WP 135 0 [some (.ref s0)] [] (G, F, I, J) (0, 0) (fun r h' => ip_WP 131 62 [some (.ref x0), some (.int x1)] (r.toList ++ []) h' b post px) (fun _ _ => False)) := ip_ck_iff (x := ip_cl 135 [some (.ref s0)] [] (0, 0) b) ((ip_st_of f131_59).trans rfl) (ip_cl_iff)
theorem f131_62 : ip_fetch 131 62 = some (.goto 8, 3) := by decide +kernel
theorem s131_62 {x0 : Nat} {x1 : Int32} : ip_WP 131 62 [some (.ref x0), some (.int x1)] [] (G, F, I, J) b post px ↔ ip_WP 131 70 [some (.ref x0), some (.int x1)] [] (G, F, I, J) b post px := ip_nx_iff ((ip_st_of f131_62).trans rfl)
theorem f131_65 : ip_fetch 131 65 = some (.aload_n 0, 1) := by decide +kernel
theorem s131_65 {x0 : Nat} {x1 : Int32} : ip_WP 131 65 [some (.ref x0), some (.int x1)] [] (G, F, I, J) b post px ↔ ip_WP 131 66 [some (.ref x0), some (.int x1)] [.ref x0] (G, F, I, J) b post px := ip_nx_iff ((ip_st_of f131_65).trans rfl)
theorem f131_66 : ip_fetch 131 66 = some (.iload_n 1, 1) := by decide +kernel
theorem s131_66 {x0 : Nat} {x1 : Int32} {s0 : Nat} : ip_WP 131 66 [some (.ref x0), some (.int x1)] [.ref s0] (G, F, I, J) b post px ↔ ip_WP 131 67 [some (.ref x0), some (.int x1)] [.int x1, .ref s0] (G, F, I, J) b post px := ip_nx_iff ((ip_st_of f131_66).trans rfl)
theorem f131_67 : ip_fetch 131 67 = some (.invokevirtual 66, 3) := by decide +kernel
set_option maxRecDepth 100000 in
theorem s131_67 {x0 : Nat} {x1 : Int32} {s0 : Nat} {s1 : Int32} : ip_WP 131 67 [some (.ref x0), some (.int x1)] [.int s1, .ref s0] (G, F, I, J) b post px ↔ (ip_isO G s0 5 = true ∧ ip_WP 136 0 [some (.ref s0), some (.int s1)] [] (G, F, I, J) (0, 0) (fun r h' => ip_WP 131 70 [some (.ref x0), some (.int x1)] (r.toList ++ []) h' b post px) (fun _ _ => False)) := ip_ck_iff (x := ip_cl 136 [some (.ref s0), some (.int s1)] [] (0, 0) b) ((ip_st_of f131_67).trans rfl) (ip_cl_iff)
theorem f131_70 : ip_fetch 131 70 = some (.return_, 1) := by decide +kernel
theorem s131_70 {x0 : Nat} {x1 : Int32} : ip_WP 131 70 [some (.ref x0), some (.int x1)] [] (G, F, I, J) b post px ↔ post none (G, F, I, J) := ip_rt_iff ((ip_st_of f131_70).trans rfl)
theorem f132_0 : ip_fetch 132 0 = some (.iconst 0, 1) := by decide +kernel
theorem s132_0 {x0 : Nat} {x1 : Option Value} {x2 : Option Value} : ip_WP 132 0 [some (.ref x0), x1, x2] [] (G, F, I, J) b post px ↔ ip_WP 132 1 [some (.ref x0), x1, x2] [.int 0] (G, F, I, J) b post px := ip_s_iconst f132_0 (by decide)
theorem f132_1 : ip_fetch 132 1 = some (.istore_n 1, 1) := by decide +kernel
theorem s132_1 {x0 : Nat} {x1 : Option Value} {x2 : Option Value} {s0 : Int32} : ip_WP 132 1 [some (.ref x0), x1, x2] [.int s0] (G, F, I, J) b post px ↔ ip_WP 132 2 [some (.ref x0), some (.int s0), x2] [] (G, F, I, J) b post px := ip_nx_iff ((ip_st_of f132_1).trans rfl)
theorem f132_2 : ip_fetch 132 2 = some (.aload_n 0, 1) := by decide +kernel
theorem s132_2 {x0 : Nat} {x1 : Int32} {x2 : Option Value} : ip_WP 132 2 [some (.ref x0), some (.int x1), x2] [] (G, F, I, J) b post px ↔ ip_WP 132 3 [some (.ref x0), some (.int x1), x2] [.ref x0] (G, F, I, J) b post px := ip_nx_iff ((ip_st_of f132_2).trans rfl)
theorem f132_3 : ip_fetch 132 3 = some (.getfield 25, 3) := by decide +kernel
set_option maxRecDepth 100000 in
theorem s132_3 {x0 : Nat} {x1 : Int32} {x2 : Option Value} {s0 : Nat} : ip_WP 132 3 [some (.ref x0), some (.int x1), x2] [.ref s0] (G, F, I, J) b post px ↔ (ip_isO G s0 5 = true ∧ ip_WP 132 6 [some (.ref x0), some (.int x1), x2] [F s0 2] (G, F, I, J) b post px) := ip_s_getf f132_3 (by decide +kernel)
theorem f132_6 : ip_fetch 132 6 = some (.aload_n 0, 1) := by decide +kernel
theorem s132_6 {x0 : Nat} {x1 : Int32} {x2 : Option Value} {s0 : Int32} : ip_WP 132 6 [some (.ref x0), some (.int x1), x2] [.int s0] (G, F, I, J) b post px ↔ ip_WP 132 7 [some (.ref x0), some (.int x1), x2] [.ref x0, .int s0] (G, F, I, J) b post px := ip_nx_iff ((ip_st_of f132_6).trans rfl)
theorem f132_7 : ip_fetch 132 7 = some (.getfield 9, 3) := by decide +kernel
set_option maxRecDepth 100000 in
theorem s132_7 {x0 : Nat} {x1 : Int32} {x2 : Option Value} {s0 : Int32} {s1 : Nat} : ip_WP 132 7 [some (.ref x0), some (.int x1), x2] [.ref s1, .int s0] (G, F, I, J) b post px ↔ (ip_isO G s1 5 = true ∧ ip_WP 132 10 [some (.ref x0), some (.int x1), x2] [F s1 0, .int s0] (G, F, I, J) b post px) := ip_s_getf f132_7 (by decide +kernel)
theorem f132_10 : ip_fetch 132 10 = some (.invokevirtual 70, 3) := by decide +kernel
set_option maxRecDepth 100000 in
theorem s132_10 {x0 : Nat} {x1 : Int32} {x2 : Option Value} {s0 : Int32} {s1 : Nat} : ip_WP 132 10 [some (.ref x0), some (.int x1), x2] [.ref s1, .int s0] (G, F, I, J) b post px ↔ (ip_isO G s1 2 = true ∧ ip_WP 88 0 [some (.ref s1)] [] (G, F, I, J) (0, 0) (fun r h' => ip_WP 132 13 [some (.ref x0), some (.int x1), x2] (r.toList ++ [.int s0]) h' b post px) (fun _ _ => False)) := ip_ck_iff (x := ip_cl 88 [some (.ref s1)] [.int s0] (0, 0) b) ((ip_st_of f132_10).trans rfl) (ip_cl_iff)
theorem f132_13 : ip_fetch 132 13 = some (.if_icmp .ge 59, 3) := by decide +kernel
theorem s132_13 {x0 : Nat} {x1 : Int32} {x2 : Option Value} {s0 : Int32} {s1 : Int32} : ip_WP 132 13 [some (.ref x0), some (.int x1), x2] [.int s1, .int s0] (G, F, I, J) b post px ↔ if s1 ≤ s0 then ip_WP 132 72 [some (.ref x0), some (.int x1), x2] [] (G, F, I, J) b post px else ip_WP 132 16 [some (.ref x0), some (.int x1), x2] [] (G, F, I, J) b post px := ip_s_ic_ge f132_13 rfl
theorem f132_16 : ip_fetch 132 16 = some (.aload_n 0, 1) := by decide +kernel
theorem s132_16 {x0 : Nat} {x1 : Int32} {x2 : Option Value} : ip_WP 132 16 [some (.ref x0), some (.int x1), x2] [] (G, F, I, J) b post px ↔ ip_WP 132 17 [some (.ref x0), some (.int x1), x2] [.ref x0] (G, F, I, J) b post px := ip_nx_iff ((ip_st_of f132_16).trans rfl)
theorem f132_17 : ip_fetch 132 17 = some (.getfield 9, 3) := by decide +kernel
set_option maxRecDepth 100000 in
theorem s132_17 {x0 : Nat} {x1 : Int32} {x2 : Option Value} {s0 : Nat} : ip_WP 132 17 [some (.ref x0), some (.int x1), x2] [.ref s0] (G, F, I, J) b post px ↔ (ip_isO G s0 5 = true ∧ ip_WP 132 20 [some (.ref x0), some (.int x1), x2] [F s0 0] (G, F, I, J) b post px) := ip_s_getf f132_17 (by decide +kernel)
theorem f132_20 : ip_fetch 132 20 = some (.aload_n 0, 1) := by decide +kernel
theorem s132_20 {x0 : Nat} {x1 : Int32} {x2 : Option Value} {s0 : Nat} : ip_WP 132 20 [some (.ref x0), some (.int x1), x2] [.ref s0] (G, F, I, J) b post px ↔ ip_WP 132 21 [some (.ref x0), some (.int x1), x2] [.ref x0, .ref s0] (G, F, I, J) b post px := ip_nx_iff ((ip_st_of f132_20).trans rfl)
theorem f132_21 : ip_fetch 132 21 = some (.getfield 25, 3) := by decide +kernel
set_option maxRecDepth 100000 in
theorem s132_21 {x0 : Nat} {x1 : Int32} {x2 : Option Value} {s0 : Nat} {s1 : Nat} : ip_WP 132 21 [some (.ref x0), some (.int x1), x2] [.ref s1, .ref s0] (G, F, I, J) b post px ↔ (ip_isO G s1 5 = true ∧ ip_WP 132 24 [some (.ref x0), some (.int x1), x2] [F s1 2, .ref s0] (G, F, I, J) b post px) := ip_s_getf f132_21 (by decide +kernel)
theorem f132_24 : ip_fetch 132 24 = some (.invokevirtual 45, 3) := by decide +kernel
set_option maxRecDepth 100000 in
theorem s132_24 {x0 : Nat} {x1 : Int32} {x2 : Option Value} {s0 : Nat} {s1 : Int32} : ip_WP 132 24 [some (.ref x0), some (.int x1), x2] [.int s1, .ref s0] (G, F, I, J) b post px ↔ (ip_isO G s0 2 = true ∧ ip_WP 89 0 [some (.ref s0), some (.int s1)] [] (G, F, I, J) (0, 0) (fun r h' => ip_WP 132 27 [some (.ref x0), some (.int x1), x2] (r.toList ++ []) h' b post px) (fun _ _ => False)) := ip_ck_iff (x := ip_cl 89 [some (.ref s0), some (.int s1)] [] (0, 0) b) ((ip_st_of f132_24).trans rfl) (ip_cl_iff)
theorem f132_27 : ip_fetch 132 27 = some (.istore_n 2, 1) := by decide +kernel
theorem s132_27 {x0 : Nat} {x1 : Int32} {x2 : Option Value} {s0 : Int32} : ip_WP 132 27 [some (.ref x0), some (.int x1), x2] [.int s0] (G, F, I, J) b post px ↔ ip_WP 132 28 [some (.ref x0), some (.int x1), some (.int s0)] [] (G, F, I, J) b post px := ip_nx_iff ((ip_st_of f132_27).trans rfl)
theorem f132_28 : ip_fetch 132 28 = some (.iload_n 2, 1) := by decide +kernel
theorem s132_28 {x0 : Nat} {x1 : Int32} {x2 : Int32} : ip_WP 132 28 [some (.ref x0), some (.int x1), some (.int x2)] [] (G, F, I, J) b post px ↔ ip_WP 132 29 [some (.ref x0), some (.int x1), some (.int x2)] [.int x2] (G, F, I, J) b post px := ip_nx_iff ((ip_st_of f132_28).trans rfl)
theorem f132_29 : ip_fetch 132 29 = some (.bipush 35, 2) := by decide +kernel
theorem s132_29 {x0 : Nat} {x1 : Int32} {x2 : Int32} {s0 : Int32} : ip_WP 132 29 [some (.ref x0), some (.int x1), some (.int x2)] [.int s0] (G, F, I, J) b post px ↔ ip_WP 132 31 [some (.ref x0), some (.int x1), some (.int x2)] [.int 35, .int s0] (G, F, I, J) b post px := ip_s_bipush f132_29 (by decide)
theorem f132_31 : ip_fetch 132 31 = some (.if_icmp .ne 8, 3) := by decide +kernel
theorem s132_31 {x0 : Nat} {x1 : Int32} {x2 : Int32} {s0 : Int32} {s1 : Int32} : ip_WP 132 31 [some (.ref x0), some (.int x1), some (.int x2)] [.int s1, .int s0] (G, F, I, J) b post px ↔ if ¬ s0 = s1 then ip_WP 132 39 [some (.ref x0), some (.int x1), some (.int x2)] [] (G, F, I, J) b post px else ip_WP 132 34 [some (.ref x0), some (.int x1), some (.int x2)] [] (G, F, I, J) b post px := ip_s_ic_ne f132_31 rfl
theorem f132_34 : ip_fetch 132 34 = some (.iconst 1, 1) := by decide +kernel
theorem s132_34 {x0 : Nat} {x1 : Int32} {x2 : Int32} : ip_WP 132 34 [some (.ref x0), some (.int x1), some (.int x2)] [] (G, F, I, J) b post px ↔ ip_WP 132 35 [some (.ref x0), some (.int x1), some (.int x2)] [.int 1] (G, F, I, J) b post px := ip_s_iconst f132_34 (by decide)
theorem f132_35 : ip_fetch 132 35 = some (.istore_n 1, 1) := by decide +kernel
theorem s132_35 {x0 : Nat} {x1 : Int32} {x2 : Int32} {s0 : Int32} : ip_WP 132 35 [some (.ref x0), some (.int x1), some (.int x2)] [.int s0] (G, F, I, J) b post px ↔ ip_WP 132 36 [some (.ref x0), some (.int s0), some (.int x2)] [] (G, F, I, J) b post px := ip_nx_iff ((ip_st_of f132_35).trans rfl)
theorem f132_36 : ip_fetch 132 36 = some (.goto 11, 3) := by decide +kernel
theorem s132_36 {x0 : Nat} {x1 : Int32} {x2 : Int32} : ip_WP 132 36 [some (.ref x0), some (.int x1), some (.int x2)] [] (G, F, I, J) b post px ↔ ip_WP 132 47 [some (.ref x0), some (.int x1), some (.int x2)] [] (G, F, I, J) b post px := ip_nx_iff ((ip_st_of f132_36).trans rfl)
theorem f132_39 : ip_fetch 132 39 = some (.iload_n 2, 1) := by decide +kernel
theorem s132_39 {x0 : Nat} {x1 : Int32} {x2 : Int32} : ip_WP 132 39 [some (.ref x0), some (.int x1), some (.int x2)] [] (G, F, I, J) b post px ↔ ip_WP 132 40 [some (.ref x0), some (.int x1), some (.int x2)] [.int x2] (G, F, I, J) b post px := ip_nx_iff ((ip_st_of f132_39).trans rfl)
theorem f132_40 : ip_fetch 132 40 = some (.bipush 10, 2) := by decide +kernel
theorem s132_40 {x0 : Nat} {x1 : Int32} {x2 : Int32} {s0 : Int32} : ip_WP 132 40 [some (.ref x0), some (.int x1), some (.int x2)] [.int s0] (G, F, I, J) b post px ↔ ip_WP 132 42 [some (.ref x0), some (.int x1), some (.int x2)] [.int 10, .int s0] (G, F, I, J) b post px := ip_s_bipush f132_40 (by decide)
theorem f132_42 : ip_fetch 132 42 = some (.if_icmp .ne 5, 3) := by decide +kernel
theorem s132_42 {x0 : Nat} {x1 : Int32} {x2 : Int32} {s0 : Int32} {s1 : Int32} : ip_WP 132 42 [some (.ref x0), some (.int x1), some (.int x2)] [.int s1, .int s0] (G, F, I, J) b post px ↔ if ¬ s0 = s1 then ip_WP 132 47 [some (.ref x0), some (.int x1), some (.int x2)] [] (G, F, I, J) b post px else ip_WP 132 45 [some (.ref x0), some (.int x1), some (.int x2)] [] (G, F, I, J) b post px := ip_s_ic_ne f132_42 rfl
theorem f132_45 : ip_fetch 132 45 = some (.iconst 0, 1) := by decide +kernel
theorem s132_45 {x0 : Nat} {x1 : Int32} {x2 : Int32} : ip_WP 132 45 [some (.ref x0), some (.int x1), some (.int x2)] [] (G, F, I, J) b post px ↔ ip_WP 132 46 [some (.ref x0), some (.int x1), some (.int x2)] [.int 0] (G, F, I, J) b post px := ip_s_iconst f132_45 (by decide)
theorem f132_46 : ip_fetch 132 46 = some (.istore_n 1, 1) := by decide +kernel
theorem s132_46 {x0 : Nat} {x1 : Int32} {x2 : Int32} {s0 : Int32} : ip_WP 132 46 [some (.ref x0), some (.int x1), some (.int x2)] [.int s0] (G, F, I, J) b post px ↔ ip_WP 132 47 [some (.ref x0), some (.int s0), some (.int x2)] [] (G, F, I, J) b post px := ip_nx_iff ((ip_st_of f132_46).trans rfl)
theorem f132_47 : ip_fetch 132 47 = some (.iload_n 1, 1) := by decide +kernel
theorem s132_47 {x0 : Nat} {x1 : Int32} {x2 : Int32} : ip_WP 132 47 [some (.ref x0), some (.int x1), some (.int x2)] [] (G, F, I, J) b post px ↔ ip_WP 132 48 [some (.ref x0), some (.int x1), some (.int x2)] [.int x1] (G, F, I, J) b post px := ip_nx_iff ((ip_st_of f132_47).trans rfl)
theorem f132_48 : ip_fetch 132 48 = some (.ifCond .ne 11, 3) := by decide +kernel
theorem s132_48 {x0 : Nat} {x1 : Int32} {x2 : Int32} {s0 : Int32} : ip_WP 132 48 [some (.ref x0), some (.int x1), some (.int x2)] [.int s0] (G, F, I, J) b post px ↔ if ¬ s0 = 0 then ip_WP 132 59 [some (.ref x0), some (.int x1), some (.int x2)] [] (G, F, I, J) b post px else ip_WP 132 51 [some (.ref x0), some (.int x1), some (.int x2)] [] (G, F, I, J) b post px := ip_s_if_ne f132_48 rfl
theorem f132_51 : ip_fetch 132 51 = some (.iload_n 2, 1) := by decide +kernel
theorem s132_51 {x0 : Nat} {x1 : Int32} {x2 : Int32} : ip_WP 132 51 [some (.ref x0), some (.int x1), some (.int x2)] [] (G, F, I, J) b post px ↔ ip_WP 132 52 [some (.ref x0), some (.int x1), some (.int x2)] [.int x2] (G, F, I, J) b post px := ip_nx_iff ((ip_st_of f132_51).trans rfl)
theorem f132_52 : ip_fetch 132 52 = some (.invokestatic 74, 3) := by decide +kernel
set_option maxRecDepth 100000 in
theorem s132_52 {x0 : Nat} {x1 : Int32} {x2 : Int32} {s0 : Int32} : ip_WP 132 52 [some (.ref x0), some (.int x1), some (.int x2)] [.int s0] (G, F, I, J) b post px ↔ ip_WP 133 0 [some (.int s0)] [] (G, F, I, J) (0, 0) (fun r h' => ip_WP 132 55 [some (.ref x0), some (.int x1), some (.int x2)] (r.toList ++ []) h' b post px) (fun _ _ => False) := ip_cl_iff ((ip_st_of f132_52).trans (rfl : _ = ip_cl 133 [some (.int s0)] [] (0, 0) b))
theorem f132_55 : ip_fetch 132 55 = some (.ifCond .ne 4, 3) := by decide +kernel
theorem s132_55 {x0 : Nat} {x1 : Int32} {x2 : Int32} {s0 : Int32} : ip_WP 132 55 [some (.ref x0), some (.int x1), some (.int x2)] [.int s0] (G, F, I, J) b post px ↔ if ¬ s0 = 0 then ip_WP 132 59 [some (.ref x0), some (.int x1), some (.int x2)] [] (G, F, I, J) b post px else ip_WP 132 58 [some (.ref x0), some (.int x1), some (.int x2)] [] (G, F, I, J) b post px := ip_s_if_ne f132_55 rfl
theorem f132_58 : ip_fetch 132 58 = some (.return_, 1) := by decide +kernel
theorem s132_58 {x0 : Nat} {x1 : Int32} {x2 : Int32} : ip_WP 132 58 [some (.ref x0), some (.int x1), some (.int x2)] [] (G, F, I, J) b post px ↔ post none (G, F, I, J) := ip_rt_iff ((ip_st_of f132_58).trans rfl)
theorem f132_59 : ip_fetch 132 59 = some (.aload_n 0, 1) := by decide +kernel
theorem s132_59 {x0 : Nat} {x1 : Int32} {x2 : Int32} : ip_WP 132 59 [some (.ref x0), some (.int x1), some (.int x2)] [] (G, F, I, J) b post px ↔ ip_WP 132 60 [some (.ref x0), some (.int x1), some (.int x2)] [.ref x0] (G, F, I, J) b post px := ip_nx_iff ((ip_st_of f132_59).trans rfl)
theorem f132_60 : ip_fetch 132 60 = some (.dup, 1) := by decide +kernel
theorem s132_60 {x0 : Nat} {x1 : Int32} {x2 : Int32} {s0 : Nat} : ip_WP 132 60 [some (.ref x0), some (.int x1), some (.int x2)] [.ref s0] (G, F, I, J) b post px ↔ ip_WP 132 61 [some (.ref x0), some (.int x1), some (.int x2)] [.ref s0, .ref s0] (G, F, I, J) b post px := ip_nx_iff ((ip_st_of f132_60).trans rfl)
theorem f132_61 : ip_fetch 132 61 = some (.getfield 25, 3) := by decide +kernel
set_option maxRecDepth 100000 in
theorem s132_61 {x0 : Nat} {x1 : Int32} {x2 : Int32} {s0 : Nat} {s1 : Nat} : ip_WP 132 61 [some (.ref x0), some (.int x1), some (.int x2)] [.ref s1, .ref s0] (G, F, I, J) b post px ↔ (ip_isO G s1 5 = true ∧ ip_WP 132 64 [some (.ref x0), some (.int x1), some (.int x2)] [F s1 2, .ref s0] (G, F, I, J) b post px) := ip_s_getf f132_61 (by decide +kernel)
theorem f132_64 : ip_fetch 132 64 = some (.iconst 1, 1) := by decide +kernel
theorem s132_64 {x0 : Nat} {x1 : Int32} {x2 : Int32} {s0 : Nat} {s1 : Int32} : ip_WP 132 64 [some (.ref x0), some (.int x1), some (.int x2)] [.int s1, .ref s0] (G, F, I, J) b post px ↔ ip_WP 132 65 [some (.ref x0), some (.int x1), some (.int x2)] [.int 1, .int s1, .ref s0] (G, F, I, J) b post px := ip_s_iconst f132_64 (by decide)
theorem f132_65 : ip_fetch 132 65 = some (.iadd, 1) := by decide +kernel
theorem s132_65 {x0 : Nat} {x1 : Int32} {x2 : Int32} {s0 : Nat} {s1 : Int32} {s2 : Int32} : ip_WP 132 65 [some (.ref x0), some (.int x1), some (.int x2)] [.int s2, .int s1, .ref s0] (G, F, I, J) b post px ↔ ip_WP 132 66 [some (.ref x0), some (.int x1), some (.int x2)] [.int (s1 + s2), .ref s0] (G, F, I, J) b post px := ip_nx_iff ((ip_st_of f132_65).trans rfl)
theorem f132_66 : ip_fetch 132 66 = some (.putfield 25, 3) := by decide +kernel
set_option maxRecDepth 100000 in
theorem s132_66 {x0 : Nat} {x1 : Int32} {x2 : Int32} {s0 : Nat} {s1 : Int32} : ip_WP 132 66 [some (.ref x0), some (.int x1), some (.int x2)] [.int s1, .ref s0] (G, F, I, J) b post px ↔ (ip_isO G s0 5 = true ∧ ip_WP 132 69 [some (.ref x0), some (.int x1), some (.int x2)] [] (G, ip_up F s0 2 (.int s1), I, J) b post px) := ip_s_put f132_66 (by decide +kernel) rfl
theorem f132_69 : ip_fetch 132 69 = some (.goto (-67), 3) := by decide +kernel
theorem s132_69 {x0 : Nat} {x1 : Int32} {x2 : Int32} : ip_WP 132 69 [some (.ref x0), some (.int x1), some (.int x2)] [] (G, F, I, J) b post px ↔ ip_WP 132 2 [some (.ref x0), some (.int x1), some (.int x2)] [] (G, F, I, J) b post px := ip_nx_iff ((ip_st_of f132_69).trans rfl)
theorem f132_72 : ip_fetch 132 72 = some (.return_, 1) := by decide +kernel
theorem s132_72 {x0 : Nat} {x1 : Int32} {x2 : Option Value} : ip_WP 132 72 [some (.ref x0), some (.int x1), x2] [] (G, F, I, J) b post px ↔ post none (G, F, I, J) := ip_rt_iff ((ip_st_of f132_72).trans rfl)
theorem f133_0 : ip_fetch 133 0 = some (.iload_n 0, 1) := by decide +kernel
theorem s133_0 {x0 : Int32} : ip_WP 133 0 [some (.int x0)] [] (G, F, I, J) b post px ↔ ip_WP 133 1 [some (.int x0)] [.int x0] (G, F, I, J) b post px := ip_nx_iff ((ip_st_of f133_0).trans rfl)
theorem f133_1 : ip_fetch 133 1 = some (.bipush 9, 2) := by decide +kernel
theorem s133_1 {x0 : Int32} {s0 : Int32} : ip_WP 133 1 [some (.int x0)] [.int s0] (G, F, I, J) b post px ↔ ip_WP 133 3 [some (.int x0)] [.int 9, .int s0] (G, F, I, J) b post px := ip_s_bipush f133_1 (by decide)
theorem f133_3 : ip_fetch 133 3 = some (.if_icmp .eq 21, 3) := by decide +kernel
theorem s133_3 {x0 : Int32} {s0 : Int32} {s1 : Int32} : ip_WP 133 3 [some (.int x0)] [.int s1, .int s0] (G, F, I, J) b post px ↔ if s0 = s1 then ip_WP 133 24 [some (.int x0)] [] (G, F, I, J) b post px else ip_WP 133 6 [some (.int x0)] [] (G, F, I, J) b post px := ip_s_ic_eq f133_3 rfl
theorem f133_6 : ip_fetch 133 6 = some (.iload_n 0, 1) := by decide +kernel
theorem s133_6 {x0 : Int32} : ip_WP 133 6 [some (.int x0)] [] (G, F, I, J) b post px ↔ ip_WP 133 7 [some (.int x0)] [.int x0] (G, F, I, J) b post px := ip_nx_iff ((ip_st_of f133_6).trans rfl)
theorem f133_7 : ip_fetch 133 7 = some (.bipush 10, 2) := by decide +kernel
theorem s133_7 {x0 : Int32} {s0 : Int32} : ip_WP 133 7 [some (.int x0)] [.int s0] (G, F, I, J) b post px ↔ ip_WP 133 9 [some (.int x0)] [.int 10, .int s0] (G, F, I, J) b post px := ip_s_bipush f133_7 (by decide)
theorem f133_9 : ip_fetch 133 9 = some (.if_icmp .eq 15, 3) := by decide +kernel
theorem s133_9 {x0 : Int32} {s0 : Int32} {s1 : Int32} : ip_WP 133 9 [some (.int x0)] [.int s1, .int s0] (G, F, I, J) b post px ↔ if s0 = s1 then ip_WP 133 24 [some (.int x0)] [] (G, F, I, J) b post px else ip_WP 133 12 [some (.int x0)] [] (G, F, I, J) b post px := ip_s_ic_eq f133_9 rfl
theorem f133_12 : ip_fetch 133 12 = some (.iload_n 0, 1) := by decide +kernel
theorem s133_12 {x0 : Int32} : ip_WP 133 12 [some (.int x0)] [] (G, F, I, J) b post px ↔ ip_WP 133 13 [some (.int x0)] [.int x0] (G, F, I, J) b post px := ip_nx_iff ((ip_st_of f133_12).trans rfl)
theorem f133_13 : ip_fetch 133 13 = some (.bipush 13, 2) := by decide +kernel
theorem s133_13 {x0 : Int32} {s0 : Int32} : ip_WP 133 13 [some (.int x0)] [.int s0] (G, F, I, J) b post px ↔ ip_WP 133 15 [some (.int x0)] [.int 13, .int s0] (G, F, I, J) b post px := ip_s_bipush f133_13 (by decide)
theorem f133_15 : ip_fetch 133 15 = some (.if_icmp .eq 9, 3) := by decide +kernel
theorem s133_15 {x0 : Int32} {s0 : Int32} {s1 : Int32} : ip_WP 133 15 [some (.int x0)] [.int s1, .int s0] (G, F, I, J) b post px ↔ if s0 = s1 then ip_WP 133 24 [some (.int x0)] [] (G, F, I, J) b post px else ip_WP 133 18 [some (.int x0)] [] (G, F, I, J) b post px := ip_s_ic_eq f133_15 rfl
theorem f133_18 : ip_fetch 133 18 = some (.iload_n 0, 1) := by decide +kernel
theorem s133_18 {x0 : Int32} : ip_WP 133 18 [some (.int x0)] [] (G, F, I, J) b post px ↔ ip_WP 133 19 [some (.int x0)] [.int x0] (G, F, I, J) b post px := ip_nx_iff ((ip_st_of f133_18).trans rfl)
theorem f133_19 : ip_fetch 133 19 = some (.bipush 32, 2) := by decide +kernel
theorem s133_19 {x0 : Int32} {s0 : Int32} : ip_WP 133 19 [some (.int x0)] [.int s0] (G, F, I, J) b post px ↔ ip_WP 133 21 [some (.int x0)] [.int 32, .int s0] (G, F, I, J) b post px := ip_s_bipush f133_19 (by decide)
theorem f133_21 : ip_fetch 133 21 = some (.if_icmp .ne 7, 3) := by decide +kernel
theorem s133_21 {x0 : Int32} {s0 : Int32} {s1 : Int32} : ip_WP 133 21 [some (.int x0)] [.int s1, .int s0] (G, F, I, J) b post px ↔ if ¬ s0 = s1 then ip_WP 133 28 [some (.int x0)] [] (G, F, I, J) b post px else ip_WP 133 24 [some (.int x0)] [] (G, F, I, J) b post px := ip_s_ic_ne f133_21 rfl
theorem f133_24 : ip_fetch 133 24 = some (.iconst 1, 1) := by decide +kernel
theorem s133_24 {x0 : Int32} : ip_WP 133 24 [some (.int x0)] [] (G, F, I, J) b post px ↔ ip_WP 133 25 [some (.int x0)] [.int 1] (G, F, I, J) b post px := ip_s_iconst f133_24 (by decide)
theorem f133_25 : ip_fetch 133 25 = some (.goto 4, 3) := by decide +kernel
theorem s133_25 {x0 : Int32} {s0 : Int32} : ip_WP 133 25 [some (.int x0)] [.int s0] (G, F, I, J) b post px ↔ ip_WP 133 29 [some (.int x0)] [.int s0] (G, F, I, J) b post px := ip_nx_iff ((ip_st_of f133_25).trans rfl)
theorem f133_28 : ip_fetch 133 28 = some (.iconst 0, 1) := by decide +kernel
theorem s133_28 {x0 : Int32} : ip_WP 133 28 [some (.int x0)] [] (G, F, I, J) b post px ↔ ip_WP 133 29 [some (.int x0)] [.int 0] (G, F, I, J) b post px := ip_s_iconst f133_28 (by decide)
theorem f133_29 : ip_fetch 133 29 = some (.ireturn, 1) := by decide +kernel
theorem s133_29 {x0 : Int32} {s0 : Int32} : ip_WP 133 29 [some (.int x0)] [.int s0] (G, F, I, J) b post px ↔ ((s0 = 0 ∨ s0 = 1) ∧ post (some (.int s0)) (G, F, I, J)) := ip_s_zret ((ip_st_of f133_29).trans rfl)
theorem f134_0 : ip_fetch 134 0 = some (.aload_n 0, 1) := by decide +kernel
theorem s134_0 {x0 : Nat} {x1 : Option Value} {x2 : Option Value} : ip_WP 134 0 [some (.ref x0), x1, x2] [] (G, F, I, J) b post px ↔ ip_WP 134 1 [some (.ref x0), x1, x2] [.ref x0] (G, F, I, J) b post px := ip_nx_iff ((ip_st_of f134_0).trans rfl)
theorem f134_1 : ip_fetch 134 1 = some (.lconst 0, 1) := by decide +kernel
theorem s134_1 {x0 : Nat} {x1 : Option Value} {x2 : Option Value} {s0 : Nat} : ip_WP 134 1 [some (.ref x0), x1, x2] [.ref s0] (G, F, I, J) b post px ↔ ip_WP 134 2 [some (.ref x0), x1, x2] [.long 0, .ref s0] (G, F, I, J) b post px := ip_s_lconst f134_1 (by decide)
theorem f134_2 : ip_fetch 134 2 = some (.putfield 35, 3) := by decide +kernel
set_option maxRecDepth 100000 in
theorem s134_2 {x0 : Nat} {x1 : Option Value} {x2 : Option Value} {s0 : Nat} {s1 : Int64} : ip_WP 134 2 [some (.ref x0), x1, x2] [.long s1, .ref s0] (G, F, I, J) b post px ↔ (ip_isO G s0 5 = true ∧ ip_WP 134 5 [some (.ref x0), x1, x2] [] (G, ip_up F s0 5 (.long s1), I, J) b post px) := ip_s_put f134_2 (by decide +kernel) rfl
theorem f134_5 : ip_fetch 134 5 = some (.aload_n 0, 1) := by decide +kernel
theorem s134_5 {x0 : Nat} {x1 : Option Value} {x2 : Option Value} : ip_WP 134 5 [some (.ref x0), x1, x2] [] (G, F, I, J) b post px ↔ ip_WP 134 6 [some (.ref x0), x1, x2] [.ref x0] (G, F, I, J) b post px := ip_nx_iff ((ip_st_of f134_5).trans rfl)
theorem f134_6 : ip_fetch 134 6 = some (.getfield 9, 3) := by decide +kernel
set_option maxRecDepth 100000 in
theorem s134_6 {x0 : Nat} {x1 : Option Value} {x2 : Option Value} {s0 : Nat} : ip_WP 134 6 [some (.ref x0), x1, x2] [.ref s0] (G, F, I, J) b post px ↔ (ip_isO G s0 5 = true ∧ ip_WP 134 9 [some (.ref x0), x1, x2] [F s0 0] (G, F, I, J) b post px) := ip_s_getf f134_6 (by decide +kernel)
theorem f134_9 : ip_fetch 134 9 = some (.aload_n 0, 1) := by decide +kernel
theorem s134_9 {x0 : Nat} {x1 : Option Value} {x2 : Option Value} {s0 : Nat} : ip_WP 134 9 [some (.ref x0), x1, x2] [.ref s0] (G, F, I, J) b post px ↔ ip_WP 134 10 [some (.ref x0), x1, x2] [.ref x0, .ref s0] (G, F, I, J) b post px := ip_nx_iff ((ip_st_of f134_9).trans rfl)
theorem f134_10 : ip_fetch 134 10 = some (.getfield 25, 3) := by decide +kernel
set_option maxRecDepth 100000 in
theorem s134_10 {x0 : Nat} {x1 : Option Value} {x2 : Option Value} {s0 : Nat} {s1 : Nat} : ip_WP 134 10 [some (.ref x0), x1, x2] [.ref s1, .ref s0] (G, F, I, J) b post px ↔ (ip_isO G s1 5 = true ∧ ip_WP 134 13 [some (.ref x0), x1, x2] [F s1 2, .ref s0] (G, F, I, J) b post px) := ip_s_getf f134_10 (by decide +kernel)
theorem f134_13 : ip_fetch 134 13 = some (.invokevirtual 45, 3) := by decide +kernel
set_option maxRecDepth 100000 in
theorem s134_13 {x0 : Nat} {x1 : Option Value} {x2 : Option Value} {s0 : Nat} {s1 : Int32} : ip_WP 134 13 [some (.ref x0), x1, x2] [.int s1, .ref s0] (G, F, I, J) b post px ↔ (ip_isO G s0 2 = true ∧ ip_WP 89 0 [some (.ref s0), some (.int s1)] [] (G, F, I, J) (0, 0) (fun r h' => ip_WP 134 16 [some (.ref x0), x1, x2] (r.toList ++ []) h' b post px) (fun _ _ => False)) := ip_ck_iff (x := ip_cl 89 [some (.ref s0), some (.int s1)] [] (0, 0) b) ((ip_st_of f134_13).trans rfl) (ip_cl_iff)
theorem f134_16 : ip_fetch 134 16 = some (.invokestatic 77, 3) := by decide +kernel
set_option maxRecDepth 100000 in
theorem s134_16 {x0 : Nat} {x1 : Option Value} {x2 : Option Value} {s0 : Int32} : ip_WP 134 16 [some (.ref x0), x1, x2] [.int s0] (G, F, I, J) b post px ↔ ip_WP 138 0 [some (.int s0)] [] (G, F, I, J) (0, 0) (fun r h' => ip_WP 134 19 [some (.ref x0), x1, x2] (r.toList ++ []) h' b post px) (fun _ _ => False) := ip_cl_iff ((ip_st_of f134_16).trans (rfl : _ = ip_cl 138 [some (.int s0)] [] (0, 0) b))
theorem f134_19 : ip_fetch 134 19 = some (.istore_n 1, 1) := by decide +kernel
theorem s134_19 {x0 : Nat} {x1 : Option Value} {x2 : Option Value} {s0 : Int32} : ip_WP 134 19 [some (.ref x0), x1, x2] [.int s0] (G, F, I, J) b post px ↔ ip_WP 134 20 [some (.ref x0), some (.int s0), x2] [] (G, F, I, J) b post px := ip_nx_iff ((ip_st_of f134_19).trans rfl)
theorem f134_20 : ip_fetch 134 20 = some (.aload_n 0, 1) := by decide +kernel
theorem s134_20 {x0 : Nat} {x1 : Int32} {x2 : Option Value} : ip_WP 134 20 [some (.ref x0), some (.int x1), x2] [] (G, F, I, J) b post px ↔ ip_WP 134 21 [some (.ref x0), some (.int x1), x2] [.ref x0] (G, F, I, J) b post px := ip_nx_iff ((ip_st_of f134_20).trans rfl)
theorem f134_21 : ip_fetch 134 21 = some (.getfield 25, 3) := by decide +kernel
set_option maxRecDepth 100000 in
theorem s134_21 {x0 : Nat} {x1 : Int32} {x2 : Option Value} {s0 : Nat} : ip_WP 134 21 [some (.ref x0), some (.int x1), x2] [.ref s0] (G, F, I, J) b post px ↔ (ip_isO G s0 5 = true ∧ ip_WP 134 24 [some (.ref x0), some (.int x1), x2] [F s0 2] (G, F, I, J) b post px) := ip_s_getf f134_21 (by decide +kernel)
theorem f134_24 : ip_fetch 134 24 = some (.aload_n 0, 1) := by decide +kernel
theorem s134_24 {x0 : Nat} {x1 : Int32} {x2 : Option Value} {s0 : Int32} : ip_WP 134 24 [some (.ref x0), some (.int x1), x2] [.int s0] (G, F, I, J) b post px ↔ ip_WP 134 25 [some (.ref x0), some (.int x1), x2] [.ref x0, .int s0] (G, F, I, J) b post px := ip_nx_iff ((ip_st_of f134_24).trans rfl)
theorem f134_25 : ip_fetch 134 25 = some (.getfield 9, 3) := by decide +kernel
set_option maxRecDepth 100000 in
theorem s134_25 {x0 : Nat} {x1 : Int32} {x2 : Option Value} {s0 : Int32} {s1 : Nat} : ip_WP 134 25 [some (.ref x0), some (.int x1), x2] [.ref s1, .int s0] (G, F, I, J) b post px ↔ (ip_isO G s1 5 = true ∧ ip_WP 134 28 [some (.ref x0), some (.int x1), x2] [F s1 0, .int s0] (G, F, I, J) b post px) := ip_s_getf f134_25 (by decide +kernel)
theorem f134_28 : ip_fetch 134 28 = some (.invokevirtual 70, 3) := by decide +kernel
set_option maxRecDepth 100000 in
theorem s134_28 {x0 : Nat} {x1 : Int32} {x2 : Option Value} {s0 : Int32} {s1 : Nat} : ip_WP 134 28 [some (.ref x0), some (.int x1), x2] [.ref s1, .int s0] (G, F, I, J) b post px ↔ (ip_isO G s1 2 = true ∧ ip_WP 88 0 [some (.ref s1)] [] (G, F, I, J) (0, 0) (fun r h' => ip_WP 134 31 [some (.ref x0), some (.int x1), x2] (r.toList ++ [.int s0]) h' b post px) (fun _ _ => False)) := ip_ck_iff (x := ip_cl 88 [some (.ref s1)] [.int s0] (0, 0) b) ((ip_st_of f134_28).trans rfl) (ip_cl_iff)
theorem f134_31 : ip_fetch 134 31 = some (.if_icmp .ge 52, 3) := by decide +kernel
theorem s134_31 {x0 : Nat} {x1 : Int32} {x2 : Option Value} {s0 : Int32} {s1 : Int32} : ip_WP 134 31 [some (.ref x0), some (.int x1), x2] [.int s1, .int s0] (G, F, I, J) b post px ↔ if s1 ≤ s0 then ip_WP 134 83 [some (.ref x0), some (.int x1), x2] [] (G, F, I, J) b post px else ip_WP 134 34 [some (.ref x0), some (.int x1), x2] [] (G, F, I, J) b post px := ip_s_ic_ge f134_31 rfl
theorem f134_34 : ip_fetch 134 34 = some (.iload_n 1, 1) := by decide +kernel
theorem s134_34 {x0 : Nat} {x1 : Int32} {x2 : Option Value} : ip_WP 134 34 [some (.ref x0), some (.int x1), x2] [] (G, F, I, J) b post px ↔ ip_WP 134 35 [some (.ref x0), some (.int x1), x2] [.int x1] (G, F, I, J) b post px := ip_nx_iff ((ip_st_of f134_34).trans rfl)
theorem f134_35 : ip_fetch 134 35 = some (.ifCond .le 48, 3) := by decide +kernel
theorem s134_35 {x0 : Nat} {x1 : Int32} {x2 : Option Value} {s0 : Int32} : ip_WP 134 35 [some (.ref x0), some (.int x1), x2] [.int s0] (G, F, I, J) b post px ↔ if s0 ≤ 0 then ip_WP 134 83 [some (.ref x0), some (.int x1), x2] [] (G, F, I, J) b post px else ip_WP 134 38 [some (.ref x0), some (.int x1), x2] [] (G, F, I, J) b post px := ip_s_if_le f134_35 rfl
theorem f134_38 : ip_fetch 134 38 = some (.aload_n 0, 1) := by decide +kernel
theorem s134_38 {x0 : Nat} {x1 : Int32} {x2 : Option Value} : ip_WP 134 38 [some (.ref x0), some (.int x1), x2] [] (G, F, I, J) b post px ↔ ip_WP 134 39 [some (.ref x0), some (.int x1), x2] [.ref x0] (G, F, I, J) b post px := ip_nx_iff ((ip_st_of f134_38).trans rfl)
theorem f134_39 : ip_fetch 134 39 = some (.aload_n 0, 1) := by decide +kernel
theorem s134_39 {x0 : Nat} {x1 : Int32} {x2 : Option Value} {s0 : Nat} : ip_WP 134 39 [some (.ref x0), some (.int x1), x2] [.ref s0] (G, F, I, J) b post px ↔ ip_WP 134 40 [some (.ref x0), some (.int x1), x2] [.ref x0, .ref s0] (G, F, I, J) b post px := ip_nx_iff ((ip_st_of f134_39).trans rfl)
theorem f134_40 : ip_fetch 134 40 = some (.getfield 35, 3) := by decide +kernel
set_option maxRecDepth 100000 in
theorem s134_40 {x0 : Nat} {x1 : Int32} {x2 : Option Value} {s0 : Nat} {s1 : Nat} : ip_WP 134 40 [some (.ref x0), some (.int x1), x2] [.ref s1, .ref s0] (G, F, I, J) b post px ↔ (ip_isO G s1 5 = true ∧ ip_WP 134 43 [some (.ref x0), some (.int x1), x2] [F s1 5, .ref s0] (G, F, I, J) b post px) := ip_s_getf f134_40 (by decide +kernel)
theorem f134_43 : ip_fetch 134 43 = some (.ldc2_w 80, 3) := by decide +kernel
set_option maxRecDepth 100000 in
theorem s134_43 {x0 : Nat} {x1 : Int32} {x2 : Option Value} {s0 : Nat} {s1 : Int64} : ip_WP 134 43 [some (.ref x0), some (.int x1), x2] [.long s1, .ref s0] (G, F, I, J) b post px ↔ ip_WP 134 46 [some (.ref x0), some (.int x1), x2] [.long 37, .long s1, .ref s0] (G, F, I, J) b post px := ip_nx_iff ((ip_st_of f134_43).trans rfl)
theorem f134_46 : ip_fetch 134 46 = some (.lmul, 1) := by decide +kernel
theorem s134_46 {x0 : Nat} {x1 : Int32} {x2 : Option Value} {s0 : Nat} {s1 : Int64} {s2 : Int64} : ip_WP 134 46 [some (.ref x0), some (.int x1), x2] [.long s2, .long s1, .ref s0] (G, F, I, J) b post px ↔ ip_WP 134 47 [some (.ref x0), some (.int x1), x2] [.long (s1 * s2), .ref s0] (G, F, I, J) b post px := ip_nx_iff ((ip_st_of f134_46).trans rfl)
theorem f134_47 : ip_fetch 134 47 = some (.iload_n 1, 1) := by decide +kernel
theorem s134_47 {x0 : Nat} {x1 : Int32} {x2 : Option Value} {s0 : Nat} {s1 : Int64} : ip_WP 134 47 [some (.ref x0), some (.int x1), x2] [.long s1, .ref s0] (G, F, I, J) b post px ↔ ip_WP 134 48 [some (.ref x0), some (.int x1), x2] [.int x1, .long s1, .ref s0] (G, F, I, J) b post px := ip_nx_iff ((ip_st_of f134_47).trans rfl)
theorem f134_48 : ip_fetch 134 48 = some (.i2l, 1) := by decide +kernel
theorem s134_48 {x0 : Nat} {x1 : Int32} {x2 : Option Value} {s0 : Nat} {s1 : Int64} {s2 : Int32} : ip_WP 134 48 [some (.ref x0), some (.int x1), x2] [.int s2, .long s1, .ref s0] (G, F, I, J) b post px ↔ ip_WP 134 49 [some (.ref x0), some (.int x1), x2] [.long s2.toInt64, .long s1, .ref s0] (G, F, I, J) b post px := ip_nx_iff ((ip_st_of f134_48).trans rfl)
theorem f134_49 : ip_fetch 134 49 = some (.ladd, 1) := by decide +kernel
theorem s134_49 {x0 : Nat} {x1 : Int32} {x2 : Option Value} {s0 : Nat} {s1 : Int64} {s2 : Int64} : ip_WP 134 49 [some (.ref x0), some (.int x1), x2] [.long s2, .long s1, .ref s0] (G, F, I, J) b post px ↔ ip_WP 134 50 [some (.ref x0), some (.int x1), x2] [.long (s1 + s2), .ref s0] (G, F, I, J) b post px := ip_nx_iff ((ip_st_of f134_49).trans rfl)
theorem f134_50 : ip_fetch 134 50 = some (.putfield 35, 3) := by decide +kernel
set_option maxRecDepth 100000 in
theorem s134_50 {x0 : Nat} {x1 : Int32} {x2 : Option Value} {s0 : Nat} {s1 : Int64} : ip_WP 134 50 [some (.ref x0), some (.int x1), x2] [.long s1, .ref s0] (G, F, I, J) b post px ↔ (ip_isO G s0 5 = true ∧ ip_WP 134 53 [some (.ref x0), some (.int x1), x2] [] (G, ip_up F s0 5 (.long s1), I, J) b post px) := ip_s_put f134_50 (by decide +kernel) rfl
theorem f134_53 : ip_fetch 134 53 = some (.aload_n 0, 1) := by decide +kernel
theorem s134_53 {x0 : Nat} {x1 : Int32} {x2 : Option Value} : ip_WP 134 53 [some (.ref x0), some (.int x1), x2] [] (G, F, I, J) b post px ↔ ip_WP 134 54 [some (.ref x0), some (.int x1), x2] [.ref x0] (G, F, I, J) b post px := ip_nx_iff ((ip_st_of f134_53).trans rfl)
theorem f134_54 : ip_fetch 134 54 = some (.getfield 9, 3) := by decide +kernel
set_option maxRecDepth 100000 in
theorem s134_54 {x0 : Nat} {x1 : Int32} {x2 : Option Value} {s0 : Nat} : ip_WP 134 54 [some (.ref x0), some (.int x1), x2] [.ref s0] (G, F, I, J) b post px ↔ (ip_isO G s0 5 = true ∧ ip_WP 134 57 [some (.ref x0), some (.int x1), x2] [F s0 0] (G, F, I, J) b post px) := ip_s_getf f134_54 (by decide +kernel)
theorem f134_57 : ip_fetch 134 57 = some (.aload_n 0, 1) := by decide +kernel
theorem s134_57 {x0 : Nat} {x1 : Int32} {x2 : Option Value} {s0 : Nat} : ip_WP 134 57 [some (.ref x0), some (.int x1), x2] [.ref s0] (G, F, I, J) b post px ↔ ip_WP 134 58 [some (.ref x0), some (.int x1), x2] [.ref x0, .ref s0] (G, F, I, J) b post px := ip_nx_iff ((ip_st_of f134_57).trans rfl)
theorem f134_58 : ip_fetch 134 58 = some (.getfield 25, 3) := by decide +kernel
set_option maxRecDepth 100000 in
theorem s134_58 {x0 : Nat} {x1 : Int32} {x2 : Option Value} {s0 : Nat} {s1 : Nat} : ip_WP 134 58 [some (.ref x0), some (.int x1), x2] [.ref s1, .ref s0] (G, F, I, J) b post px ↔ (ip_isO G s1 5 = true ∧ ip_WP 134 61 [some (.ref x0), some (.int x1), x2] [F s1 2, .ref s0] (G, F, I, J) b post px) := ip_s_getf f134_58 (by decide +kernel)
theorem f134_61 : ip_fetch 134 61 = some (.iconst 1, 1) := by decide +kernel
theorem s134_61 {x0 : Nat} {x1 : Int32} {x2 : Option Value} {s0 : Nat} {s1 : Int32} : ip_WP 134 61 [some (.ref x0), some (.int x1), x2] [.int s1, .ref s0] (G, F, I, J) b post px ↔ ip_WP 134 62 [some (.ref x0), some (.int x1), x2] [.int 1, .int s1, .ref s0] (G, F, I, J) b post px := ip_s_iconst f134_61 (by decide)
theorem f134_62 : ip_fetch 134 62 = some (.iadd, 1) := by decide +kernel
theorem s134_62 {x0 : Nat} {x1 : Int32} {x2 : Option Value} {s0 : Nat} {s1 : Int32} {s2 : Int32} : ip_WP 134 62 [some (.ref x0), some (.int x1), x2] [.int s2, .int s1, .ref s0] (G, F, I, J) b post px ↔ ip_WP 134 63 [some (.ref x0), some (.int x1), x2] [.int (s1 + s2), .ref s0] (G, F, I, J) b post px := ip_nx_iff ((ip_st_of f134_62).trans rfl)
theorem f134_63 : ip_fetch 134 63 = some (.invokevirtual 45, 3) := by decide +kernel
set_option maxRecDepth 100000 in
theorem s134_63 {x0 : Nat} {x1 : Int32} {x2 : Option Value} {s0 : Nat} {s1 : Int32} : ip_WP 134 63 [some (.ref x0), some (.int x1), x2] [.int s1, .ref s0] (G, F, I, J) b post px ↔ (ip_isO G s0 2 = true ∧ ip_WP 89 0 [some (.ref s0), some (.int s1)] [] (G, F, I, J) (0, 0) (fun r h' => ip_WP 134 66 [some (.ref x0), some (.int x1), x2] (r.toList ++ []) h' b post px) (fun _ _ => False)) := ip_ck_iff (x := ip_cl 89 [some (.ref s0), some (.int s1)] [] (0, 0) b) ((ip_st_of f134_63).trans rfl) (ip_cl_iff)
theorem f134_66 : ip_fetch 134 66 = some (.invokestatic 77, 3) := by decide +kernel
set_option maxRecDepth 100000 in
theorem s134_66 {x0 : Nat} {x1 : Int32} {x2 : Option Value} {s0 : Int32} : ip_WP 134 66 [some (.ref x0), some (.int x1), x2] [.int s0] (G, F, I, J) b post px ↔ ip_WP 138 0 [some (.int s0)] [] (G, F, I, J) (0, 0) (fun r h' => ip_WP 134 69 [some (.ref x0), some (.int x1), x2] (r.toList ++ []) h' b post px) (fun _ _ => False) := ip_cl_iff ((ip_st_of f134_66).trans (rfl : _ = ip_cl 138 [some (.int s0)] [] (0, 0) b))
theorem f134_69 : ip_fetch 134 69 = some (.istore_n 1, 1) := by decide +kernel
theorem s134_69 {x0 : Nat} {x1 : Int32} {x2 : Option Value} {s0 : Int32} : ip_WP 134 69 [some (.ref x0), some (.int x1), x2] [.int s0] (G, F, I, J) b post px ↔ ip_WP 134 70 [some (.ref x0), some (.int s0), x2] [] (G, F, I, J) b post px := ip_nx_iff ((ip_st_of f134_69).trans rfl)
theorem f134_70 : ip_fetch 134 70 = some (.aload_n 0, 1) := by decide +kernel
theorem s134_70 {x0 : Nat} {x1 : Int32} {x2 : Option Value} : ip_WP 134 70 [some (.ref x0), some (.int x1), x2] [] (G, F, I, J) b post px ↔ ip_WP 134 71 [some (.ref x0), some (.int x1), x2] [.ref x0] (G, F, I, J) b post px := ip_nx_iff ((ip_st_of f134_70).trans rfl)
theorem f134_71 : ip_fetch 134 71 = some (.dup, 1) := by decide +kernel
theorem s134_71 {x0 : Nat} {x1 : Int32} {x2 : Option Value} {s0 : Nat} : ip_WP 134 71 [some (.ref x0), some (.int x1), x2] [.ref s0] (G, F, I, J) b post px ↔ ip_WP 134 72 [some (.ref x0), some (.int x1), x2] [.ref s0, .ref s0] (G, F, I, J) b post px := ip_nx_iff ((ip_st_of f134_71).trans rfl)
theorem f134_72 : ip_fetch 134 72 = some (.getfield 25, 3) := by decide +kernel
set_option maxRecDepth 100000 in
theorem s134_72 {x0 : Nat} {x1 : Int32} {x2 : Option Value} {s0 : Nat} {s1 : Nat} : ip_WP 134 72 [some (.ref x0), some (.int x1), x2] [.ref s1, .ref s0] (G, F, I, J) b post px ↔ (ip_isO G s1 5 = true ∧ ip_WP 134 75 [some (.ref x0), some (.int x1), x2] [F s1 2, .ref s0] (G, F, I, J) b post px) := ip_s_getf f134_72 (by decide +kernel)
theorem f134_75 : ip_fetch 134 75 = some (.iconst 1, 1) := by decide +kernel
theorem s134_75 {x0 : Nat} {x1 : Int32} {x2 : Option Value} {s0 : Nat} {s1 : Int32} : ip_WP 134 75 [some (.ref x0), some (.int x1), x2] [.int s1, .ref s0] (G, F, I, J) b post px ↔ ip_WP 134 76 [some (.ref x0), some (.int x1), x2] [.int 1, .int s1, .ref s0] (G, F, I, J) b post px := ip_s_iconst f134_75 (by decide)
theorem f134_76 : ip_fetch 134 76 = some (.iadd, 1) := by decide +kernel
theorem s134_76 {x0 : Nat} {x1 : Int32} {x2 : Option Value} {s0 : Nat} {s1 : Int32} {s2 : Int32} : ip_WP 134 76 [some (.ref x0), some (.int x1), x2] [.int s2, .int s1, .ref s0] (G, F, I, J) b post px ↔ ip_WP 134 77 [some (.ref x0), some (.int x1), x2] [.int (s1 + s2), .ref s0] (G, F, I, J) b post px := ip_nx_iff ((ip_st_of f134_76).trans rfl)
theorem f134_77 : ip_fetch 134 77 = some (.putfield 25, 3) := by decide +kernel
set_option maxRecDepth 100000 in
theorem s134_77 {x0 : Nat} {x1 : Int32} {x2 : Option Value} {s0 : Nat} {s1 : Int32} : ip_WP 134 77 [some (.ref x0), some (.int x1), x2] [.int s1, .ref s0] (G, F, I, J) b post px ↔ (ip_isO G s0 5 = true ∧ ip_WP 134 80 [some (.ref x0), some (.int x1), x2] [] (G, ip_up F s0 2 (.int s1), I, J) b post px) := ip_s_put f134_77 (by decide +kernel) rfl
theorem f134_80 : ip_fetch 134 80 = some (.goto (-60), 3) := by decide +kernel
theorem s134_80 {x0 : Nat} {x1 : Int32} {x2 : Option Value} : ip_WP 134 80 [some (.ref x0), some (.int x1), x2] [] (G, F, I, J) b post px ↔ ip_WP 134 20 [some (.ref x0), some (.int x1), x2] [] (G, F, I, J) b post px := ip_nx_iff ((ip_st_of f134_80).trans rfl)
theorem f134_83 : ip_fetch 134 83 = some (.aload_n 0, 1) := by decide +kernel
theorem s134_83 {x0 : Nat} {x1 : Int32} {x2 : Option Value} : ip_WP 134 83 [some (.ref x0), some (.int x1), x2] [] (G, F, I, J) b post px ↔ ip_WP 134 84 [some (.ref x0), some (.int x1), x2] [.ref x0] (G, F, I, J) b post px := ip_nx_iff ((ip_st_of f134_83).trans rfl)
theorem f134_84 : ip_fetch 134 84 = some (.getfield 25, 3) := by decide +kernel
set_option maxRecDepth 100000 in
theorem s134_84 {x0 : Nat} {x1 : Int32} {x2 : Option Value} {s0 : Nat} : ip_WP 134 84 [some (.ref x0), some (.int x1), x2] [.ref s0] (G, F, I, J) b post px ↔ (ip_isO G s0 5 = true ∧ ip_WP 134 87 [some (.ref x0), some (.int x1), x2] [F s0 2] (G, F, I, J) b post px) := ip_s_getf f134_84 (by decide +kernel)
theorem f134_87 : ip_fetch 134 87 = some (.aload_n 0, 1) := by decide +kernel
theorem s134_87 {x0 : Nat} {x1 : Int32} {x2 : Option Value} {s0 : Int32} : ip_WP 134 87 [some (.ref x0), some (.int x1), x2] [.int s0] (G, F, I, J) b post px ↔ ip_WP 134 88 [some (.ref x0), some (.int x1), x2] [.ref x0, .int s0] (G, F, I, J) b post px := ip_nx_iff ((ip_st_of f134_87).trans rfl)
theorem f134_88 : ip_fetch 134 88 = some (.getfield 29, 3) := by decide +kernel
set_option maxRecDepth 100000 in
theorem s134_88 {x0 : Nat} {x1 : Int32} {x2 : Option Value} {s0 : Int32} {s1 : Nat} : ip_WP 134 88 [some (.ref x0), some (.int x1), x2] [.ref s1, .int s0] (G, F, I, J) b post px ↔ (ip_isO G s1 5 = true ∧ ip_WP 134 91 [some (.ref x0), some (.int x1), x2] [F s1 4, .int s0] (G, F, I, J) b post px) := ip_s_getf f134_88 (by decide +kernel)
theorem f134_91 : ip_fetch 134 91 = some (.isub, 1) := by decide +kernel
theorem s134_91 {x0 : Nat} {x1 : Int32} {x2 : Option Value} {s0 : Int32} {s1 : Int32} : ip_WP 134 91 [some (.ref x0), some (.int x1), x2] [.int s1, .int s0] (G, F, I, J) b post px ↔ ip_WP 134 92 [some (.ref x0), some (.int x1), x2] [.int (s0 - s1)] (G, F, I, J) b post px := ip_nx_iff ((ip_st_of f134_91).trans rfl)
theorem f134_92 : ip_fetch 134 92 = some (.bipush 12, 2) := by decide +kernel
theorem s134_92 {x0 : Nat} {x1 : Int32} {x2 : Option Value} {s0 : Int32} : ip_WP 134 92 [some (.ref x0), some (.int x1), x2] [.int s0] (G, F, I, J) b post px ↔ ip_WP 134 94 [some (.ref x0), some (.int x1), x2] [.int 12, .int s0] (G, F, I, J) b post px := ip_s_bipush f134_92 (by decide)
theorem f134_94 : ip_fetch 134 94 = some (.if_icmp .le 9, 3) := by decide +kernel
theorem s134_94 {x0 : Nat} {x1 : Int32} {x2 : Option Value} {s0 : Int32} {s1 : Int32} : ip_WP 134 94 [some (.ref x0), some (.int x1), x2] [.int s1, .int s0] (G, F, I, J) b post px ↔ if s0 ≤ s1 then ip_WP 134 103 [some (.ref x0), some (.int x1), x2] [] (G, F, I, J) b post px else ip_WP 134 97 [some (.ref x0), some (.int x1), x2] [] (G, F, I, J) b post px := ip_s_ic_le f134_94 rfl
theorem f134_97 : ip_fetch 134 97 = some (.aload_n 0, 1) := by decide +kernel
theorem s134_97 {x0 : Nat} {x1 : Int32} {x2 : Option Value} : ip_WP 134 97 [some (.ref x0), some (.int x1), x2] [] (G, F, I, J) b post px ↔ ip_WP 134 98 [some (.ref x0), some (.int x1), x2] [.ref x0] (G, F, I, J) b post px := ip_nx_iff ((ip_st_of f134_97).trans rfl)
theorem f134_98 : ip_fetch 134 98 = some (.iconst 0, 1) := by decide +kernel
theorem s134_98 {x0 : Nat} {x1 : Int32} {x2 : Option Value} {s0 : Nat} : ip_WP 134 98 [some (.ref x0), some (.int x1), x2] [.ref s0] (G, F, I, J) b post px ↔ ip_WP 134 99 [some (.ref x0), some (.int x1), x2] [.int 0, .ref s0] (G, F, I, J) b post px := ip_s_iconst f134_98 (by decide)
theorem f134_99 : ip_fetch 134 99 = some (.putfield 32, 3) := by decide +kernel
set_option maxRecDepth 100000 in
theorem s134_99 {x0 : Nat} {x1 : Int32} {x2 : Option Value} {s0 : Nat} {s1 : Int32} : ip_WP 134 99 [some (.ref x0), some (.int x1), x2] [.int s1, .ref s0] (G, F, I, J) b post px ↔ (ip_isO G s0 5 = true ∧ ip_WP 134 102 [some (.ref x0), some (.int x1), x2] [] (G, ip_up F s0 3 (.int s1), I, J) b post px) := ip_s_put f134_99 (by decide +kernel) rfl
theorem f134_102 : ip_fetch 134 102 = some (.return_, 1) := by decide +kernel
theorem s134_102 {x0 : Nat} {x1 : Int32} {x2 : Option Value} : ip_WP 134 102 [some (.ref x0), some (.int x1), x2] [] (G, F, I, J) b post px ↔ post none (G, F, I, J) := ip_rt_iff ((ip_st_of f134_102).trans rfl)
theorem f134_103 : ip_fetch 134 103 = some (.aload_n 0, 1) := by decide +kernel
theorem s134_103 {x0 : Nat} {x1 : Int32} {x2 : Option Value} : ip_WP 134 103 [some (.ref x0), some (.int x1), x2] [] (G, F, I, J) b post px ↔ ip_WP 134 104 [some (.ref x0), some (.int x1), x2] [.ref x0] (G, F, I, J) b post px := ip_nx_iff ((ip_st_of f134_103).trans rfl)
theorem f134_104 : ip_fetch 134 104 = some (.getfield 18, 3) := by decide +kernel
set_option maxRecDepth 100000 in
theorem s134_104 {x0 : Nat} {x1 : Int32} {x2 : Option Value} {s0 : Nat} : ip_WP 134 104 [some (.ref x0), some (.int x1), x2] [.ref s0] (G, F, I, J) b post px ↔ (ip_isO G s0 5 = true ∧ ip_WP 134 107 [some (.ref x0), some (.int x1), x2] [F s0 1] (G, F, I, J) b post px) := ip_s_getf f134_104 (by decide +kernel)
theorem f134_107 : ip_fetch 134 107 = some (.aload_n 0, 1) := by decide +kernel
theorem s134_107 {x0 : Nat} {x1 : Int32} {x2 : Option Value} {s0 : Nat} : ip_WP 134 107 [some (.ref x0), some (.int x1), x2] [.ref s0] (G, F, I, J) b post px ↔ ip_WP 134 108 [some (.ref x0), some (.int x1), x2] [.ref x0, .ref s0] (G, F, I, J) b post px := ip_nx_iff ((ip_st_of f134_107).trans rfl)
theorem f134_108 : ip_fetch 134 108 = some (.getfield 35, 3) := by decide +kernel
set_option maxRecDepth 100000 in
theorem s134_108 {x0 : Nat} {x1 : Int32} {x2 : Option Value} {s0 : Nat} {s1 : Nat} : ip_WP 134 108 [some (.ref x0), some (.int x1), x2] [.ref s1, .ref s0] (G, F, I, J) b post px ↔ (ip_isO G s1 5 = true ∧ ip_WP 134 111 [some (.ref x0), some (.int x1), x2] [F s1 5, .ref s0] (G, F, I, J) b post px) := ip_s_getf f134_108 (by decide +kernel)
theorem f134_111 : ip_fetch 134 111 = some (.invokevirtual 82, 3) := by decide +kernel
set_option maxRecDepth 100000 in
theorem s134_111 {x0 : Nat} {x1 : Int32} {x2 : Option Value} {s0 : Nat} {s1 : Int64} : ip_WP 134 111 [some (.ref x0), some (.int x1), x2] [.long s1, .ref s0] (G, F, I, J) b post px ↔ (ip_isO G s0 10 = true ∧ ip_WP 196 0 [some (.ref s0), some (.long s1), none, none] [] (G, F, I, J) (0, 0) (fun r h' => ip_WP 134 114 [some (.ref x0), some (.int x1), x2] (r.toList ++ []) h' b post px) (fun _ _ => False)) := ip_ck_iff (x := ip_cl 196 [some (.ref s0), some (.long s1), none, none] [] (0, 0) b) ((ip_st_of f134_111).trans rfl) (ip_cl_iff)
theorem f134_114 : ip_fetch 134 114 = some (.istore_n 2, 1) := by decide +kernel
theorem s134_114 {x0 : Nat} {x1 : Int32} {x2 : Option Value} {s0 : Int32} : ip_WP 134 114 [some (.ref x0), some (.int x1), x2] [.int s0] (G, F, I, J) b post px ↔ ip_WP 134 115 [some (.ref x0), some (.int x1), some (.int s0)] [] (G, F, I, J) b post px := ip_nx_iff ((ip_st_of f134_114).trans rfl)
theorem f134_115 : ip_fetch 134 115 = some (.aload_n 0, 1) := by decide +kernel
theorem s134_115 {x0 : Nat} {x1 : Int32} {x2 : Int32} : ip_WP 134 115 [some (.ref x0), some (.int x1), some (.int x2)] [] (G, F, I, J) b post px ↔ ip_WP 134 116 [some (.ref x0), some (.int x1), some (.int x2)] [.ref x0] (G, F, I, J) b post px := ip_nx_iff ((ip_st_of f134_115).trans rfl)
theorem f134_116 : ip_fetch 134 116 = some (.iload_n 2, 1) := by decide +kernel
theorem s134_116 {x0 : Nat} {x1 : Int32} {x2 : Int32} {s0 : Nat} : ip_WP 134 116 [some (.ref x0), some (.int x1), some (.int x2)] [.ref s0] (G, F, I, J) b post px ↔ ip_WP 134 117 [some (.ref x0), some (.int x1), some (.int x2)] [.int x2, .ref s0] (G, F, I, J) b post px := ip_nx_iff ((ip_st_of f134_116).trans rfl)
theorem f134_117 : ip_fetch 134 117 = some (.iconst (-1), 1) := by decide +kernel
theorem s134_117 {x0 : Nat} {x1 : Int32} {x2 : Int32} {s0 : Nat} {s1 : Int32} : ip_WP 134 117 [some (.ref x0), some (.int x1), some (.int x2)] [.int s1, .ref s0] (G, F, I, J) b post px ↔ ip_WP 134 118 [some (.ref x0), some (.int x1), some (.int x2)] [.int (-1), .int s1, .ref s0] (G, F, I, J) b post px := ip_s_iconst f134_117 (by decide)
theorem f134_118 : ip_fetch 134 118 = some (.if_icmp .ne 7, 3) := by decide +kernel
theorem s134_118 {x0 : Nat} {x1 : Int32} {x2 : Int32} {s0 : Nat} {s1 : Int32} {s2 : Int32} : ip_WP 134 118 [some (.ref x0), some (.int x1), some (.int x2)] [.int s2, .int s1, .ref s0] (G, F, I, J) b post px ↔ if ¬ s1 = s2 then ip_WP 134 125 [some (.ref x0), some (.int x1), some (.int x2)] [.ref s0] (G, F, I, J) b post px else ip_WP 134 121 [some (.ref x0), some (.int x1), some (.int x2)] [.ref s0] (G, F, I, J) b post px := ip_s_ic_ne f134_118 rfl
theorem f134_121 : ip_fetch 134 121 = some (.iconst 2, 1) := by decide +kernel
theorem s134_121 {x0 : Nat} {x1 : Int32} {x2 : Int32} {s0 : Nat} : ip_WP 134 121 [some (.ref x0), some (.int x1), some (.int x2)] [.ref s0] (G, F, I, J) b post px ↔ ip_WP 134 122 [some (.ref x0), some (.int x1), some (.int x2)] [.int 2, .ref s0] (G, F, I, J) b post px := ip_s_iconst f134_121 (by decide)
theorem f134_122 : ip_fetch 134 122 = some (.goto 4, 3) := by decide +kernel
theorem s134_122 {x0 : Nat} {x1 : Int32} {x2 : Int32} {s0 : Nat} {s1 : Int32} : ip_WP 134 122 [some (.ref x0), some (.int x1), some (.int x2)] [.int s1, .ref s0] (G, F, I, J) b post px ↔ ip_WP 134 126 [some (.ref x0), some (.int x1), some (.int x2)] [.int s1, .ref s0] (G, F, I, J) b post px := ip_nx_iff ((ip_st_of f134_122).trans rfl)
theorem f134_125 : ip_fetch 134 125 = some (.iload_n 2, 1) := by decide +kernel
theorem s134_125 {x0 : Nat} {x1 : Int32} {x2 : Int32} {s0 : Nat} : ip_WP 134 125 [some (.ref x0), some (.int x1), some (.int x2)] [.ref s0] (G, F, I, J) b post px ↔ ip_WP 134 126 [some (.ref x0), some (.int x1), some (.int x2)] [.int x2, .ref s0] (G, F, I, J) b post px := ip_nx_iff ((ip_st_of f134_125).trans rfl)
theorem f134_126 : ip_fetch 134 126 = some (.putfield 32, 3) := by decide +kernel
set_option maxRecDepth 100000 in
theorem s134_126 {x0 : Nat} {x1 : Int32} {x2 : Int32} {s0 : Nat} {s1 : Int32} : ip_WP 134 126 [some (.ref x0), some (.int x1), some (.int x2)] [.int s1, .ref s0] (G, F, I, J) b post px ↔ (ip_isO G s0 5 = true ∧ ip_WP 134 129 [some (.ref x0), some (.int x1), some (.int x2)] [] (G, ip_up F s0 3 (.int s1), I, J) b post px) := ip_s_put f134_126 (by decide +kernel) rfl
theorem f134_129 : ip_fetch 134 129 = some (.return_, 1) := by decide +kernel
theorem s134_129 {x0 : Nat} {x1 : Int32} {x2 : Int32} : ip_WP 134 129 [some (.ref x0), some (.int x1), some (.int x2)] [] (G, F, I, J) b post px ↔ post none (G, F, I, J) := ip_rt_iff ((ip_st_of f134_129).trans rfl)
theorem f135_0 : ip_fetch 135 0 = some (.aload_n 0, 1) := by decide +kernel
theorem s135_0 {x0 : Nat} : ip_WP 135 0 [some (.ref x0)] [] (G, F, I, J) b post px ↔ ip_WP 135 1 [some (.ref x0)] [.ref x0] (G, F, I, J) b post px := ip_nx_iff ((ip_st_of f135_0).trans rfl)
theorem f135_1 : ip_fetch 135 1 = some (.iconst 3, 1) := by decide +kernel
theorem s135_1 {x0 : Nat} {s0 : Nat} : ip_WP 135 1 [some (.ref x0)] [.ref s0] (G, F, I, J) b post px ↔ ip_WP 135 2 [some (.ref x0)] [.int 3, .ref s0] (G, F, I, J) b post px := ip_s_iconst f135_1 (by decide)
theorem f135_2 : ip_fetch 135 2 = some (.putfield 32, 3) := by decide +kernel
set_option maxRecDepth 100000 in
theorem s135_2 {x0 : Nat} {s0 : Nat} {s1 : Int32} : ip_WP 135 2 [some (.ref x0)] [.int s1, .ref s0] (G, F, I, J) b post px ↔ (ip_isO G s0 5 = true ∧ ip_WP 135 5 [some (.ref x0)] [] (G, ip_up F s0 3 (.int s1), I, J) b post px) := ip_s_put f135_2 (by decide +kernel) rfl
theorem f135_5 : ip_fetch 135 5 = some (.aload_n 0, 1) := by decide +kernel
theorem s135_5 {x0 : Nat} : ip_WP 135 5 [some (.ref x0)] [] (G, F, I, J) b post px ↔ ip_WP 135 6 [some (.ref x0)] [.ref x0] (G, F, I, J) b post px := ip_nx_iff ((ip_st_of f135_5).trans rfl)
theorem f135_6 : ip_fetch 135 6 = some (.iconst 0, 1) := by decide +kernel
theorem s135_6 {x0 : Nat} {s0 : Nat} : ip_WP 135 6 [some (.ref x0)] [.ref s0] (G, F, I, J) b post px ↔ ip_WP 135 7 [some (.ref x0)] [.int 0, .ref s0] (G, F, I, J) b post px := ip_s_iconst f135_6 (by decide)
theorem f135_7 : ip_fetch 135 7 = some (.putfield 39, 3) := by decide +kernel
set_option maxRecDepth 100000 in
theorem s135_7 {x0 : Nat} {s0 : Nat} {s1 : Int32} : ip_WP 135 7 [some (.ref x0)] [.int s1, .ref s0] (G, F, I, J) b post px ↔ (ip_isO G s0 5 = true ∧ ip_WP 135 10 [some (.ref x0)] [] (G, ip_up F s0 6 (.int s1), I, J) b post px) := ip_s_put f135_7 (by decide +kernel) rfl
theorem f135_10 : ip_fetch 135 10 = some (.aload_n 0, 1) := by decide +kernel
theorem s135_10 {x0 : Nat} : ip_WP 135 10 [some (.ref x0)] [] (G, F, I, J) b post px ↔ ip_WP 135 11 [some (.ref x0)] [.ref x0] (G, F, I, J) b post px := ip_nx_iff ((ip_st_of f135_10).trans rfl)
theorem f135_11 : ip_fetch 135 11 = some (.getfield 25, 3) := by decide +kernel
set_option maxRecDepth 100000 in
theorem s135_11 {x0 : Nat} {s0 : Nat} : ip_WP 135 11 [some (.ref x0)] [.ref s0] (G, F, I, J) b post px ↔ (ip_isO G s0 5 = true ∧ ip_WP 135 14 [some (.ref x0)] [F s0 2] (G, F, I, J) b post px) := ip_s_getf f135_11 (by decide +kernel)
theorem f135_14 : ip_fetch 135 14 = some (.aload_n 0, 1) := by decide +kernel
theorem s135_14 {x0 : Nat} {s0 : Int32} : ip_WP 135 14 [some (.ref x0)] [.int s0] (G, F, I, J) b post px ↔ ip_WP 135 15 [some (.ref x0)] [.ref x0, .int s0] (G, F, I, J) b post px := ip_nx_iff ((ip_st_of f135_14).trans rfl)
theorem f135_15 : ip_fetch 135 15 = some (.getfield 9, 3) := by decide +kernel
set_option maxRecDepth 100000 in
theorem s135_15 {x0 : Nat} {s0 : Int32} {s1 : Nat} : ip_WP 135 15 [some (.ref x0)] [.ref s1, .int s0] (G, F, I, J) b post px ↔ (ip_isO G s1 5 = true ∧ ip_WP 135 18 [some (.ref x0)] [F s1 0, .int s0] (G, F, I, J) b post px) := ip_s_getf f135_15 (by decide +kernel)
theorem f135_18 : ip_fetch 135 18 = some (.invokevirtual 70, 3) := by decide +kernel
set_option maxRecDepth 100000 in
theorem s135_18 {x0 : Nat} {s0 : Int32} {s1 : Nat} : ip_WP 135 18 [some (.ref x0)] [.ref s1, .int s0] (G, F, I, J) b post px ↔ (ip_isO G s1 2 = true ∧ ip_WP 88 0 [some (.ref s1)] [] (G, F, I, J) (0, 0) (fun r h' => ip_WP 135 21 [some (.ref x0)] (r.toList ++ [.int s0]) h' b post px) (fun _ _ => False)) := ip_ck_iff (x := ip_cl 88 [some (.ref s1)] [.int s0] (0, 0) b) ((ip_st_of f135_18).trans rfl) (ip_cl_iff)
theorem f135_21 : ip_fetch 135 21 = some (.if_icmp .ge 69, 3) := by decide +kernel
theorem s135_21 {x0 : Nat} {s0 : Int32} {s1 : Int32} : ip_WP 135 21 [some (.ref x0)] [.int s1, .int s0] (G, F, I, J) b post px ↔ if s1 ≤ s0 then ip_WP 135 90 [some (.ref x0)] [] (G, F, I, J) b post px else ip_WP 135 24 [some (.ref x0)] [] (G, F, I, J) b post px := ip_s_ic_ge f135_21 rfl
theorem f135_24 : ip_fetch 135 24 = some (.aload_n 0, 1) := by decide +kernel
theorem s135_24 {x0 : Nat} : ip_WP 135 24 [some (.ref x0)] [] (G, F, I, J) b post px ↔ ip_WP 135 25 [some (.ref x0)] [.ref x0] (G, F, I, J) b post px := ip_nx_iff ((ip_st_of f135_24).trans rfl)
theorem f135_25 : ip_fetch 135 25 = some (.getfield 9, 3) := by decide +kernel
set_option maxRecDepth 100000 in
theorem s135_25 {x0 : Nat} {s0 : Nat} : ip_WP 135 25 [some (.ref x0)] [.ref s0] (G, F, I, J) b post px ↔ (ip_isO G s0 5 = true ∧ ip_WP 135 28 [some (.ref x0)] [F s0 0] (G, F, I, J) b post px) := ip_s_getf f135_25 (by decide +kernel)
theorem f135_28 : ip_fetch 135 28 = some (.aload_n 0, 1) := by decide +kernel
theorem s135_28 {x0 : Nat} {s0 : Nat} : ip_WP 135 28 [some (.ref x0)] [.ref s0] (G, F, I, J) b post px ↔ ip_WP 135 29 [some (.ref x0)] [.ref x0, .ref s0] (G, F, I, J) b post px := ip_nx_iff ((ip_st_of f135_28).trans rfl)
theorem f135_29 : ip_fetch 135 29 = some (.getfield 25, 3) := by decide +kernel
set_option maxRecDepth 100000 in
theorem s135_29 {x0 : Nat} {s0 : Nat} {s1 : Nat} : ip_WP 135 29 [some (.ref x0)] [.ref s1, .ref s0] (G, F, I, J) b post px ↔ (ip_isO G s1 5 = true ∧ ip_WP 135 32 [some (.ref x0)] [F s1 2, .ref s0] (G, F, I, J) b post px) := ip_s_getf f135_29 (by decide +kernel)
theorem f135_32 : ip_fetch 135 32 = some (.invokevirtual 45, 3) := by decide +kernel
set_option maxRecDepth 100000 in
theorem s135_32 {x0 : Nat} {s0 : Nat} {s1 : Int32} : ip_WP 135 32 [some (.ref x0)] [.int s1, .ref s0] (G, F, I, J) b post px ↔ (ip_isO G s0 2 = true ∧ ip_WP 89 0 [some (.ref s0), some (.int s1)] [] (G, F, I, J) (0, 0) (fun r h' => ip_WP 135 35 [some (.ref x0)] (r.toList ++ []) h' b post px) (fun _ _ => False)) := ip_ck_iff (x := ip_cl 89 [some (.ref s0), some (.int s1)] [] (0, 0) b) ((ip_st_of f135_32).trans rfl) (ip_cl_iff)
theorem f135_35 : ip_fetch 135 35 = some (.invokestatic 60, 3) := by decide +kernel
set_option maxRecDepth 100000 in
theorem s135_35 {x0 : Nat} {s0 : Int32} : ip_WP 135 35 [some (.ref x0)] [.int s0] (G, F, I, J) b post px ↔ ip_WP 141 0 [some (.int s0)] [] (G, F, I, J) (0, 0) (fun r h' => ip_WP 135 38 [some (.ref x0)] (r.toList ++ []) h' b post px) (fun _ _ => False) := ip_cl_iff ((ip_st_of f135_35).trans (rfl : _ = ip_cl 141 [some (.int s0)] [] (0, 0) b))
theorem f135_38 : ip_fetch 135 38 = some (.ifCond .eq 52, 3) := by decide +kernel
theorem s135_38 {x0 : Nat} {s0 : Int32} : ip_WP 135 38 [some (.ref x0)] [.int s0] (G, F, I, J) b post px ↔ if s0 = 0 then ip_WP 135 90 [some (.ref x0)] [] (G, F, I, J) b post px else ip_WP 135 41 [some (.ref x0)] [] (G, F, I, J) b post px := ip_s_if_eq f135_38 rfl
theorem f135_41 : ip_fetch 135 41 = some (.aload_n 0, 1) := by decide +kernel
theorem s135_41 {x0 : Nat} : ip_WP 135 41 [some (.ref x0)] [] (G, F, I, J) b post px ↔ ip_WP 135 42 [some (.ref x0)] [.ref x0] (G, F, I, J) b post px := ip_nx_iff ((ip_st_of f135_41).trans rfl)
theorem f135_42 : ip_fetch 135 42 = some (.getfield 39, 3) := by decide +kernel
set_option maxRecDepth 100000 in
theorem s135_42 {x0 : Nat} {s0 : Nat} : ip_WP 135 42 [some (.ref x0)] [.ref s0] (G, F, I, J) b post px ↔ (ip_isO G s0 5 = true ∧ ip_WP 135 45 [some (.ref x0)] [F s0 6] (G, F, I, J) b post px) := ip_s_getf f135_42 (by decide +kernel)
theorem f135_45 : ip_fetch 135 45 = some (.sipush 1000, 3) := by decide +kernel
theorem s135_45 {x0 : Nat} {s0 : Int32} : ip_WP 135 45 [some (.ref x0)] [.int s0] (G, F, I, J) b post px ↔ ip_WP 135 48 [some (.ref x0)] [.int 1000, .int s0] (G, F, I, J) b post px := ip_s_sipush f135_45 (by decide)
theorem f135_48 : ip_fetch 135 48 = some (.if_icmp .ge 29, 3) := by decide +kernel
theorem s135_48 {x0 : Nat} {s0 : Int32} {s1 : Int32} : ip_WP 135 48 [some (.ref x0)] [.int s1, .int s0] (G, F, I, J) b post px ↔ if s1 ≤ s0 then ip_WP 135 77 [some (.ref x0)] [] (G, F, I, J) b post px else ip_WP 135 51 [some (.ref x0)] [] (G, F, I, J) b post px := ip_s_ic_ge f135_48 rfl
theorem f135_51 : ip_fetch 135 51 = some (.aload_n 0, 1) := by decide +kernel
theorem s135_51 {x0 : Nat} : ip_WP 135 51 [some (.ref x0)] [] (G, F, I, J) b post px ↔ ip_WP 135 52 [some (.ref x0)] [.ref x0] (G, F, I, J) b post px := ip_nx_iff ((ip_st_of f135_51).trans rfl)
theorem f135_52 : ip_fetch 135 52 = some (.aload_n 0, 1) := by decide +kernel
theorem s135_52 {x0 : Nat} {s0 : Nat} : ip_WP 135 52 [some (.ref x0)] [.ref s0] (G, F, I, J) b post px ↔ ip_WP 135 53 [some (.ref x0)] [.ref x0, .ref s0] (G, F, I, J) b post px := ip_nx_iff ((ip_st_of f135_52).trans rfl)
theorem f135_53 : ip_fetch 135 53 = some (.getfield 39, 3) := by decide +kernel
set_option maxRecDepth 100000 in
theorem s135_53 {x0 : Nat} {s0 : Nat} {s1 : Nat} : ip_WP 135 53 [some (.ref x0)] [.ref s1, .ref s0] (G, F, I, J) b post px ↔ (ip_isO G s1 5 = true ∧ ip_WP 135 56 [some (.ref x0)] [F s1 6, .ref s0] (G, F, I, J) b post px) := ip_s_getf f135_53 (by decide +kernel)
theorem f135_56 : ip_fetch 135 56 = some (.bipush 10, 2) := by decide +kernel
theorem s135_56 {x0 : Nat} {s0 : Nat} {s1 : Int32} : ip_WP 135 56 [some (.ref x0)] [.int s1, .ref s0] (G, F, I, J) b post px ↔ ip_WP 135 58 [some (.ref x0)] [.int 10, .int s1, .ref s0] (G, F, I, J) b post px := ip_s_bipush f135_56 (by decide)
theorem f135_58 : ip_fetch 135 58 = some (.imul, 1) := by decide +kernel
theorem s135_58 {x0 : Nat} {s0 : Nat} {s1 : Int32} {s2 : Int32} : ip_WP 135 58 [some (.ref x0)] [.int s2, .int s1, .ref s0] (G, F, I, J) b post px ↔ ip_WP 135 59 [some (.ref x0)] [.int (s1 * s2), .ref s0] (G, F, I, J) b post px := ip_nx_iff ((ip_st_of f135_58).trans rfl)
theorem f135_59 : ip_fetch 135 59 = some (.aload_n 0, 1) := by decide +kernel
theorem s135_59 {x0 : Nat} {s0 : Nat} {s1 : Int32} : ip_WP 135 59 [some (.ref x0)] [.int s1, .ref s0] (G, F, I, J) b post px ↔ ip_WP 135 60 [some (.ref x0)] [.ref x0, .int s1, .ref s0] (G, F, I, J) b post px := ip_nx_iff ((ip_st_of f135_59).trans rfl)
theorem f135_60 : ip_fetch 135 60 = some (.getfield 9, 3) := by decide +kernel
set_option maxRecDepth 100000 in
theorem s135_60 {x0 : Nat} {s0 : Nat} {s1 : Int32} {s2 : Nat} : ip_WP 135 60 [some (.ref x0)] [.ref s2, .int s1, .ref s0] (G, F, I, J) b post px ↔ (ip_isO G s2 5 = true ∧ ip_WP 135 63 [some (.ref x0)] [F s2 0, .int s1, .ref s0] (G, F, I, J) b post px) := ip_s_getf f135_60 (by decide +kernel)
theorem f135_63 : ip_fetch 135 63 = some (.aload_n 0, 1) := by decide +kernel
theorem s135_63 {x0 : Nat} {s0 : Nat} {s1 : Int32} {s2 : Nat} : ip_WP 135 63 [some (.ref x0)] [.ref s2, .int s1, .ref s0] (G, F, I, J) b post px ↔ ip_WP 135 64 [some (.ref x0)] [.ref x0, .ref s2, .int s1, .ref s0] (G, F, I, J) b post px := ip_nx_iff ((ip_st_of f135_63).trans rfl)
theorem f135_64 : ip_fetch 135 64 = some (.getfield 25, 3) := by decide +kernel
set_option maxRecDepth 100000 in
theorem s135_64 {x0 : Nat} {s0 : Nat} {s1 : Int32} {s2 : Nat} {s3 : Nat} : ip_WP 135 64 [some (.ref x0)] [.ref s3, .ref s2, .int s1, .ref s0] (G, F, I, J) b post px ↔ (ip_isO G s3 5 = true ∧ ip_WP 135 67 [some (.ref x0)] [F s3 2, .ref s2, .int s1, .ref s0] (G, F, I, J) b post px) := ip_s_getf f135_64 (by decide +kernel)
theorem f135_67 : ip_fetch 135 67 = some (.invokevirtual 45, 3) := by decide +kernel
set_option maxRecDepth 100000 in
theorem s135_67 {x0 : Nat} {s0 : Nat} {s1 : Int32} {s2 : Nat} {s3 : Int32} : ip_WP 135 67 [some (.ref x0)] [.int s3, .ref s2, .int s1, .ref s0] (G, F, I, J) b post px ↔ (ip_isO G s2 2 = true ∧ ip_WP 89 0 [some (.ref s2), some (.int s3)] [] (G, F, I, J) (0, 0) (fun r h' => ip_WP 135 70 [some (.ref x0)] (r.toList ++ [.int s1, .ref s0]) h' b post px) (fun _ _ => False)) := ip_ck_iff (x := ip_cl 89 [some (.ref s2), some (.int s3)] [.int s1, .ref s0] (0, 0) b) ((ip_st_of f135_67).trans rfl) (ip_cl_iff)
theorem f135_70 : ip_fetch 135 70 = some (.iadd, 1) := by decide +kernel
theorem s135_70 {x0 : Nat} {s0 : Nat} {s1 : Int32} {s2 : Int32} : ip_WP 135 70 [some (.ref x0)] [.int s2, .int s1, .ref s0] (G, F, I, J) b post px ↔ ip_WP 135 71 [some (.ref x0)] [.int (s1 + s2), .ref s0] (G, F, I, J) b post px := ip_nx_iff ((ip_st_of f135_70).trans rfl)
theorem f135_71 : ip_fetch 135 71 = some (.bipush 48, 2) := by decide +kernel
theorem s135_71 {x0 : Nat} {s0 : Nat} {s1 : Int32} : ip_WP 135 71 [some (.ref x0)] [.int s1, .ref s0] (G, F, I, J) b post px ↔ ip_WP 135 73 [some (.ref x0)] [.int 48, .int s1, .ref s0] (G, F, I, J) b post px := ip_s_bipush f135_71 (by decide)
theorem f135_73 : ip_fetch 135 73 = some (.isub, 1) := by decide +kernel
theorem s135_73 {x0 : Nat} {s0 : Nat} {s1 : Int32} {s2 : Int32} : ip_WP 135 73 [some (.ref x0)] [.int s2, .int s1, .ref s0] (G, F, I, J) b post px ↔ ip_WP 135 74 [some (.ref x0)] [.int (s1 - s2), .ref s0] (G, F, I, J) b post px := ip_nx_iff ((ip_st_of f135_73).trans rfl)
theorem f135_74 : ip_fetch 135 74 = some (.putfield 39, 3) := by decide +kernel
set_option maxRecDepth 100000 in
theorem s135_74 {x0 : Nat} {s0 : Nat} {s1 : Int32} : ip_WP 135 74 [some (.ref x0)] [.int s1, .ref s0] (G, F, I, J) b post px ↔ (ip_isO G s0 5 = true ∧ ip_WP 135 77 [some (.ref x0)] [] (G, ip_up F s0 6 (.int s1), I, J) b post px) := ip_s_put f135_74 (by decide +kernel) rfl
theorem f135_77 : ip_fetch 135 77 = some (.aload_n 0, 1) := by decide +kernel
theorem s135_77 {x0 : Nat} : ip_WP 135 77 [some (.ref x0)] [] (G, F, I, J) b post px ↔ ip_WP 135 78 [some (.ref x0)] [.ref x0] (G, F, I, J) b post px := ip_nx_iff ((ip_st_of f135_77).trans rfl)
theorem f135_78 : ip_fetch 135 78 = some (.dup, 1) := by decide +kernel
theorem s135_78 {x0 : Nat} {s0 : Nat} : ip_WP 135 78 [some (.ref x0)] [.ref s0] (G, F, I, J) b post px ↔ ip_WP 135 79 [some (.ref x0)] [.ref s0, .ref s0] (G, F, I, J) b post px := ip_nx_iff ((ip_st_of f135_78).trans rfl)
theorem f135_79 : ip_fetch 135 79 = some (.getfield 25, 3) := by decide +kernel
set_option maxRecDepth 100000 in
theorem s135_79 {x0 : Nat} {s0 : Nat} {s1 : Nat} : ip_WP 135 79 [some (.ref x0)] [.ref s1, .ref s0] (G, F, I, J) b post px ↔ (ip_isO G s1 5 = true ∧ ip_WP 135 82 [some (.ref x0)] [F s1 2, .ref s0] (G, F, I, J) b post px) := ip_s_getf f135_79 (by decide +kernel)
theorem f135_82 : ip_fetch 135 82 = some (.iconst 1, 1) := by decide +kernel
theorem s135_82 {x0 : Nat} {s0 : Nat} {s1 : Int32} : ip_WP 135 82 [some (.ref x0)] [.int s1, .ref s0] (G, F, I, J) b post px ↔ ip_WP 135 83 [some (.ref x0)] [.int 1, .int s1, .ref s0] (G, F, I, J) b post px := ip_s_iconst f135_82 (by decide)
theorem f135_83 : ip_fetch 135 83 = some (.iadd, 1) := by decide +kernel
theorem s135_83 {x0 : Nat} {s0 : Nat} {s1 : Int32} {s2 : Int32} : ip_WP 135 83 [some (.ref x0)] [.int s2, .int s1, .ref s0] (G, F, I, J) b post px ↔ ip_WP 135 84 [some (.ref x0)] [.int (s1 + s2), .ref s0] (G, F, I, J) b post px := ip_nx_iff ((ip_st_of f135_83).trans rfl)
theorem f135_84 : ip_fetch 135 84 = some (.putfield 25, 3) := by decide +kernel
set_option maxRecDepth 100000 in
theorem s135_84 {x0 : Nat} {s0 : Nat} {s1 : Int32} : ip_WP 135 84 [some (.ref x0)] [.int s1, .ref s0] (G, F, I, J) b post px ↔ (ip_isO G s0 5 = true ∧ ip_WP 135 87 [some (.ref x0)] [] (G, ip_up F s0 2 (.int s1), I, J) b post px) := ip_s_put f135_84 (by decide +kernel) rfl
theorem f135_87 : ip_fetch 135 87 = some (.goto (-77), 3) := by decide +kernel
theorem s135_87 {x0 : Nat} : ip_WP 135 87 [some (.ref x0)] [] (G, F, I, J) b post px ↔ ip_WP 135 10 [some (.ref x0)] [] (G, F, I, J) b post px := ip_nx_iff ((ip_st_of f135_87).trans rfl)
theorem f135_90 : ip_fetch 135 90 = some (.return_, 1) := by decide +kernel
theorem s135_90 {x0 : Nat} : ip_WP 135 90 [some (.ref x0)] [] (G, F, I, J) b post px ↔ post none (G, F, I, J) := ip_rt_iff ((ip_st_of f135_90).trans rfl)
theorem f136_0 : ip_fetch 136 0 = some (.iload_n 1, 1) := by decide +kernel
theorem s136_0 {x0 : Nat} {x1 : Int32} : ip_WP 136 0 [some (.ref x0), some (.int x1)] [] (G, F, I, J) b post px ↔ ip_WP 136 1 [some (.ref x0), some (.int x1)] [.int x1] (G, F, I, J) b post px := ip_nx_iff ((ip_st_of f136_0).trans rfl)
-- switch 136 1
theorem f136_1 : ip_fetch 136 1 = some (.lookupswitch 69 #[(44, 51), (58, 51), (59, 51), (61, 51), (62, 51)], 51) := by decide +kernel
theorem s136_1 {x0 : Nat} {x1 : Int32} {s0 : Int32} : ip_WP 136 1 [some (.ref x0), some (.int x1)] [.int s0] (G, F, I, J) b post px ↔ if s0 = 44 then ip_WP 136 52 [some (.ref x0), some (.int x1)] [] (G, F, I, J) b post px else if s0 = 58 then ip_WP 136 52 [some (.ref x0), some (.int x1)] [] (G, F, I, J) b post px else if s0 = 59 then ip_WP 136 52 [some (.ref x0), some (.int x1)] [] (G, F, I, J) b post px else if s0 = 61 then ip_WP 136 52 [some (.ref x0), some (.int x1)] [] (G, F, I, J) b post px else if s0 = 62 then ip_WP 136 52 [some (.ref x0), some (.int x1)] [] (G, F, I, J) b post px else ip_WP 136 70 [some (.ref x0), some (.int x1)] [] (G, F, I, J) b post px := by
  by_cases h0 : s0 = 44
  · subst h0
    rw [if_pos rfl]
    exact ip_nx_iff ((ip_st_of f136_1).trans rfl)
  rw [if_neg h0]
  by_cases h1 : s0 = 58
  · subst h1
    rw [if_pos rfl]
    exact ip_nx_iff ((ip_st_of f136_1).trans rfl)
  rw [if_neg h1]
  by_cases h2 : s0 = 59
  · subst h2
    rw [if_pos rfl]
    exact ip_nx_iff ((ip_st_of f136_1).trans rfl)
  rw [if_neg h2]
  by_cases h3 : s0 = 61
  · subst h3
    rw [if_pos rfl]
    exact ip_nx_iff ((ip_st_of f136_1).trans rfl)
  rw [if_neg h3]
  by_cases h4 : s0 = 62
  · subst h4
    rw [if_pos rfl]
    exact ip_nx_iff ((ip_st_of f136_1).trans rfl)
  rw [if_neg h4]
  have g0 := lv_neT (a := 44) h0 (by decide)
  have g1 := lv_neT (a := 58) h1 (by decide)
  have g2 := lv_neT (a := 59) h2 (by decide)
  have g3 := lv_neT (a := 61) h3 (by decide)
  have g4 := lv_neT (a := 62) h4 (by decide)
  have e0 : ¬ ((44 : Int) = s0.toInt) := fun q => g0 q.symm
  have e1 : ¬ ((58 : Int) = s0.toInt) := fun q => g1 q.symm
  have e2 : ¬ ((59 : Int) = s0.toInt) := fun q => g2 q.symm
  have e3 : ¬ ((61 : Int) = s0.toInt) := fun q => g3 q.symm
  have e4 : ¬ ((62 : Int) = s0.toInt) := fun q => g4 q.symm
  exact ip_s_lsd f136_1 (by simp only [Op.lookupswitch.offset_cons, e0, e1, e2, e3, e4, if_false]; rfl) rfl rfl
theorem f136_52 : ip_fetch 136 52 = some (.aload_n 0, 1) := by decide +kernel
theorem s136_52 {x0 : Nat} {x1 : Int32} : ip_WP 136 52 [some (.ref x0), some (.int x1)] [] (G, F, I, J) b post px ↔ ip_WP 136 53 [some (.ref x0), some (.int x1)] [.ref x0] (G, F, I, J) b post px := ip_nx_iff ((ip_st_of f136_52).trans rfl)
theorem f136_53 : ip_fetch 136 53 = some (.iload_n 1, 1) := by decide +kernel
theorem s136_53 {x0 : Nat} {x1 : Int32} {s0 : Nat} : ip_WP 136 53 [some (.ref x0), some (.int x1)] [.ref s0] (G, F, I, J) b post px ↔ ip_WP 136 54 [some (.ref x0), some (.int x1)] [.int x1, .ref s0] (G, F, I, J) b post px := ip_nx_iff ((ip_st_of f136_53).trans rfl)
theorem f136_54 : ip_fetch 136 54 = some (.putfield 32, 3) := by decide +kernel
set_option maxRecDepth 100000 in
theorem s136_54 {x0 : Nat} {x1 : Int32} {s0 : Nat} {s1 : Int32} : ip_WP 136 54 [some (.ref x0), some (.int x1)] [.int s1, .ref s0] (G, F, I, J) b post px ↔ (ip_isO G s0 5 = true ∧ ip_WP 136 57 [some (.ref x0), some (.int x1)] [] (G, ip_up F s0 3 (.int s1), I, J) b post px) := ip_s_put f136_54 (by decide +kernel) rfl
theorem f136_57 : ip_fetch 136 57 = some (.aload_n 0, 1) := by decide +kernel
theorem s136_57 {x0 : Nat} {x1 : Int32} : ip_WP 136 57 [some (.ref x0), some (.int x1)] [] (G, F, I, J) b post px ↔ ip_WP 136 58 [some (.ref x0), some (.int x1)] [.ref x0] (G, F, I, J) b post px := ip_nx_iff ((ip_st_of f136_57).trans rfl)
theorem f136_58 : ip_fetch 136 58 = some (.dup, 1) := by decide +kernel
theorem s136_58 {x0 : Nat} {x1 : Int32} {s0 : Nat} : ip_WP 136 58 [some (.ref x0), some (.int x1)] [.ref s0] (G, F, I, J) b post px ↔ ip_WP 136 59 [some (.ref x0), some (.int x1)] [.ref s0, .ref s0] (G, F, I, J) b post px := ip_nx_iff ((ip_st_of f136_58).trans rfl)
theorem f136_59 : ip_fetch 136 59 = some (.getfield 25, 3) := by decide +kernel
set_option maxRecDepth 100000 in
theorem s136_59 {x0 : Nat} {x1 : Int32} {s0 : Nat} {s1 : Nat} : ip_WP 136 59 [some (.ref x0), some (.int x1)] [.ref s1, .ref s0] (G, F, I, J) b post px ↔ (ip_isO G s1 5 = true ∧ ip_WP 136 62 [some (.ref x0), some (.int x1)] [F s1 2, .ref s0] (G, F, I, J) b post px) := ip_s_getf f136_59 (by decide +kernel)
theorem f136_62 : ip_fetch 136 62 = some (.iconst 1, 1) := by decide +kernel
theorem s136_62 {x0 : Nat} {x1 : Int32} {s0 : Nat} {s1 : Int32} : ip_WP 136 62 [some (.ref x0), some (.int x1)] [.int s1, .ref s0] (G, F, I, J) b post px ↔ ip_WP 136 63 [some (.ref x0), some (.int x1)] [.int 1, .int s1, .ref s0] (G, F, I, J) b post px := ip_s_iconst f136_62 (by decide)
theorem f136_63 : ip_fetch 136 63 = some (.iadd, 1) := by decide +kernel
theorem s136_63 {x0 : Nat} {x1 : Int32} {s0 : Nat} {s1 : Int32} {s2 : Int32} : ip_WP 136 63 [some (.ref x0), some (.int x1)] [.int s2, .int s1, .ref s0] (G, F, I, J) b post px ↔ ip_WP 136 64 [some (.ref x0), some (.int x1)] [.int (s1 + s2), .ref s0] (G, F, I, J) b post px := ip_nx_iff ((ip_st_of f136_63).trans rfl)
theorem f136_64 : ip_fetch 136 64 = some (.putfield 25, 3) := by decide +kernel
set_option maxRecDepth 100000 in
theorem s136_64 {x0 : Nat} {x1 : Int32} {s0 : Nat} {s1 : Int32} : ip_WP 136 64 [some (.ref x0), some (.int x1)] [.int s1, .ref s0] (G, F, I, J) b post px ↔ (ip_isO G s0 5 = true ∧ ip_WP 136 67 [some (.ref x0), some (.int x1)] [] (G, ip_up F s0 2 (.int s1), I, J) b post px) := ip_s_put f136_64 (by decide +kernel) rfl
theorem f136_67 : ip_fetch 136 67 = some (.goto 8, 3) := by decide +kernel
theorem s136_67 {x0 : Nat} {x1 : Int32} : ip_WP 136 67 [some (.ref x0), some (.int x1)] [] (G, F, I, J) b post px ↔ ip_WP 136 75 [some (.ref x0), some (.int x1)] [] (G, F, I, J) b post px := ip_nx_iff ((ip_st_of f136_67).trans rfl)
theorem f136_70 : ip_fetch 136 70 = some (.aload_n 0, 1) := by decide +kernel
theorem s136_70 {x0 : Nat} {x1 : Int32} : ip_WP 136 70 [some (.ref x0), some (.int x1)] [] (G, F, I, J) b post px ↔ ip_WP 136 71 [some (.ref x0), some (.int x1)] [.ref x0] (G, F, I, J) b post px := ip_nx_iff ((ip_st_of f136_70).trans rfl)
theorem f136_71 : ip_fetch 136 71 = some (.iconst 0, 1) := by decide +kernel
theorem s136_71 {x0 : Nat} {x1 : Int32} {s0 : Nat} : ip_WP 136 71 [some (.ref x0), some (.int x1)] [.ref s0] (G, F, I, J) b post px ↔ ip_WP 136 72 [some (.ref x0), some (.int x1)] [.int 0, .ref s0] (G, F, I, J) b post px := ip_s_iconst f136_71 (by decide)
theorem f136_72 : ip_fetch 136 72 = some (.putfield 32, 3) := by decide +kernel
set_option maxRecDepth 100000 in
theorem s136_72 {x0 : Nat} {x1 : Int32} {s0 : Nat} {s1 : Int32} : ip_WP 136 72 [some (.ref x0), some (.int x1)] [.int s1, .ref s0] (G, F, I, J) b post px ↔ (ip_isO G s0 5 = true ∧ ip_WP 136 75 [some (.ref x0), some (.int x1)] [] (G, ip_up F s0 3 (.int s1), I, J) b post px) := ip_s_put f136_72 (by decide +kernel) rfl
theorem f136_75 : ip_fetch 136 75 = some (.return_, 1) := by decide +kernel
theorem s136_75 {x0 : Nat} {x1 : Int32} : ip_WP 136 75 [some (.ref x0), some (.int x1)] [] (G, F, I, J) b post px ↔ post none (G, F, I, J) := ip_rt_iff ((ip_st_of f136_75).trans rfl)
theorem f137_0 : ip_fetch 137 0 = some (.aload_n 0, 1) := by decide +kernel
theorem s137_0 {x0 : Nat} {x1 : Int32} : ip_WP 137 0 [some (.ref x0), some (.int x1)] [] (G, F, I, J) b post px ↔ ip_WP 137 1 [some (.ref x0), some (.int x1)] [.ref x0] (G, F, I, J) b post px := ip_nx_iff ((ip_st_of f137_0).trans rfl)
theorem f137_1 : ip_fetch 137 1 = some (.invokespecial 3, 3) := by decide +kernel
set_option maxRecDepth 100000 in
theorem s137_1 {x0 : Nat} {x1 : Int32} {s0 : Nat} : ip_WP 137 1 [some (.ref x0), some (.int x1)] [.ref s0] (G, F, I, J) b post px ↔ ip_WP 137 4 [some (.ref x0), some (.int x1)] [] (G, F, I, J) b post px := ip_s_obj f137_1 rfl (Nat.le_of_ble_eq_true rfl)
theorem f137_4 : ip_fetch 137 4 = some (.aload_n 0, 1) := by decide +kernel
theorem s137_4 {x0 : Nat} {x1 : Int32} : ip_WP 137 4 [some (.ref x0), some (.int x1)] [] (G, F, I, J) b post px ↔ ip_WP 137 5 [some (.ref x0), some (.int x1)] [.ref x0] (G, F, I, J) b post px := ip_nx_iff ((ip_st_of f137_4).trans rfl)
theorem f137_5 : ip_fetch 137 5 = some (.iload_n 1, 1) := by decide +kernel
theorem s137_5 {x0 : Nat} {x1 : Int32} {s0 : Nat} : ip_WP 137 5 [some (.ref x0), some (.int x1)] [.ref s0] (G, F, I, J) b post px ↔ ip_WP 137 6 [some (.ref x0), some (.int x1)] [.int x1, .ref s0] (G, F, I, J) b post px := ip_nx_iff ((ip_st_of f137_5).trans rfl)
theorem f137_6 : ip_fetch 137 6 = some (.ifCond .le 7, 3) := by decide +kernel
theorem s137_6 {x0 : Nat} {x1 : Int32} {s0 : Nat} {s1 : Int32} : ip_WP 137 6 [some (.ref x0), some (.int x1)] [.int s1, .ref s0] (G, F, I, J) b post px ↔ if s1 ≤ 0 then ip_WP 137 13 [some (.ref x0), some (.int x1)] [.ref s0] (G, F, I, J) b post px else ip_WP 137 9 [some (.ref x0), some (.int x1)] [.ref s0] (G, F, I, J) b post px := ip_s_if_le f137_6 rfl
theorem f137_9 : ip_fetch 137 9 = some (.iload_n 1, 1) := by decide +kernel
theorem s137_9 {x0 : Nat} {x1 : Int32} {s0 : Nat} : ip_WP 137 9 [some (.ref x0), some (.int x1)] [.ref s0] (G, F, I, J) b post px ↔ ip_WP 137 10 [some (.ref x0), some (.int x1)] [.int x1, .ref s0] (G, F, I, J) b post px := ip_nx_iff ((ip_st_of f137_9).trans rfl)
theorem f137_10 : ip_fetch 137 10 = some (.goto 4, 3) := by decide +kernel
theorem s137_10 {x0 : Nat} {x1 : Int32} {s0 : Nat} {s1 : Int32} : ip_WP 137 10 [some (.ref x0), some (.int x1)] [.int s1, .ref s0] (G, F, I, J) b post px ↔ ip_WP 137 14 [some (.ref x0), some (.int x1)] [.int s1, .ref s0] (G, F, I, J) b post px := ip_nx_iff ((ip_st_of f137_10).trans rfl)
theorem f137_13 : ip_fetch 137 13 = some (.iconst 0, 1) := by decide +kernel
theorem s137_13 {x0 : Nat} {x1 : Int32} {s0 : Nat} : ip_WP 137 13 [some (.ref x0), some (.int x1)] [.ref s0] (G, F, I, J) b post px ↔ ip_WP 137 14 [some (.ref x0), some (.int x1)] [.int 0, .ref s0] (G, F, I, J) b post px := ip_s_iconst f137_13 (by decide)
theorem f137_14 : ip_fetch 137 14 = some (.newarray .long, 2) := by decide +kernel
set_option maxRecDepth 100000 in
theorem s137_14 {x0 : Nat} {x1 : Int32} {s0 : Nat} {s1 : Int32} : ip_WP 137 14 [some (.ref x0), some (.int x1)] [.int s1, .ref s0] (G, F, I, J) b post px ↔ (ip_wfc G.length [some (.ref x0), some (.int x1)] [.ref s0] = true ∧ (1 ≤ b.1 ∧ s1.toNatClampNeg ≤ b.2 ∧ G.length < ip_SC ∧ ¬ s1 < 0 ∧ s1.toNatClampNeg ≤ 60000000) ∧ ip_WP 137 16 [some (.ref x0), some (.int x1)] [.ref G.length, .ref s0] (G ++ [.inl (2, s1.toNatClampNeg)], F, fun a j => if a = G.length then 0 else I a j, fun a j => if a = G.length then 0 else J a j) (b.1 - 1, b.2 - s1.toNatClampNeg) post px) := ip_s_newa f137_14 rfl rfl
theorem f137_16 : ip_fetch 137 16 = some (.putfield 9, 3) := by decide +kernel
set_option maxRecDepth 100000 in
theorem s137_16 {x0 : Nat} {x1 : Int32} {s0 : Nat} {s1 : Nat} : ip_WP 137 16 [some (.ref x0), some (.int x1)] [.ref s1, .ref s0] (G, F, I, J) b post px ↔ (ip_isO G s0 6 = true ∧ s1 < G.length ∧ ip_WP 137 19 [some (.ref x0), some (.int x1)] [] (G, ip_up F s0 0 (.ref s1), I, J) b post px) := ip_s_putR f137_16 (by decide +kernel) rfl
theorem f137_19 : ip_fetch 137 19 = some (.aload_n 0, 1) := by decide +kernel
theorem s137_19 {x0 : Nat} {x1 : Int32} : ip_WP 137 19 [some (.ref x0), some (.int x1)] [] (G, F, I, J) b post px ↔ ip_WP 137 20 [some (.ref x0), some (.int x1)] [.ref x0] (G, F, I, J) b post px := ip_nx_iff ((ip_st_of f137_19).trans rfl)
theorem f137_20 : ip_fetch 137 20 = some (.iconst 0, 1) := by decide +kernel
theorem s137_20 {x0 : Nat} {x1 : Int32} {s0 : Nat} : ip_WP 137 20 [some (.ref x0), some (.int x1)] [.ref s0] (G, F, I, J) b post px ↔ ip_WP 137 21 [some (.ref x0), some (.int x1)] [.int 0, .ref s0] (G, F, I, J) b post px := ip_s_iconst f137_20 (by decide)
theorem f137_21 : ip_fetch 137 21 = some (.putfield 15, 3) := by decide +kernel
set_option maxRecDepth 100000 in
theorem s137_21 {x0 : Nat} {x1 : Int32} {s0 : Nat} {s1 : Int32} : ip_WP 137 21 [some (.ref x0), some (.int x1)] [.int s1, .ref s0] (G, F, I, J) b post px ↔ (ip_isO G s0 6 = true ∧ ip_WP 137 24 [some (.ref x0), some (.int x1)] [] (G, ip_up F s0 1 (.int s1), I, J) b post px) := ip_s_put f137_21 (by decide +kernel) rfl
theorem f137_24 : ip_fetch 137 24 = some (.return_, 1) := by decide +kernel
theorem s137_24 {x0 : Nat} {x1 : Int32} : ip_WP 137 24 [some (.ref x0), some (.int x1)] [] (G, F, I, J) b post px ↔ post none (G, F, I, J) := ip_rt_iff ((ip_st_of f137_24).trans rfl)
theorem f138_0 : ip_fetch 138 0 = some (.iload_n 0, 1) := by decide +kernel
theorem s138_0 {x0 : Int32} : ip_WP 138 0 [some (.int x0)] [] (G, F, I, J) b post px ↔ ip_WP 138 1 [some (.int x0)] [.int x0] (G, F, I, J) b post px := ip_nx_iff ((ip_st_of f138_0).trans rfl)
theorem f138_1 : ip_fetch 138 1 = some (.invokestatic 19, 3) := by decide +kernel
set_option maxRecDepth 100000 in
theorem s138_1 {x0 : Int32} {s0 : Int32} : ip_WP 138 1 [some (.int x0)] [.int s0] (G, F, I, J) b post px ↔ ip_WP 140 0 [some (.int s0)] [] (G, F, I, J) (0, 0) (fun r h' => ip_WP 138 4 [some (.int x0)] (r.toList ++ []) h' b post px) (fun _ _ => False) := ip_cl_iff ((ip_st_of f138_1).trans (rfl : _ = ip_cl 140 [some (.int s0)] [] (0, 0) b))
theorem f138_4 : ip_fetch 138 4 = some (.ifCond .eq 10, 3) := by decide +kernel
theorem s138_4 {x0 : Int32} {s0 : Int32} : ip_WP 138 4 [some (.int x0)] [.int s0] (G, F, I, J) b post px ↔ if s0 = 0 then ip_WP 138 14 [some (.int x0)] [] (G, F, I, J) b post px else ip_WP 138 7 [some (.int x0)] [] (G, F, I, J) b post px := ip_s_if_eq f138_4 rfl
theorem f138_7 : ip_fetch 138 7 = some (.iload_n 0, 1) := by decide +kernel
theorem s138_7 {x0 : Int32} : ip_WP 138 7 [some (.int x0)] [] (G, F, I, J) b post px ↔ ip_WP 138 8 [some (.int x0)] [.int x0] (G, F, I, J) b post px := ip_nx_iff ((ip_st_of f138_7).trans rfl)
theorem f138_8 : ip_fetch 138 8 = some (.bipush 97, 2) := by decide +kernel
theorem s138_8 {x0 : Int32} {s0 : Int32} : ip_WP 138 8 [some (.int x0)] [.int s0] (G, F, I, J) b post px ↔ ip_WP 138 10 [some (.int x0)] [.int 97, .int s0] (G, F, I, J) b post px := ip_s_bipush f138_8 (by decide)
theorem f138_10 : ip_fetch 138 10 = some (.isub, 1) := by decide +kernel
theorem s138_10 {x0 : Int32} {s0 : Int32} {s1 : Int32} : ip_WP 138 10 [some (.int x0)] [.int s1, .int s0] (G, F, I, J) b post px ↔ ip_WP 138 11 [some (.int x0)] [.int (s0 - s1)] (G, F, I, J) b post px := ip_nx_iff ((ip_st_of f138_10).trans rfl)
theorem f138_11 : ip_fetch 138 11 = some (.iconst 1, 1) := by decide +kernel
theorem s138_11 {x0 : Int32} {s0 : Int32} : ip_WP 138 11 [some (.int x0)] [.int s0] (G, F, I, J) b post px ↔ ip_WP 138 12 [some (.int x0)] [.int 1, .int s0] (G, F, I, J) b post px := ip_s_iconst f138_11 (by decide)
theorem f138_12 : ip_fetch 138 12 = some (.iadd, 1) := by decide +kernel
theorem s138_12 {x0 : Int32} {s0 : Int32} {s1 : Int32} : ip_WP 138 12 [some (.int x0)] [.int s1, .int s0] (G, F, I, J) b post px ↔ ip_WP 138 13 [some (.int x0)] [.int (s0 + s1)] (G, F, I, J) b post px := ip_nx_iff ((ip_st_of f138_12).trans rfl)
theorem f138_13 : ip_fetch 138 13 = some (.ireturn, 1) := by decide +kernel
theorem s138_13 {x0 : Int32} {s0 : Int32} : ip_WP 138 13 [some (.int x0)] [.int s0] (G, F, I, J) b post px ↔ post (some (.int s0)) (G, F, I, J) := ip_rt_iff ((ip_st_of f138_13).trans rfl)
theorem f138_14 : ip_fetch 138 14 = some (.iload_n 0, 1) := by decide +kernel
theorem s138_14 {x0 : Int32} : ip_WP 138 14 [some (.int x0)] [] (G, F, I, J) b post px ↔ ip_WP 138 15 [some (.int x0)] [.int x0] (G, F, I, J) b post px := ip_nx_iff ((ip_st_of f138_14).trans rfl)
theorem f138_15 : ip_fetch 138 15 = some (.invokestatic 23, 3) := by decide +kernel
set_option maxRecDepth 100000 in
theorem s138_15 {x0 : Int32} {s0 : Int32} : ip_WP 138 15 [some (.int x0)] [.int s0] (G, F, I, J) b post px ↔ ip_WP 141 0 [some (.int s0)] [] (G, F, I, J) (0, 0) (fun r h' => ip_WP 138 18 [some (.int x0)] (r.toList ++ []) h' b post px) (fun _ _ => False) := ip_cl_iff ((ip_st_of f138_15).trans (rfl : _ = ip_cl 141 [some (.int s0)] [] (0, 0) b))
theorem f138_18 : ip_fetch 138 18 = some (.ifCond .eq 15, 3) := by decide +kernel
theorem s138_18 {x0 : Int32} {s0 : Int32} : ip_WP 138 18 [some (.int x0)] [.int s0] (G, F, I, J) b post px ↔ if s0 = 0 then ip_WP 138 33 [some (.int x0)] [] (G, F, I, J) b post px else ip_WP 138 21 [some (.int x0)] [] (G, F, I, J) b post px := ip_s_if_eq f138_18 rfl
theorem f138_21 : ip_fetch 138 21 = some (.iload_n 0, 1) := by decide +kernel
theorem s138_21 {x0 : Int32} : ip_WP 138 21 [some (.int x0)] [] (G, F, I, J) b post px ↔ ip_WP 138 22 [some (.int x0)] [.int x0] (G, F, I, J) b post px := ip_nx_iff ((ip_st_of f138_21).trans rfl)
theorem f138_22 : ip_fetch 138 22 = some (.bipush 48, 2) := by decide +kernel
theorem s138_22 {x0 : Int32} {s0 : Int32} : ip_WP 138 22 [some (.int x0)] [.int s0] (G, F, I, J) b post px ↔ ip_WP 138 24 [some (.int x0)] [.int 48, .int s0] (G, F, I, J) b post px := ip_s_bipush f138_22 (by decide)
theorem f138_24 : ip_fetch 138 24 = some (.isub, 1) := by decide +kernel
theorem s138_24 {x0 : Int32} {s0 : Int32} {s1 : Int32} : ip_WP 138 24 [some (.int x0)] [.int s1, .int s0] (G, F, I, J) b post px ↔ ip_WP 138 25 [some (.int x0)] [.int (s0 - s1)] (G, F, I, J) b post px := ip_nx_iff ((ip_st_of f138_24).trans rfl)
theorem f138_25 : ip_fetch 138 25 = some (.bipush 26, 2) := by decide +kernel
theorem s138_25 {x0 : Int32} {s0 : Int32} : ip_WP 138 25 [some (.int x0)] [.int s0] (G, F, I, J) b post px ↔ ip_WP 138 27 [some (.int x0)] [.int 26, .int s0] (G, F, I, J) b post px := ip_s_bipush f138_25 (by decide)
theorem f138_27 : ip_fetch 138 27 = some (.iadd, 1) := by decide +kernel
theorem s138_27 {x0 : Int32} {s0 : Int32} {s1 : Int32} : ip_WP 138 27 [some (.int x0)] [.int s1, .int s0] (G, F, I, J) b post px ↔ ip_WP 138 28 [some (.int x0)] [.int (s0 + s1)] (G, F, I, J) b post px := ip_nx_iff ((ip_st_of f138_27).trans rfl)
theorem f138_28 : ip_fetch 138 28 = some (.iconst 1, 1) := by decide +kernel
theorem s138_28 {x0 : Int32} {s0 : Int32} : ip_WP 138 28 [some (.int x0)] [.int s0] (G, F, I, J) b post px ↔ ip_WP 138 29 [some (.int x0)] [.int 1, .int s0] (G, F, I, J) b post px := ip_s_iconst f138_28 (by decide)
theorem f138_29 : ip_fetch 138 29 = some (.iadd, 1) := by decide +kernel
theorem s138_29 {x0 : Int32} {s0 : Int32} {s1 : Int32} : ip_WP 138 29 [some (.int x0)] [.int s1, .int s0] (G, F, I, J) b post px ↔ ip_WP 138 30 [some (.int x0)] [.int (s0 + s1)] (G, F, I, J) b post px := ip_nx_iff ((ip_st_of f138_29).trans rfl)
theorem f138_30 : ip_fetch 138 30 = some (.goto 4, 3) := by decide +kernel
theorem s138_30 {x0 : Int32} {s0 : Int32} : ip_WP 138 30 [some (.int x0)] [.int s0] (G, F, I, J) b post px ↔ ip_WP 138 34 [some (.int x0)] [.int s0] (G, F, I, J) b post px := ip_nx_iff ((ip_st_of f138_30).trans rfl)
theorem f138_33 : ip_fetch 138 33 = some (.iconst 0, 1) := by decide +kernel
theorem s138_33 {x0 : Int32} : ip_WP 138 33 [some (.int x0)] [] (G, F, I, J) b post px ↔ ip_WP 138 34 [some (.int x0)] [.int 0] (G, F, I, J) b post px := ip_s_iconst f138_33 (by decide)
theorem f138_34 : ip_fetch 138 34 = some (.ireturn, 1) := by decide +kernel
theorem s138_34 {x0 : Int32} {s0 : Int32} : ip_WP 138 34 [some (.int x0)] [.int s0] (G, F, I, J) b post px ↔ post (some (.int s0)) (G, F, I, J) := ip_rt_iff ((ip_st_of f138_34).trans rfl)
theorem f139_0 : ip_fetch 139 0 = some (.iload_n 0, 1) := by decide +kernel
theorem s139_0 {x0 : Int32} : ip_WP 139 0 [some (.int x0)] [] (G, F, I, J) b post px ↔ ip_WP 139 1 [some (.int x0)] [.int x0] (G, F, I, J) b post px := ip_nx_iff ((ip_st_of f139_0).trans rfl)
theorem f139_1 : ip_fetch 139 1 = some (.bipush 26, 2) := by decide +kernel
theorem s139_1 {x0 : Int32} {s0 : Int32} : ip_WP 139 1 [some (.int x0)] [.int s0] (G, F, I, J) b post px ↔ ip_WP 139 3 [some (.int x0)] [.int 26, .int s0] (G, F, I, J) b post px := ip_s_bipush f139_1 (by decide)
theorem f139_3 : ip_fetch 139 3 = some (.if_icmp .gt 12, 3) := by decide +kernel
theorem s139_3 {x0 : Int32} {s0 : Int32} {s1 : Int32} : ip_WP 139 3 [some (.int x0)] [.int s1, .int s0] (G, F, I, J) b post px ↔ if s1 < s0 then ip_WP 139 15 [some (.int x0)] [] (G, F, I, J) b post px else ip_WP 139 6 [some (.int x0)] [] (G, F, I, J) b post px := ip_s_ic_gt f139_3 rfl
theorem f139_6 : ip_fetch 139 6 = some (.iload_n 0, 1) := by decide +kernel
theorem s139_6 {x0 : Int32} : ip_WP 139 6 [some (.int x0)] [] (G, F, I, J) b post px ↔ ip_WP 139 7 [some (.int x0)] [.int x0] (G, F, I, J) b post px := ip_nx_iff ((ip_st_of f139_6).trans rfl)
theorem f139_7 : ip_fetch 139 7 = some (.bipush 97, 2) := by decide +kernel
theorem s139_7 {x0 : Int32} {s0 : Int32} : ip_WP 139 7 [some (.int x0)] [.int s0] (G, F, I, J) b post px ↔ ip_WP 139 9 [some (.int x0)] [.int 97, .int s0] (G, F, I, J) b post px := ip_s_bipush f139_7 (by decide)
theorem f139_9 : ip_fetch 139 9 = some (.iadd, 1) := by decide +kernel
theorem s139_9 {x0 : Int32} {s0 : Int32} {s1 : Int32} : ip_WP 139 9 [some (.int x0)] [.int s1, .int s0] (G, F, I, J) b post px ↔ ip_WP 139 10 [some (.int x0)] [.int (s0 + s1)] (G, F, I, J) b post px := ip_nx_iff ((ip_st_of f139_9).trans rfl)
theorem f139_10 : ip_fetch 139 10 = some (.iconst 1, 1) := by decide +kernel
theorem s139_10 {x0 : Int32} {s0 : Int32} : ip_WP 139 10 [some (.int x0)] [.int s0] (G, F, I, J) b post px ↔ ip_WP 139 11 [some (.int x0)] [.int 1, .int s0] (G, F, I, J) b post px := ip_s_iconst f139_10 (by decide)
theorem f139_11 : ip_fetch 139 11 = some (.isub, 1) := by decide +kernel
theorem s139_11 {x0 : Int32} {s0 : Int32} {s1 : Int32} : ip_WP 139 11 [some (.int x0)] [.int s1, .int s0] (G, F, I, J) b post px ↔ ip_WP 139 12 [some (.int x0)] [.int (s0 - s1)] (G, F, I, J) b post px := ip_nx_iff ((ip_st_of f139_11).trans rfl)
theorem f139_12 : ip_fetch 139 12 = some (.goto 12, 3) := by decide +kernel
theorem s139_12 {x0 : Int32} {s0 : Int32} : ip_WP 139 12 [some (.int x0)] [.int s0] (G, F, I, J) b post px ↔ ip_WP 139 24 [some (.int x0)] [.int s0] (G, F, I, J) b post px := ip_nx_iff ((ip_st_of f139_12).trans rfl)
theorem f139_15 : ip_fetch 139 15 = some (.iload_n 0, 1) := by decide +kernel
theorem s139_15 {x0 : Int32} : ip_WP 139 15 [some (.int x0)] [] (G, F, I, J) b post px ↔ ip_WP 139 16 [some (.int x0)] [.int x0] (G, F, I, J) b post px := ip_nx_iff ((ip_st_of f139_15).trans rfl)
theorem f139_16 : ip_fetch 139 16 = some (.bipush 48, 2) := by decide +kernel
theorem s139_16 {x0 : Int32} {s0 : Int32} : ip_WP 139 16 [some (.int x0)] [.int s0] (G, F, I, J) b post px ↔ ip_WP 139 18 [some (.int x0)] [.int 48, .int s0] (G, F, I, J) b post px := ip_s_bipush f139_16 (by decide)
theorem f139_18 : ip_fetch 139 18 = some (.iadd, 1) := by decide +kernel
theorem s139_18 {x0 : Int32} {s0 : Int32} {s1 : Int32} : ip_WP 139 18 [some (.int x0)] [.int s1, .int s0] (G, F, I, J) b post px ↔ ip_WP 139 19 [some (.int x0)] [.int (s0 + s1)] (G, F, I, J) b post px := ip_nx_iff ((ip_st_of f139_18).trans rfl)
theorem f139_19 : ip_fetch 139 19 = some (.bipush 26, 2) := by decide +kernel
theorem s139_19 {x0 : Int32} {s0 : Int32} : ip_WP 139 19 [some (.int x0)] [.int s0] (G, F, I, J) b post px ↔ ip_WP 139 21 [some (.int x0)] [.int 26, .int s0] (G, F, I, J) b post px := ip_s_bipush f139_19 (by decide)
theorem f139_21 : ip_fetch 139 21 = some (.isub, 1) := by decide +kernel
theorem s139_21 {x0 : Int32} {s0 : Int32} {s1 : Int32} : ip_WP 139 21 [some (.int x0)] [.int s1, .int s0] (G, F, I, J) b post px ↔ ip_WP 139 22 [some (.int x0)] [.int (s0 - s1)] (G, F, I, J) b post px := ip_nx_iff ((ip_st_of f139_21).trans rfl)
theorem f139_22 : ip_fetch 139 22 = some (.iconst 1, 1) := by decide +kernel
theorem s139_22 {x0 : Int32} {s0 : Int32} : ip_WP 139 22 [some (.int x0)] [.int s0] (G, F, I, J) b post px ↔ ip_WP 139 23 [some (.int x0)] [.int 1, .int s0] (G, F, I, J) b post px := ip_s_iconst f139_22 (by decide)
theorem f139_23 : ip_fetch 139 23 = some (.isub, 1) := by decide +kernel
theorem s139_23 {x0 : Int32} {s0 : Int32} {s1 : Int32} : ip_WP 139 23 [some (.int x0)] [.int s1, .int s0] (G, F, I, J) b post px ↔ ip_WP 139 24 [some (.int x0)] [.int (s0 - s1)] (G, F, I, J) b post px := ip_nx_iff ((ip_st_of f139_23).trans rfl)
theorem f139_24 : ip_fetch 139 24 = some (.ireturn, 1) := by decide +kernel
theorem s139_24 {x0 : Int32} {s0 : Int32} : ip_WP 139 24 [some (.int x0)] [.int s0] (G, F, I, J) b post px ↔ post (some (.int s0)) (G, F, I, J) := ip_rt_iff ((ip_st_of f139_24).trans rfl)
theorem f140_0 : ip_fetch 140 0 = some (.iload_n 0, 1) := by decide +kernel
theorem s140_0 {x0 : Int32} : ip_WP 140 0 [some (.int x0)] [] (G, F, I, J) b post px ↔ ip_WP 140 1 [some (.int x0)] [.int x0] (G, F, I, J) b post px := ip_nx_iff ((ip_st_of f140_0).trans rfl)
theorem f140_1 : ip_fetch 140 1 = some (.bipush 97, 2) := by decide +kernel
theorem s140_1 {x0 : Int32} {s0 : Int32} : ip_WP 140 1 [some (.int x0)] [.int s0] (G, F, I, J) b post px ↔ ip_WP 140 3 [some (.int x0)] [.int 97, .int s0] (G, F, I, J) b post px := ip_s_bipush f140_1 (by decide)
theorem f140_3 : ip_fetch 140 3 = some (.if_icmp .lt 13, 3) := by decide +kernel
theorem s140_3 {x0 : Int32} {s0 : Int32} {s1 : Int32} : ip_WP 140 3 [some (.int x0)] [.int s1, .int s0] (G, F, I, J) b post px ↔ if s0 < s1 then ip_WP 140 16 [some (.int x0)] [] (G, F, I, J) b post px else ip_WP 140 6 [some (.int x0)] [] (G, F, I, J) b post px := ip_s_ic_lt f140_3 rfl
theorem f140_6 : ip_fetch 140 6 = some (.iload_n 0, 1) := by decide +kernel
theorem s140_6 {x0 : Int32} : ip_WP 140 6 [some (.int x0)] [] (G, F, I, J) b post px ↔ ip_WP 140 7 [some (.int x0)] [.int x0] (G, F, I, J) b post px := ip_nx_iff ((ip_st_of f140_6).trans rfl)
theorem f140_7 : ip_fetch 140 7 = some (.bipush 122, 2) := by decide +kernel
theorem s140_7 {x0 : Int32} {s0 : Int32} : ip_WP 140 7 [some (.int x0)] [.int s0] (G, F, I, J) b post px ↔ ip_WP 140 9 [some (.int x0)] [.int 122, .int s0] (G, F, I, J) b post px := ip_s_bipush f140_7 (by decide)
theorem f140_9 : ip_fetch 140 9 = some (.if_icmp .gt 7, 3) := by decide +kernel
theorem s140_9 {x0 : Int32} {s0 : Int32} {s1 : Int32} : ip_WP 140 9 [some (.int x0)] [.int s1, .int s0] (G, F, I, J) b post px ↔ if s1 < s0 then ip_WP 140 16 [some (.int x0)] [] (G, F, I, J) b post px else ip_WP 140 12 [some (.int x0)] [] (G, F, I, J) b post px := ip_s_ic_gt f140_9 rfl
theorem f140_12 : ip_fetch 140 12 = some (.iconst 1, 1) := by decide +kernel
theorem s140_12 {x0 : Int32} : ip_WP 140 12 [some (.int x0)] [] (G, F, I, J) b post px ↔ ip_WP 140 13 [some (.int x0)] [.int 1] (G, F, I, J) b post px := ip_s_iconst f140_12 (by decide)
theorem f140_13 : ip_fetch 140 13 = some (.goto 4, 3) := by decide +kernel
theorem s140_13 {x0 : Int32} {s0 : Int32} : ip_WP 140 13 [some (.int x0)] [.int s0] (G, F, I, J) b post px ↔ ip_WP 140 17 [some (.int x0)] [.int s0] (G, F, I, J) b post px := ip_nx_iff ((ip_st_of f140_13).trans rfl)
theorem f140_16 : ip_fetch 140 16 = some (.iconst 0, 1) := by decide +kernel
theorem s140_16 {x0 : Int32} : ip_WP 140 16 [some (.int x0)] [] (G, F, I, J) b post px ↔ ip_WP 140 17 [some (.int x0)] [.int 0] (G, F, I, J) b post px := ip_s_iconst f140_16 (by decide)
theorem f140_17 : ip_fetch 140 17 = some (.ireturn, 1) := by decide +kernel
theorem s140_17 {x0 : Int32} {s0 : Int32} : ip_WP 140 17 [some (.int x0)] [.int s0] (G, F, I, J) b post px ↔ ((s0 = 0 ∨ s0 = 1) ∧ post (some (.int s0)) (G, F, I, J)) := ip_s_zret ((ip_st_of f140_17).trans rfl)
theorem f141_0 : ip_fetch 141 0 = some (.iload_n 0, 1) := by decide +kernel
theorem s141_0 {x0 : Int32} : ip_WP 141 0 [some (.int x0)] [] (G, F, I, J) b post px ↔ ip_WP 141 1 [some (.int x0)] [.int x0] (G, F, I, J) b post px := ip_nx_iff ((ip_st_of f141_0).trans rfl)
theorem f141_1 : ip_fetch 141 1 = some (.bipush 48, 2) := by decide +kernel
theorem s141_1 {x0 : Int32} {s0 : Int32} : ip_WP 141 1 [some (.int x0)] [.int s0] (G, F, I, J) b post px ↔ ip_WP 141 3 [some (.int x0)] [.int 48, .int s0] (G, F, I, J) b post px := ip_s_bipush f141_1 (by decide)
theorem f141_3 : ip_fetch 141 3 = some (.if_icmp .lt 13, 3) := by decide +kernel
theorem s141_3 {x0 : Int32} {s0 : Int32} {s1 : Int32} : ip_WP 141 3 [some (.int x0)] [.int s1, .int s0] (G, F, I, J) b post px ↔ if s0 < s1 then ip_WP 141 16 [some (.int x0)] [] (G, F, I, J) b post px else ip_WP 141 6 [some (.int x0)] [] (G, F, I, J) b post px := ip_s_ic_lt f141_3 rfl
theorem f141_6 : ip_fetch 141 6 = some (.iload_n 0, 1) := by decide +kernel
theorem s141_6 {x0 : Int32} : ip_WP 141 6 [some (.int x0)] [] (G, F, I, J) b post px ↔ ip_WP 141 7 [some (.int x0)] [.int x0] (G, F, I, J) b post px := ip_nx_iff ((ip_st_of f141_6).trans rfl)
theorem f141_7 : ip_fetch 141 7 = some (.bipush 57, 2) := by decide +kernel
theorem s141_7 {x0 : Int32} {s0 : Int32} : ip_WP 141 7 [some (.int x0)] [.int s0] (G, F, I, J) b post px ↔ ip_WP 141 9 [some (.int x0)] [.int 57, .int s0] (G, F, I, J) b post px := ip_s_bipush f141_7 (by decide)
theorem f141_9 : ip_fetch 141 9 = some (.if_icmp .gt 7, 3) := by decide +kernel
theorem s141_9 {x0 : Int32} {s0 : Int32} {s1 : Int32} : ip_WP 141 9 [some (.int x0)] [.int s1, .int s0] (G, F, I, J) b post px ↔ if s1 < s0 then ip_WP 141 16 [some (.int x0)] [] (G, F, I, J) b post px else ip_WP 141 12 [some (.int x0)] [] (G, F, I, J) b post px := ip_s_ic_gt f141_9 rfl
theorem f141_12 : ip_fetch 141 12 = some (.iconst 1, 1) := by decide +kernel
theorem s141_12 {x0 : Int32} : ip_WP 141 12 [some (.int x0)] [] (G, F, I, J) b post px ↔ ip_WP 141 13 [some (.int x0)] [.int 1] (G, F, I, J) b post px := ip_s_iconst f141_12 (by decide)
theorem f141_13 : ip_fetch 141 13 = some (.goto 4, 3) := by decide +kernel
theorem s141_13 {x0 : Int32} {s0 : Int32} : ip_WP 141 13 [some (.int x0)] [.int s0] (G, F, I, J) b post px ↔ ip_WP 141 17 [some (.int x0)] [.int s0] (G, F, I, J) b post px := ip_nx_iff ((ip_st_of f141_13).trans rfl)
theorem f141_16 : ip_fetch 141 16 = some (.iconst 0, 1) := by decide +kernel
theorem s141_16 {x0 : Int32} : ip_WP 141 16 [some (.int x0)] [] (G, F, I, J) b post px ↔ ip_WP 141 17 [some (.int x0)] [.int 0] (G, F, I, J) b post px := ip_s_iconst f141_16 (by decide)
theorem f141_17 : ip_fetch 141 17 = some (.ireturn, 1) := by decide +kernel
theorem s141_17 {x0 : Int32} {s0 : Int32} : ip_WP 141 17 [some (.int x0)] [.int s0] (G, F, I, J) b post px ↔ ((s0 = 0 ∨ s0 = 1) ∧ post (some (.int s0)) (G, F, I, J)) := ip_s_zret ((ip_st_of f141_17).trans rfl)
theorem f142_0 : ip_fetch 142 0 = some (.lconst 0, 1) := by decide +kernel
theorem s142_0 {x0 : Nat} {x1 : Option Value} {x2 : Option Value} {x3 : Option Value} : ip_WP 142 0 [some (.ref x0), x1, x2, x3] [] (G, F, I, J) b post px ↔ ip_WP 142 1 [some (.ref x0), x1, x2, x3] [.long 0] (G, F, I, J) b post px := ip_s_lconst f142_0 (by decide)
theorem f142_1 : ip_fetch 142 1 = some (.lstore_n 1, 1) := by decide +kernel
theorem s142_1 {x0 : Nat} {x1 : Option Value} {x2 : Option Value} {x3 : Option Value} {s0 : Int64} : ip_WP 142 1 [some (.ref x0), x1, x2, x3] [.long s0] (G, F, I, J) b post px ↔ ip_WP 142 2 [some (.ref x0), some (.long s0), none, x3] [] (G, F, I, J) b post px := ip_nx_iff ((ip_st_of f142_1).trans rfl)
theorem f142_2 : ip_fetch 142 2 = some (.iconst 0, 1) := by decide +kernel
theorem s142_2 {x0 : Nat} {x1 : Int64} {x3 : Option Value} : ip_WP 142 2 [some (.ref x0), some (.long x1), none, x3] [] (G, F, I, J) b post px ↔ ip_WP 142 3 [some (.ref x0), some (.long x1), none, x3] [.int 0] (G, F, I, J) b post px := ip_s_iconst f142_2 (by decide)
theorem f142_3 : ip_fetch 142 3 = some (.istore_n 3, 1) := by decide +kernel
theorem s142_3 {x0 : Nat} {x1 : Int64} {x3 : Option Value} {s0 : Int32} : ip_WP 142 3 [some (.ref x0), some (.long x1), none, x3] [.int s0] (G, F, I, J) b post px ↔ ip_WP 142 4 [some (.ref x0), some (.long x1), none, some (.int s0)] [] (G, F, I, J) b post px := ip_nx_iff ((ip_st_of f142_3).trans rfl)
theorem f142_4 : ip_fetch 142 4 = some (.iload_n 3, 1) := by decide +kernel
theorem s142_4 {x0 : Nat} {x1 : Int64} {x3 : Int32} : ip_WP 142 4 [some (.ref x0), some (.long x1), none, some (.int x3)] [] (G, F, I, J) b post px ↔ ip_WP 142 5 [some (.ref x0), some (.long x1), none, some (.int x3)] [.int x3] (G, F, I, J) b post px := ip_nx_iff ((ip_st_of f142_4).trans rfl)
theorem f142_5 : ip_fetch 142 5 = some (.aload_n 0, 1) := by decide +kernel
theorem s142_5 {x0 : Nat} {x1 : Int64} {x3 : Int32} {s0 : Int32} : ip_WP 142 5 [some (.ref x0), some (.long x1), none, some (.int x3)] [.int s0] (G, F, I, J) b post px ↔ ip_WP 142 6 [some (.ref x0), some (.long x1), none, some (.int x3)] [.ref x0, .int s0] (G, F, I, J) b post px := ip_nx_iff ((ip_st_of f142_5).trans rfl)
theorem f142_6 : ip_fetch 142 6 = some (.invokevirtual 26, 3) := by decide +kernel
set_option maxRecDepth 100000 in
theorem s142_6 {x0 : Nat} {x1 : Int64} {x3 : Int32} {s0 : Int32} {s1 : Nat} : ip_WP 142 6 [some (.ref x0), some (.long x1), none, some (.int x3)] [.ref s1, .int s0] (G, F, I, J) b post px ↔ ip_on (ip_slen s1) (fun n => ip_WP 142 9 [some (.ref x0), some (.long x1), none, some (.int x3)] [.int (Int32.ofNat n), .int s0] (G, F, I, J) b post px) := ip_s_slen f142_6 rfl (Nat.le_of_ble_eq_true rfl)
theorem f142_9 : ip_fetch 142 9 = some (.if_icmp .ge 25, 3) := by decide +kernel
theorem s142_9 {x0 : Nat} {x1 : Int64} {x3 : Int32} {s0 : Int32} {s1 : Int32} : ip_WP 142 9 [some (.ref x0), some (.long x1), none, some (.int x3)] [.int s1, .int s0] (G, F, I, J) b post px ↔ if s1 ≤ s0 then ip_WP 142 34 [some (.ref x0), some (.long x1), none, some (.int x3)] [] (G, F, I, J) b post px else ip_WP 142 12 [some (.ref x0), some (.long x1), none, some (.int x3)] [] (G, F, I, J) b post px := ip_s_ic_ge f142_9 rfl
theorem f142_12 : ip_fetch 142 12 = some (.lload_n 1, 1) := by decide +kernel
theorem s142_12 {x0 : Nat} {x1 : Int64} {x3 : Int32} : ip_WP 142 12 [some (.ref x0), some (.long x1), none, some (.int x3)] [] (G, F, I, J) b post px ↔ ip_WP 142 13 [some (.ref x0), some (.long x1), none, some (.int x3)] [.long x1] (G, F, I, J) b post px := ip_nx_iff ((ip_st_of f142_12).trans rfl)
theorem f142_13 : ip_fetch 142 13 = some (.ldc2_w 32, 3) := by decide +kernel
set_option maxRecDepth 100000 in
theorem s142_13 {x0 : Nat} {x1 : Int64} {x3 : Int32} {s0 : Int64} : ip_WP 142 13 [some (.ref x0), some (.long x1), none, some (.int x3)] [.long s0] (G, F, I, J) b post px ↔ ip_WP 142 16 [some (.ref x0), some (.long x1), none, some (.int x3)] [.long 37, .long s0] (G, F, I, J) b post px := ip_nx_iff ((ip_st_of f142_13).trans rfl)
theorem f142_16 : ip_fetch 142 16 = some (.lmul, 1) := by decide +kernel
theorem s142_16 {x0 : Nat} {x1 : Int64} {x3 : Int32} {s0 : Int64} {s1 : Int64} : ip_WP 142 16 [some (.ref x0), some (.long x1), none, some (.int x3)] [.long s1, .long s0] (G, F, I, J) b post px ↔ ip_WP 142 17 [some (.ref x0), some (.long x1), none, some (.int x3)] [.long (s0 * s1)] (G, F, I, J) b post px := ip_nx_iff ((ip_st_of f142_16).trans rfl)
theorem f142_17 : ip_fetch 142 17 = some (.aload_n 0, 1) := by decide +kernel
theorem s142_17 {x0 : Nat} {x1 : Int64} {x3 : Int32} {s0 : Int64} : ip_WP 142 17 [some (.ref x0), some (.long x1), none, some (.int x3)] [.long s0] (G, F, I, J) b post px ↔ ip_WP 142 18 [some (.ref x0), some (.long x1), none, some (.int x3)] [.ref x0, .long s0] (G, F, I, J) b post px := ip_nx_iff ((ip_st_of f142_17).trans rfl)
theorem f142_18 : ip_fetch 142 18 = some (.iload_n 3, 1) := by decide +kernel
theorem s142_18 {x0 : Nat} {x1 : Int64} {x3 : Int32} {s0 : Int64} {s1 : Nat} : ip_WP 142 18 [some (.ref x0), some (.long x1), none, some (.int x3)] [.ref s1, .long s0] (G, F, I, J) b post px ↔ ip_WP 142 19 [some (.ref x0), some (.long x1), none, some (.int x3)] [.int x3, .ref s1, .long s0] (G, F, I, J) b post px := ip_nx_iff ((ip_st_of f142_18).trans rfl)
theorem f142_19 : ip_fetch 142 19 = some (.invokevirtual 34, 3) := by decide +kernel
set_option maxRecDepth 100000 in
theorem s142_19 {x0 : Nat} {x1 : Int64} {x3 : Int32} {s0 : Int64} {s1 : Nat} {s2 : Int32} : ip_WP 142 19 [some (.ref x0), some (.long x1), none, some (.int x3)] [.int s2, .ref s1, .long s0] (G, F, I, J) b post px ↔ ip_on (ip_sch s1 s2) (fun c => ip_WP 142 22 [some (.ref x0), some (.long x1), none, some (.int x3)] [.int c, .long s0] (G, F, I, J) b post px) := ip_s_sch f142_19 rfl (Nat.le_of_ble_eq_true rfl)
theorem f142_22 : ip_fetch 142 22 = some (.invokestatic 38, 3) := by decide +kernel
set_option maxRecDepth 100000 in
theorem s142_22 {x0 : Nat} {x1 : Int64} {x3 : Int32} {s0 : Int64} {s1 : Int32} : ip_WP 142 22 [some (.ref x0), some (.long x1), none, some (.int x3)] [.int s1, .long s0] (G, F, I, J) b post px ↔ ip_WP 138 0 [some (.int s1)] [] (G, F, I, J) (0, 0) (fun r h' => ip_WP 142 25 [some (.ref x0), some (.long x1), none, some (.int x3)] (r.toList ++ [.long s0]) h' b post px) (fun _ _ => False) := ip_cl_iff ((ip_st_of f142_22).trans (rfl : _ = ip_cl 138 [some (.int s1)] [.long s0] (0, 0) b))
theorem f142_25 : ip_fetch 142 25 = some (.i2l, 1) := by decide +kernel
theorem s142_25 {x0 : Nat} {x1 : Int64} {x3 : Int32} {s0 : Int64} {s1 : Int32} : ip_WP 142 25 [some (.ref x0), some (.long x1), none, some (.int x3)] [.int s1, .long s0] (G, F, I, J) b post px ↔ ip_WP 142 26 [some (.ref x0), some (.long x1), none, some (.int x3)] [.long s1.toInt64, .long s0] (G, F, I, J) b post px := ip_nx_iff ((ip_st_of f142_25).trans rfl)
theorem f142_26 : ip_fetch 142 26 = some (.ladd, 1) := by decide +kernel
theorem s142_26 {x0 : Nat} {x1 : Int64} {x3 : Int32} {s0 : Int64} {s1 : Int64} : ip_WP 142 26 [some (.ref x0), some (.long x1), none, some (.int x3)] [.long s1, .long s0] (G, F, I, J) b post px ↔ ip_WP 142 27 [some (.ref x0), some (.long x1), none, some (.int x3)] [.long (s0 + s1)] (G, F, I, J) b post px := ip_nx_iff ((ip_st_of f142_26).trans rfl)
theorem f142_27 : ip_fetch 142 27 = some (.lstore_n 1, 1) := by decide +kernel
theorem s142_27 {x0 : Nat} {x1 : Int64} {x3 : Int32} {s0 : Int64} : ip_WP 142 27 [some (.ref x0), some (.long x1), none, some (.int x3)] [.long s0] (G, F, I, J) b post px ↔ ip_WP 142 28 [some (.ref x0), some (.long s0), none, some (.int x3)] [] (G, F, I, J) b post px := ip_nx_iff ((ip_st_of f142_27).trans rfl)
theorem f142_28 : ip_fetch 142 28 = some (.iinc 3 1, 3) := by decide +kernel
theorem s142_28 {x0 : Nat} {x1 : Int64} {x3 : Int32} : ip_WP 142 28 [some (.ref x0), some (.long x1), none, some (.int x3)] [] (G, F, I, J) b post px ↔ ip_WP 142 31 [some (.ref x0), some (.long x1), none, some (.int (x3 + 1))] [] (G, F, I, J) b post px := ip_s_iinc f142_28 rfl (by decide)
theorem f142_31 : ip_fetch 142 31 = some (.goto (-27), 3) := by decide +kernel
theorem s142_31 {x0 : Nat} {x1 : Int64} {x3 : Int32} : ip_WP 142 31 [some (.ref x0), some (.long x1), none, some (.int x3)] [] (G, F, I, J) b post px ↔ ip_WP 142 4 [some (.ref x0), some (.long x1), none, some (.int x3)] [] (G, F, I, J) b post px := ip_nx_iff ((ip_st_of f142_31).trans rfl)
theorem f142_34 : ip_fetch 142 34 = some (.lload_n 1, 1) := by decide +kernel
theorem s142_34 {x0 : Nat} {x1 : Int64} {x3 : Int32} : ip_WP 142 34 [some (.ref x0), some (.long x1), none, some (.int x3)] [] (G, F, I, J) b post px ↔ ip_WP 142 35 [some (.ref x0), some (.long x1), none, some (.int x3)] [.long x1] (G, F, I, J) b post px := ip_nx_iff ((ip_st_of f142_34).trans rfl)
theorem f142_35 : ip_fetch 142 35 = some (.lreturn, 1) := by decide +kernel
theorem s142_35 {x0 : Nat} {x1 : Int64} {x3 : Int32} {s0 : Int64} : ip_WP 142 35 [some (.ref x0), some (.long x1), none, some (.int x3)] [.long s0] (G, F, I, J) b post px ↔ post (some (.long s0)) (G, F, I, J) := ip_rt_iff ((ip_st_of f142_35).trans rfl)
theorem f143_0 : ip_fetch 143 0 = some (.aload_n 0, 1) := by decide +kernel
theorem s143_0 {x0 : Nat} : ip_WP 143 0 [some (.ref x0)] [] (G, F, I, J) b post px ↔ ip_WP 143 1 [some (.ref x0)] [.ref x0] (G, F, I, J) b post px := ip_nx_iff ((ip_st_of f143_0).trans rfl)
theorem f143_1 : ip_fetch 143 1 = some (.getfield 15, 3) := by decide +kernel
set_option maxRecDepth 100000 in
theorem s143_1 {x0 : Nat} {s0 : Nat} : ip_WP 143 1 [some (.ref x0)] [.ref s0] (G, F, I, J) b post px ↔ (ip_isO G s0 6 = true ∧ ip_WP 143 4 [some (.ref x0)] [F s0 1] (G, F, I, J) b post px) := ip_s_getf f143_1 (by decide +kernel)
theorem f143_4 : ip_fetch 143 4 = some (.ireturn, 1) := by decide +kernel
theorem s143_4 {x0 : Nat} {s0 : Int32} : ip_WP 143 4 [some (.ref x0)] [.int s0] (G, F, I, J) b post px ↔ post (some (.int s0)) (G, F, I, J) := ip_rt_iff ((ip_st_of f143_4).trans rfl)
theorem f144_0 : ip_fetch 144 0 = some (.aload_n 0, 1) := by decide +kernel
theorem s144_0 {x0 : Nat} : ip_WP 144 0 [some (.ref x0)] [] (G, F, I, J) b post px ↔ ip_WP 144 1 [some (.ref x0)] [.ref x0] (G, F, I, J) b post px := ip_nx_iff ((ip_st_of f144_0).trans rfl)
theorem f144_1 : ip_fetch 144 1 = some (.getfield 15, 3) := by decide +kernel
set_option maxRecDepth 100000 in
theorem s144_1 {x0 : Nat} {s0 : Nat} : ip_WP 144 1 [some (.ref x0)] [.ref s0] (G, F, I, J) b post px ↔ (ip_isO G s0 6 = true ∧ ip_WP 144 4 [some (.ref x0)] [F s0 1] (G, F, I, J) b post px) := ip_s_getf f144_1 (by decide +kernel)
theorem f144_4 : ip_fetch 144 4 = some (.aload_n 0, 1) := by decide +kernel
theorem s144_4 {x0 : Nat} {s0 : Int32} : ip_WP 144 4 [some (.ref x0)] [.int s0] (G, F, I, J) b post px ↔ ip_WP 144 5 [some (.ref x0)] [.ref x0, .int s0] (G, F, I, J) b post px := ip_nx_iff ((ip_st_of f144_4).trans rfl)
theorem f144_5 : ip_fetch 144 5 = some (.getfield 9, 3) := by decide +kernel
set_option maxRecDepth 100000 in
theorem s144_5 {x0 : Nat} {s0 : Int32} {s1 : Nat} : ip_WP 144 5 [some (.ref x0)] [.ref s1, .int s0] (G, F, I, J) b post px ↔ (ip_isO G s1 6 = true ∧ ip_WP 144 8 [some (.ref x0)] [F s1 0, .int s0] (G, F, I, J) b post px) := ip_s_getf f144_5 (by decide +kernel)
theorem f144_8 : ip_fetch 144 8 = some (.arraylength, 1) := by decide +kernel
theorem s144_8 {x0 : Nat} {s0 : Int32} {s1 : Nat} : ip_WP 144 8 [some (.ref x0)] [.ref s1, .int s0] (G, F, I, J) b post px ↔ ip_on (ip_lenA G s1) (fun n => ip_WP 144 9 [some (.ref x0)] [.int (Int32.ofNat n), .int s0] (G, F, I, J) b post px) := ip_s_alen (by decide) f144_8
theorem f144_9 : ip_fetch 144 9 = some (.if_icmp .lt 7, 3) := by decide +kernel
theorem s144_9 {x0 : Nat} {s0 : Int32} {s1 : Int32} : ip_WP 144 9 [some (.ref x0)] [.int s1, .int s0] (G, F, I, J) b post px ↔ if s0 < s1 then ip_WP 144 16 [some (.ref x0)] [] (G, F, I, J) b post px else ip_WP 144 12 [some (.ref x0)] [] (G, F, I, J) b post px := ip_s_ic_lt f144_9 rfl
theorem f144_12 : ip_fetch 144 12 = some (.iconst 1, 1) := by decide +kernel
theorem s144_12 {x0 : Nat} : ip_WP 144 12 [some (.ref x0)] [] (G, F, I, J) b post px ↔ ip_WP 144 13 [some (.ref x0)] [.int 1] (G, F, I, J) b post px := ip_s_iconst f144_12 (by decide)
theorem f144_13 : ip_fetch 144 13 = some (.goto 4, 3) := by decide +kernel
theorem s144_13 {x0 : Nat} {s0 : Int32} : ip_WP 144 13 [some (.ref x0)] [.int s0] (G, F, I, J) b post px ↔ ip_WP 144 17 [some (.ref x0)] [.int s0] (G, F, I, J) b post px := ip_nx_iff ((ip_st_of f144_13).trans rfl)
theorem f144_16 : ip_fetch 144 16 = some (.iconst 0, 1) := by decide +kernel
theorem s144_16 {x0 : Nat} : ip_WP 144 16 [some (.ref x0)] [] (G, F, I, J) b post px ↔ ip_WP 144 17 [some (.ref x0)] [.int 0] (G, F, I, J) b post px := ip_s_iconst f144_16 (by decide)
theorem f144_17 : ip_fetch 144 17 = some (.ireturn, 1) := by decide +kernel
theorem s144_17 {x0 : Nat} {s0 : Int32} : ip_WP 144 17 [some (.ref x0)] [.int s0] (G, F, I, J) b post px ↔ ((s0 = 0 ∨ s0 = 1) ∧ post (some (.int s0)) (G, F, I, J)) := ip_s_zret ((ip_st_of f144_17).trans rfl)
theorem f145_0 : ip_fetch 145 0 = some (.aload_n 0, 1) := by decide +kernel
theorem s145_0 {x0 : Nat} : ip_WP 145 0 [some (.ref x0)] [] (G, F, I, J) b post px ↔ ip_WP 145 1 [some (.ref x0)] [.ref x0] (G, F, I, J) b post px := ip_nx_iff ((ip_st_of f145_0).trans rfl)
theorem f145_1 : ip_fetch 145 1 = some (.iconst 0, 1) := by decide +kernel
theorem s145_1 {x0 : Nat} {s0 : Nat} : ip_WP 145 1 [some (.ref x0)] [.ref s0] (G, F, I, J) b post px ↔ ip_WP 145 2 [some (.ref x0)] [.int 0, .ref s0] (G, F, I, J) b post px := ip_s_iconst f145_1 (by decide)
theorem f145_2 : ip_fetch 145 2 = some (.putfield 15, 3) := by decide +kernel
set_option maxRecDepth 100000 in
theorem s145_2 {x0 : Nat} {s0 : Nat} {s1 : Int32} : ip_WP 145 2 [some (.ref x0)] [.int s1, .ref s0] (G, F, I, J) b post px ↔ (ip_isO G s0 6 = true ∧ ip_WP 145 5 [some (.ref x0)] [] (G, ip_up F s0 1 (.int s1), I, J) b post px) := ip_s_put f145_2 (by decide +kernel) rfl
theorem f145_5 : ip_fetch 145 5 = some (.return_, 1) := by decide +kernel
theorem s145_5 {x0 : Nat} : ip_WP 145 5 [some (.ref x0)] [] (G, F, I, J) b post px ↔ post none (G, F, I, J) := ip_rt_iff ((ip_st_of f145_5).trans rfl)
theorem f146_0 : ip_fetch 146 0 = some (.aload_n 0, 1) := by decide +kernel
theorem s146_0 {x0 : Nat} {x1 : Int64} : ip_WP 146 0 [some (.ref x0), some (.long x1), none] [] (G, F, I, J) b post px ↔ ip_WP 146 1 [some (.ref x0), some (.long x1), none] [.ref x0] (G, F, I, J) b post px := ip_nx_iff ((ip_st_of f146_0).trans rfl)
theorem f146_1 : ip_fetch 146 1 = some (.getfield 15, 3) := by decide +kernel
set_option maxRecDepth 100000 in
theorem s146_1 {x0 : Nat} {x1 : Int64} {s0 : Nat} : ip_WP 146 1 [some (.ref x0), some (.long x1), none] [.ref s0] (G, F, I, J) b post px ↔ (ip_isO G s0 6 = true ∧ ip_WP 146 4 [some (.ref x0), some (.long x1), none] [F s0 1] (G, F, I, J) b post px) := ip_s_getf f146_1 (by decide +kernel)
theorem f146_4 : ip_fetch 146 4 = some (.aload_n 0, 1) := by decide +kernel
theorem s146_4 {x0 : Nat} {x1 : Int64} {s0 : Int32} : ip_WP 146 4 [some (.ref x0), some (.long x1), none] [.int s0] (G, F, I, J) b post px ↔ ip_WP 146 5 [some (.ref x0), some (.long x1), none] [.ref x0, .int s0] (G, F, I, J) b post px := ip_nx_iff ((ip_st_of f146_4).trans rfl)
theorem f146_5 : ip_fetch 146 5 = some (.getfield 9, 3) := by decide +kernel
set_option maxRecDepth 100000 in
theorem s146_5 {x0 : Nat} {x1 : Int64} {s0 : Int32} {s1 : Nat} : ip_WP 146 5 [some (.ref x0), some (.long x1), none] [.ref s1, .int s0] (G, F, I, J) b post px ↔ (ip_isO G s1 6 = true ∧ ip_WP 146 8 [some (.ref x0), some (.long x1), none] [F s1 0, .int s0] (G, F, I, J) b post px) := ip_s_getf f146_5 (by decide +kernel)
theorem f146_8 : ip_fetch 146 8 = some (.arraylength, 1) := by decide +kernel
theorem s146_8 {x0 : Nat} {x1 : Int64} {s0 : Int32} {s1 : Nat} : ip_WP 146 8 [some (.ref x0), some (.long x1), none] [.ref s1, .int s0] (G, F, I, J) b post px ↔ ip_on (ip_lenA G s1) (fun n => ip_WP 146 9 [some (.ref x0), some (.long x1), none] [.int (Int32.ofNat n), .int s0] (G, F, I, J) b post px) := ip_s_alen (by decide) f146_8
theorem f146_9 : ip_fetch 146 9 = some (.if_icmp .lt 5, 3) := by decide +kernel
theorem s146_9 {x0 : Nat} {x1 : Int64} {s0 : Int32} {s1 : Int32} : ip_WP 146 9 [some (.ref x0), some (.long x1), none] [.int s1, .int s0] (G, F, I, J) b post px ↔ if s0 < s1 then ip_WP 146 14 [some (.ref x0), some (.long x1), none] [] (G, F, I, J) b post px else ip_WP 146 12 [some (.ref x0), some (.long x1), none] [] (G, F, I, J) b post px := ip_s_ic_lt f146_9 rfl
theorem f146_12 : ip_fetch 146 12 = some (.iconst (-1), 1) := by decide +kernel
theorem s146_12 {x0 : Nat} {x1 : Int64} : ip_WP 146 12 [some (.ref x0), some (.long x1), none] [] (G, F, I, J) b post px ↔ ip_WP 146 13 [some (.ref x0), some (.long x1), none] [.int (-1)] (G, F, I, J) b post px := ip_s_iconst f146_12 (by decide)
theorem f146_13 : ip_fetch 146 13 = some (.ireturn, 1) := by decide +kernel
theorem s146_13 {x0 : Nat} {x1 : Int64} {s0 : Int32} : ip_WP 146 13 [some (.ref x0), some (.long x1), none] [.int s0] (G, F, I, J) b post px ↔ post (some (.int s0)) (G, F, I, J) := ip_rt_iff ((ip_st_of f146_13).trans rfl)
theorem f146_14 : ip_fetch 146 14 = some (.aload_n 0, 1) := by decide +kernel
theorem s146_14 {x0 : Nat} {x1 : Int64} : ip_WP 146 14 [some (.ref x0), some (.long x1), none] [] (G, F, I, J) b post px ↔ ip_WP 146 15 [some (.ref x0), some (.long x1), none] [.ref x0] (G, F, I, J) b post px := ip_nx_iff ((ip_st_of f146_14).trans rfl)
theorem f146_15 : ip_fetch 146 15 = some (.getfield 9, 3) := by decide +kernel
set_option maxRecDepth 100000 in
theorem s146_15 {x0 : Nat} {x1 : Int64} {s0 : Nat} : ip_WP 146 15 [some (.ref x0), some (.long x1), none] [.ref s0] (G, F, I, J) b post px ↔ (ip_isO G s0 6 = true ∧ ip_WP 146 18 [some (.ref x0), some (.long x1), none] [F s0 0] (G, F, I, J) b post px) := ip_s_getf f146_15 (by decide +kernel)
theorem f146_18 : ip_fetch 146 18 = some (.aload_n 0, 1) := by decide +kernel
theorem s146_18 {x0 : Nat} {x1 : Int64} {s0 : Nat} : ip_WP 146 18 [some (.ref x0), some (.long x1), none] [.ref s0] (G, F, I, J) b post px ↔ ip_WP 146 19 [some (.ref x0), some (.long x1), none] [.ref x0, .ref s0] (G, F, I, J) b post px := ip_nx_iff ((ip_st_of f146_18).trans rfl)
theorem f146_19 : ip_fetch 146 19 = some (.getfield 15, 3) := by decide +kernel
set_option maxRecDepth 100000 in
theorem s146_19 {x0 : Nat} {x1 : Int64} {s0 : Nat} {s1 : Nat} : ip_WP 146 19 [some (.ref x0), some (.long x1), none] [.ref s1, .ref s0] (G, F, I, J) b post px ↔ (ip_isO G s1 6 = true ∧ ip_WP 146 22 [some (.ref x0), some (.long x1), none] [F s1 1, .ref s0] (G, F, I, J) b post px) := ip_s_getf f146_19 (by decide +kernel)
theorem f146_22 : ip_fetch 146 22 = some (.lload_n 1, 1) := by decide +kernel
theorem s146_22 {x0 : Nat} {x1 : Int64} {s0 : Nat} {s1 : Int32} : ip_WP 146 22 [some (.ref x0), some (.long x1), none] [.int s1, .ref s0] (G, F, I, J) b post px ↔ ip_WP 146 23 [some (.ref x0), some (.long x1), none] [.long x1, .int s1, .ref s0] (G, F, I, J) b post px := ip_nx_iff ((ip_st_of f146_22).trans rfl)
theorem f146_23 : ip_fetch 146 23 = some (.lastore, 1) := by decide +kernel
theorem s146_23 {x0 : Nat} {x1 : Int64} {s0 : Nat} {s1 : Int32} {s2 : Int64} : ip_WP 146 23 [some (.ref x0), some (.long x1), none] [.long s2, .int s1, .ref s0] (G, F, I, J) b post px ↔ (ip_inA G s0 2 s1 = true ∧ ip_WP 146 24 [some (.ref x0), some (.long x1), none] [] (G, F, I, ip_up J s0 s1.toNatClampNeg s2) b post px) := ip_ck_iff ((ip_st_of f146_23).trans rfl) ip_nx_iff
theorem f146_24 : ip_fetch 146 24 = some (.aload_n 0, 1) := by decide +kernel
theorem s146_24 {x0 : Nat} {x1 : Int64} : ip_WP 146 24 [some (.ref x0), some (.long x1), none] [] (G, F, I, J) b post px ↔ ip_WP 146 25 [some (.ref x0), some (.long x1), none] [.ref x0] (G, F, I, J) b post px := ip_nx_iff ((ip_st_of f146_24).trans rfl)
theorem f146_25 : ip_fetch 146 25 = some (.dup, 1) := by decide +kernel
theorem s146_25 {x0 : Nat} {x1 : Int64} {s0 : Nat} : ip_WP 146 25 [some (.ref x0), some (.long x1), none] [.ref s0] (G, F, I, J) b post px ↔ ip_WP 146 26 [some (.ref x0), some (.long x1), none] [.ref s0, .ref s0] (G, F, I, J) b post px := ip_nx_iff ((ip_st_of f146_25).trans rfl)
theorem f146_26 : ip_fetch 146 26 = some (.getfield 15, 3) := by decide +kernel
set_option maxRecDepth 100000 in
theorem s146_26 {x0 : Nat} {x1 : Int64} {s0 : Nat} {s1 : Nat} : ip_WP 146 26 [some (.ref x0), some (.long x1), none] [.ref s1, .ref s0] (G, F, I, J) b post px ↔ (ip_isO G s1 6 = true ∧ ip_WP 146 29 [some (.ref x0), some (.long x1), none] [F s1 1, .ref s0] (G, F, I, J) b post px) := ip_s_getf f146_26 (by decide +kernel)
theorem f146_29 : ip_fetch 146 29 = some (.iconst 1, 1) := by decide +kernel
theorem s146_29 {x0 : Nat} {x1 : Int64} {s0 : Nat} {s1 : Int32} : ip_WP 146 29 [some (.ref x0), some (.long x1), none] [.int s1, .ref s0] (G, F, I, J) b post px ↔ ip_WP 146 30 [some (.ref x0), some (.long x1), none] [.int 1, .int s1, .ref s0] (G, F, I, J) b post px := ip_s_iconst f146_29 (by decide)
theorem f146_30 : ip_fetch 146 30 = some (.iadd, 1) := by decide +kernel
theorem s146_30 {x0 : Nat} {x1 : Int64} {s0 : Nat} {s1 : Int32} {s2 : Int32} : ip_WP 146 30 [some (.ref x0), some (.long x1), none] [.int s2, .int s1, .ref s0] (G, F, I, J) b post px ↔ ip_WP 146 31 [some (.ref x0), some (.long x1), none] [.int (s1 + s2), .ref s0] (G, F, I, J) b post px := ip_nx_iff ((ip_st_of f146_30).trans rfl)
theorem f146_31 : ip_fetch 146 31 = some (.putfield 15, 3) := by decide +kernel
set_option maxRecDepth 100000 in
theorem s146_31 {x0 : Nat} {x1 : Int64} {s0 : Nat} {s1 : Int32} : ip_WP 146 31 [some (.ref x0), some (.long x1), none] [.int s1, .ref s0] (G, F, I, J) b post px ↔ (ip_isO G s0 6 = true ∧ ip_WP 146 34 [some (.ref x0), some (.long x1), none] [] (G, ip_up F s0 1 (.int s1), I, J) b post px) := ip_s_put f146_31 (by decide +kernel) rfl
theorem f146_34 : ip_fetch 146 34 = some (.aload_n 0, 1) := by decide +kernel
theorem s146_34 {x0 : Nat} {x1 : Int64} : ip_WP 146 34 [some (.ref x0), some (.long x1), none] [] (G, F, I, J) b post px ↔ ip_WP 146 35 [some (.ref x0), some (.long x1), none] [.ref x0] (G, F, I, J) b post px := ip_nx_iff ((ip_st_of f146_34).trans rfl)
theorem f146_35 : ip_fetch 146 35 = some (.getfield 15, 3) := by decide +kernel
set_option maxRecDepth 100000 in
theorem s146_35 {x0 : Nat} {x1 : Int64} {s0 : Nat} : ip_WP 146 35 [some (.ref x0), some (.long x1), none] [.ref s0] (G, F, I, J) b post px ↔ (ip_isO G s0 6 = true ∧ ip_WP 146 38 [some (.ref x0), some (.long x1), none] [F s0 1] (G, F, I, J) b post px) := ip_s_getf f146_35 (by decide +kernel)
theorem f146_38 : ip_fetch 146 38 = some (.iconst 1, 1) := by decide +kernel
theorem s146_38 {x0 : Nat} {x1 : Int64} {s0 : Int32} : ip_WP 146 38 [some (.ref x0), some (.long x1), none] [.int s0] (G, F, I, J) b post px ↔ ip_WP 146 39 [some (.ref x0), some (.long x1), none] [.int 1, .int s0] (G, F, I, J) b post px := ip_s_iconst f146_38 (by decide)
theorem f146_39 : ip_fetch 146 39 = some (.isub, 1) := by decide +kernel
theorem s146_39 {x0 : Nat} {x1 : Int64} {s0 : Int32} {s1 : Int32} : ip_WP 146 39 [some (.ref x0), some (.long x1), none] [.int s1, .int s0] (G, F, I, J) b post px ↔ ip_WP 146 40 [some (.ref x0), some (.long x1), none] [.int (s0 - s1)] (G, F, I, J) b post px := ip_nx_iff ((ip_st_of f146_39).trans rfl)
theorem f146_40 : ip_fetch 146 40 = some (.ireturn, 1) := by decide +kernel
theorem s146_40 {x0 : Nat} {x1 : Int64} {s0 : Int32} : ip_WP 146 40 [some (.ref x0), some (.long x1), none] [.int s0] (G, F, I, J) b post px ↔ post (some (.int s0)) (G, F, I, J) := ip_rt_iff ((ip_st_of f146_40).trans rfl)
theorem f147_0 : ip_fetch 147 0 = some (.iload_n 1, 1) := by decide +kernel
theorem s147_0 {x0 : Nat} {x1 : Int32} : ip_WP 147 0 [some (.ref x0), some (.int x1)] [] (G, F, I, J) b post px ↔ ip_WP 147 1 [some (.ref x0), some (.int x1)] [.int x1] (G, F, I, J) b post px := ip_nx_iff ((ip_st_of f147_0).trans rfl)
theorem f147_1 : ip_fetch 147 1 = some (.ifCond .lt 20, 3) := by decide +kernel
theorem s147_1 {x0 : Nat} {x1 : Int32} {s0 : Int32} : ip_WP 147 1 [some (.ref x0), some (.int x1)] [.int s0] (G, F, I, J) b post px ↔ if s0 < 0 then ip_WP 147 21 [some (.ref x0), some (.int x1)] [] (G, F, I, J) b post px else ip_WP 147 4 [some (.ref x0), some (.int x1)] [] (G, F, I, J) b post px := ip_s_if_lt f147_1 rfl
theorem f147_4 : ip_fetch 147 4 = some (.iload_n 1, 1) := by decide +kernel
theorem s147_4 {x0 : Nat} {x1 : Int32} : ip_WP 147 4 [some (.ref x0), some (.int x1)] [] (G, F, I, J) b post px ↔ ip_WP 147 5 [some (.ref x0), some (.int x1)] [.int x1] (G, F, I, J) b post px := ip_nx_iff ((ip_st_of f147_4).trans rfl)
theorem f147_5 : ip_fetch 147 5 = some (.aload_n 0, 1) := by decide +kernel
theorem s147_5 {x0 : Nat} {x1 : Int32} {s0 : Int32} : ip_WP 147 5 [some (.ref x0), some (.int x1)] [.int s0] (G, F, I, J) b post px ↔ ip_WP 147 6 [some (.ref x0), some (.int x1)] [.ref x0, .int s0] (G, F, I, J) b post px := ip_nx_iff ((ip_st_of f147_5).trans rfl)
theorem f147_6 : ip_fetch 147 6 = some (.getfield 15, 3) := by decide +kernel
set_option maxRecDepth 100000 in
theorem s147_6 {x0 : Nat} {x1 : Int32} {s0 : Int32} {s1 : Nat} : ip_WP 147 6 [some (.ref x0), some (.int x1)] [.ref s1, .int s0] (G, F, I, J) b post px ↔ (ip_isO G s1 6 = true ∧ ip_WP 147 9 [some (.ref x0), some (.int x1)] [F s1 1, .int s0] (G, F, I, J) b post px) := ip_s_getf f147_6 (by decide +kernel)
theorem f147_9 : ip_fetch 147 9 = some (.if_icmp .ge 12, 3) := by decide +kernel
theorem s147_9 {x0 : Nat} {x1 : Int32} {s0 : Int32} {s1 : Int32} : ip_WP 147 9 [some (.ref x0), some (.int x1)] [.int s1, .int s0] (G, F, I, J) b post px ↔ if s1 ≤ s0 then ip_WP 147 21 [some (.ref x0), some (.int x1)] [] (G, F, I, J) b post px else ip_WP 147 12 [some (.ref x0), some (.int x1)] [] (G, F, I, J) b post px := ip_s_ic_ge f147_9 rfl
theorem f147_12 : ip_fetch 147 12 = some (.aload_n 0, 1) := by decide +kernel
theorem s147_12 {x0 : Nat} {x1 : Int32} : ip_WP 147 12 [some (.ref x0), some (.int x1)] [] (G, F, I, J) b post px ↔ ip_WP 147 13 [some (.ref x0), some (.int x1)] [.ref x0] (G, F, I, J) b post px := ip_nx_iff ((ip_st_of f147_12).trans rfl)
theorem f147_13 : ip_fetch 147 13 = some (.getfield 9, 3) := by decide +kernel
set_option maxRecDepth 100000 in
theorem s147_13 {x0 : Nat} {x1 : Int32} {s0 : Nat} : ip_WP 147 13 [some (.ref x0), some (.int x1)] [.ref s0] (G, F, I, J) b post px ↔ (ip_isO G s0 6 = true ∧ ip_WP 147 16 [some (.ref x0), some (.int x1)] [F s0 0] (G, F, I, J) b post px) := ip_s_getf f147_13 (by decide +kernel)
theorem f147_16 : ip_fetch 147 16 = some (.iload_n 1, 1) := by decide +kernel
theorem s147_16 {x0 : Nat} {x1 : Int32} {s0 : Nat} : ip_WP 147 16 [some (.ref x0), some (.int x1)] [.ref s0] (G, F, I, J) b post px ↔ ip_WP 147 17 [some (.ref x0), some (.int x1)] [.int x1, .ref s0] (G, F, I, J) b post px := ip_nx_iff ((ip_st_of f147_16).trans rfl)
theorem f147_17 : ip_fetch 147 17 = some (.laload, 1) := by decide +kernel
theorem s147_17 {x0 : Nat} {x1 : Int32} {s0 : Nat} {s1 : Int32} : ip_WP 147 17 [some (.ref x0), some (.int x1)] [.int s1, .ref s0] (G, F, I, J) b post px ↔ (ip_inA G s0 2 s1 = true ∧ ip_WP 147 18 [some (.ref x0), some (.int x1)] [.long (J s0 s1.toNatClampNeg)] (G, F, I, J) b post px) := ip_ck_iff ((ip_st_of f147_17).trans rfl) ip_nx_iff
theorem f147_18 : ip_fetch 147 18 = some (.goto 4, 3) := by decide +kernel
theorem s147_18 {x0 : Nat} {x1 : Int32} {s0 : Int64} : ip_WP 147 18 [some (.ref x0), some (.int x1)] [.long s0] (G, F, I, J) b post px ↔ ip_WP 147 22 [some (.ref x0), some (.int x1)] [.long s0] (G, F, I, J) b post px := ip_nx_iff ((ip_st_of f147_18).trans rfl)
theorem f147_21 : ip_fetch 147 21 = some (.lconst 0, 1) := by decide +kernel
theorem s147_21 {x0 : Nat} {x1 : Int32} : ip_WP 147 21 [some (.ref x0), some (.int x1)] [] (G, F, I, J) b post px ↔ ip_WP 147 22 [some (.ref x0), some (.int x1)] [.long 0] (G, F, I, J) b post px := ip_s_lconst f147_21 (by decide)
theorem f147_22 : ip_fetch 147 22 = some (.lreturn, 1) := by decide +kernel
theorem s147_22 {x0 : Nat} {x1 : Int32} {s0 : Int64} : ip_WP 147 22 [some (.ref x0), some (.int x1)] [.long s0] (G, F, I, J) b post px ↔ post (some (.long s0)) (G, F, I, J) := ip_rt_iff ((ip_st_of f147_22).trans rfl)
theorem f148_0 : ip_fetch 148 0 = some (.iconst 0, 1) := by decide +kernel
theorem s148_0 {x0 : Nat} {x1 : Int64} {x3 : Option Value} : ip_WP 148 0 [some (.ref x0), some (.long x1), none, x3] [] (G, F, I, J) b post px ↔ ip_WP 148 1 [some (.ref x0), some (.long x1), none, x3] [.int 0] (G, F, I, J) b post px := ip_s_iconst f148_0 (by decide)
theorem f148_1 : ip_fetch 148 1 = some (.istore_n 3, 1) := by decide +kernel
theorem s148_1 {x0 : Nat} {x1 : Int64} {x3 : Option Value} {s0 : Int32} : ip_WP 148 1 [some (.ref x0), some (.long x1), none, x3] [.int s0] (G, F, I, J) b post px ↔ ip_WP 148 2 [some (.ref x0), some (.long x1), none, some (.int s0)] [] (G, F, I, J) b post px := ip_nx_iff ((ip_st_of f148_1).trans rfl)
theorem f148_2 : ip_fetch 148 2 = some (.iload_n 3, 1) := by decide +kernel
theorem s148_2 {x0 : Nat} {x1 : Int64} {x3 : Int32} : ip_WP 148 2 [some (.ref x0), some (.long x1), none, some (.int x3)] [] (G, F, I, J) b post px ↔ ip_WP 148 3 [some (.ref x0), some (.long x1), none, some (.int x3)] [.int x3] (G, F, I, J) b post px := ip_nx_iff ((ip_st_of f148_2).trans rfl)
theorem f148_3 : ip_fetch 148 3 = some (.aload_n 0, 1) := by decide +kernel
theorem s148_3 {x0 : Nat} {x1 : Int64} {x3 : Int32} {s0 : Int32} : ip_WP 148 3 [some (.ref x0), some (.long x1), none, some (.int x3)] [.int s0] (G, F, I, J) b post px ↔ ip_WP 148 4 [some (.ref x0), some (.long x1), none, some (.int x3)] [.ref x0, .int s0] (G, F, I, J) b post px := ip_nx_iff ((ip_st_of f148_3).trans rfl)
theorem f148_4 : ip_fetch 148 4 = some (.getfield 15, 3) := by decide +kernel
set_option maxRecDepth 100000 in
theorem s148_4 {x0 : Nat} {x1 : Int64} {x3 : Int32} {s0 : Int32} {s1 : Nat} : ip_WP 148 4 [some (.ref x0), some (.long x1), none, some (.int x3)] [.ref s1, .int s0] (G, F, I, J) b post px ↔ (ip_isO G s1 6 = true ∧ ip_WP 148 7 [some (.ref x0), some (.long x1), none, some (.int x3)] [F s1 1, .int s0] (G, F, I, J) b post px) := ip_s_getf f148_4 (by decide +kernel)
theorem f148_7 : ip_fetch 148 7 = some (.if_icmp .ge 22, 3) := by decide +kernel
theorem s148_7 {x0 : Nat} {x1 : Int64} {x3 : Int32} {s0 : Int32} {s1 : Int32} : ip_WP 148 7 [some (.ref x0), some (.long x1), none, some (.int x3)] [.int s1, .int s0] (G, F, I, J) b post px ↔ if s1 ≤ s0 then ip_WP 148 29 [some (.ref x0), some (.long x1), none, some (.int x3)] [] (G, F, I, J) b post px else ip_WP 148 10 [some (.ref x0), some (.long x1), none, some (.int x3)] [] (G, F, I, J) b post px := ip_s_ic_ge f148_7 rfl
theorem f148_10 : ip_fetch 148 10 = some (.aload_n 0, 1) := by decide +kernel
theorem s148_10 {x0 : Nat} {x1 : Int64} {x3 : Int32} : ip_WP 148 10 [some (.ref x0), some (.long x1), none, some (.int x3)] [] (G, F, I, J) b post px ↔ ip_WP 148 11 [some (.ref x0), some (.long x1), none, some (.int x3)] [.ref x0] (G, F, I, J) b post px := ip_nx_iff ((ip_st_of f148_10).trans rfl)
theorem f148_11 : ip_fetch 148 11 = some (.getfield 9, 3) := by decide +kernel
set_option maxRecDepth 100000 in
theorem s148_11 {x0 : Nat} {x1 : Int64} {x3 : Int32} {s0 : Nat} : ip_WP 148 11 [some (.ref x0), some (.long x1), none, some (.int x3)] [.ref s0] (G, F, I, J) b post px ↔ (ip_isO G s0 6 = true ∧ ip_WP 148 14 [some (.ref x0), some (.long x1), none, some (.int x3)] [F s0 0] (G, F, I, J) b post px) := ip_s_getf f148_11 (by decide +kernel)
theorem f148_14 : ip_fetch 148 14 = some (.iload_n 3, 1) := by decide +kernel
theorem s148_14 {x0 : Nat} {x1 : Int64} {x3 : Int32} {s0 : Nat} : ip_WP 148 14 [some (.ref x0), some (.long x1), none, some (.int x3)] [.ref s0] (G, F, I, J) b post px ↔ ip_WP 148 15 [some (.ref x0), some (.long x1), none, some (.int x3)] [.int x3, .ref s0] (G, F, I, J) b post px := ip_nx_iff ((ip_st_of f148_14).trans rfl)
theorem f148_15 : ip_fetch 148 15 = some (.laload, 1) := by decide +kernel
theorem s148_15 {x0 : Nat} {x1 : Int64} {x3 : Int32} {s0 : Nat} {s1 : Int32} : ip_WP 148 15 [some (.ref x0), some (.long x1), none, some (.int x3)] [.int s1, .ref s0] (G, F, I, J) b post px ↔ (ip_inA G s0 2 s1 = true ∧ ip_WP 148 16 [some (.ref x0), some (.long x1), none, some (.int x3)] [.long (J s0 s1.toNatClampNeg)] (G, F, I, J) b post px) := ip_ck_iff ((ip_st_of f148_15).trans rfl) ip_nx_iff
theorem f148_16 : ip_fetch 148 16 = some (.lload_n 1, 1) := by decide +kernel
theorem s148_16 {x0 : Nat} {x1 : Int64} {x3 : Int32} {s0 : Int64} : ip_WP 148 16 [some (.ref x0), some (.long x1), none, some (.int x3)] [.long s0] (G, F, I, J) b post px ↔ ip_WP 148 17 [some (.ref x0), some (.long x1), none, some (.int x3)] [.long x1, .long s0] (G, F, I, J) b post px := ip_nx_iff ((ip_st_of f148_16).trans rfl)
theorem f148_17 : ip_fetch 148 17 = some (.lcmp, 1) := by decide +kernel
theorem s148_17 {x0 : Nat} {x1 : Int64} {x3 : Int32} {s0 : Int64} {s1 : Int64} : ip_WP 148 17 [some (.ref x0), some (.long x1), none, some (.int x3)] [.long s1, .long s0] (G, F, I, J) b post px ↔ ip_WP 148 18 [some (.ref x0), some (.long x1), none, some (.int x3)] [.int (lg_cmp s0 s1)] (G, F, I, J) b post px := ip_nx_iff ((ip_st_of f148_17).trans rfl)
theorem f148_18 : ip_fetch 148 18 = some (.ifCond .ne 5, 3) := by decide +kernel
theorem s148_18 {x0 : Nat} {x1 : Int64} {x3 : Int32} {s0 : Int32} : ip_WP 148 18 [some (.ref x0), some (.long x1), none, some (.int x3)] [.int s0] (G, F, I, J) b post px ↔ if ¬ s0 = 0 then ip_WP 148 23 [some (.ref x0), some (.long x1), none, some (.int x3)] [] (G, F, I, J) b post px else ip_WP 148 21 [some (.ref x0), some (.long x1), none, some (.int x3)] [] (G, F, I, J) b post px := ip_s_if_ne f148_18 rfl
theorem f148_21 : ip_fetch 148 21 = some (.iload_n 3, 1) := by decide +kernel
theorem s148_21 {x0 : Nat} {x1 : Int64} {x3 : Int32} : ip_WP 148 21 [some (.ref x0), some (.long x1), none, some (.int x3)] [] (G, F, I, J) b post px ↔ ip_WP 148 22 [some (.ref x0), some (.long x1), none, some (.int x3)] [.int x3] (G, F, I, J) b post px := ip_nx_iff ((ip_st_of f148_21).trans rfl)
theorem f148_22 : ip_fetch 148 22 = some (.ireturn, 1) := by decide +kernel
theorem s148_22 {x0 : Nat} {x1 : Int64} {x3 : Int32} {s0 : Int32} : ip_WP 148 22 [some (.ref x0), some (.long x1), none, some (.int x3)] [.int s0] (G, F, I, J) b post px ↔ post (some (.int s0)) (G, F, I, J) := ip_rt_iff ((ip_st_of f148_22).trans rfl)
theorem f148_23 : ip_fetch 148 23 = some (.iinc 3 1, 3) := by decide +kernel
theorem s148_23 {x0 : Nat} {x1 : Int64} {x3 : Int32} : ip_WP 148 23 [some (.ref x0), some (.long x1), none, some (.int x3)] [] (G, F, I, J) b post px ↔ ip_WP 148 26 [some (.ref x0), some (.long x1), none, some (.int (x3 + 1))] [] (G, F, I, J) b post px := ip_s_iinc f148_23 rfl (by decide)
theorem f148_26 : ip_fetch 148 26 = some (.goto (-24), 3) := by decide +kernel
theorem s148_26 {x0 : Nat} {x1 : Int64} {x3 : Int32} : ip_WP 148 26 [some (.ref x0), some (.long x1), none, some (.int x3)] [] (G, F, I, J) b post px ↔ ip_WP 148 2 [some (.ref x0), some (.long x1), none, some (.int x3)] [] (G, F, I, J) b post px := ip_nx_iff ((ip_st_of f148_26).trans rfl)
theorem f148_29 : ip_fetch 148 29 = some (.iconst (-1), 1) := by decide +kernel
theorem s148_29 {x0 : Nat} {x1 : Int64} {x3 : Int32} : ip_WP 148 29 [some (.ref x0), some (.long x1), none, some (.int x3)] [] (G, F, I, J) b post px ↔ ip_WP 148 30 [some (.ref x0), some (.long x1), none, some (.int x3)] [.int (-1)] (G, F, I, J) b post px := ip_s_iconst f148_29 (by decide)
theorem f148_30 : ip_fetch 148 30 = some (.ireturn, 1) := by decide +kernel
theorem s148_30 {x0 : Nat} {x1 : Int64} {x3 : Int32} {s0 : Int32} : ip_WP 148 30 [some (.ref x0), some (.long x1), none, some (.int x3)] [.int s0] (G, F, I, J) b post px ↔ post (some (.int s0)) (G, F, I, J) := ip_rt_iff ((ip_st_of f148_30).trans rfl)
theorem f149_0 : ip_fetch 149 0 = some (.aload_n 0, 1) := by decide +kernel
theorem s149_0 {x0 : Nat} {x1 : Nat} {x2 : Nat} : ip_WP 149 0 [some (.ref x0), some (.ref x1), some (.ref x2)] [] (G, F, I, J) b post px ↔ ip_WP 149 1 [some (.ref x0), some (.ref x1), some (.ref x2)] [.ref x0] (G, F, I, J) b post px := ip_nx_iff ((ip_st_of f149_0).trans rfl)
theorem f149_1 : ip_fetch 149 1 = some (.invokespecial 3, 3) := by decide +kernel
set_option maxRecDepth 100000 in
theorem s149_1 {x0 : Nat} {x1 : Nat} {x2 : Nat} {s0 : Nat} : ip_WP 149 1 [some (.ref x0), some (.ref x1), some (.ref x2)] [.ref s0] (G, F, I, J) b post px ↔ ip_WP 149 4 [some (.ref x0), some (.ref x1), some (.ref x2)] [] (G, F, I, J) b post px := ip_s_obj f149_1 rfl (Nat.le_of_ble_eq_true rfl)
theorem f149_4 : ip_fetch 149 4 = some (.aload_n 0, 1) := by decide +kernel
theorem s149_4 {x0 : Nat} {x1 : Nat} {x2 : Nat} : ip_WP 149 4 [some (.ref x0), some (.ref x1), some (.ref x2)] [] (G, F, I, J) b post px ↔ ip_WP 149 5 [some (.ref x0), some (.ref x1), some (.ref x2)] [.ref x0] (G, F, I, J) b post px := ip_nx_iff ((ip_st_of f149_4).trans rfl)
theorem f149_5 : ip_fetch 149 5 = some (.aload_n 1, 1) := by decide +kernel
theorem s149_5 {x0 : Nat} {x1 : Nat} {x2 : Nat} {s0 : Nat} : ip_WP 149 5 [some (.ref x0), some (.ref x1), some (.ref x2)] [.ref s0] (G, F, I, J) b post px ↔ ip_WP 149 6 [some (.ref x0), some (.ref x1), some (.ref x2)] [.ref x1, .ref s0] (G, F, I, J) b post px := ip_nx_iff ((ip_st_of f149_5).trans rfl)
theorem f149_6 : ip_fetch 149 6 = some (.putfield 9, 3) := by decide +kernel
set_option maxRecDepth 100000 in
theorem s149_6 {x0 : Nat} {x1 : Nat} {x2 : Nat} {s0 : Nat} {s1 : Nat} : ip_WP 149 6 [some (.ref x0), some (.ref x1), some (.ref x2)] [.ref s1, .ref s0] (G, F, I, J) b post px ↔ (ip_isO G s0 7 = true ∧ s1 < G.length ∧ ip_WP 149 9 [some (.ref x0), some (.ref x1), some (.ref x2)] [] (G, ip_up F s0 0 (.ref s1), I, J) b post px) := ip_s_putR f149_6 (by decide +kernel) rfl
theorem f149_9 : ip_fetch 149 9 = some (.aload_n 0, 1) := by decide +kernel
theorem s149_9 {x0 : Nat} {x1 : Nat} {x2 : Nat} : ip_WP 149 9 [some (.ref x0), some (.ref x1), some (.ref x2)] [] (G, F, I, J) b post px ↔ ip_WP 149 10 [some (.ref x0), some (.ref x1), some (.ref x2)] [.ref x0] (G, F, I, J) b post px := ip_nx_iff ((ip_st_of f149_9).trans rfl)
theorem f149_10 : ip_fetch 149 10 = some (.aload_n 2, 1) := by decide +kernel
theorem s149_10 {x0 : Nat} {x1 : Nat} {x2 : Nat} {s0 : Nat} : ip_WP 149 10 [some (.ref x0), some (.ref x1), some (.ref x2)] [.ref s0] (G, F, I, J) b post px ↔ ip_WP 149 11 [some (.ref x0), some (.ref x1), some (.ref x2)] [.ref x2, .ref s0] (G, F, I, J) b post px := ip_nx_iff ((ip_st_of f149_10).trans rfl)
theorem f149_11 : ip_fetch 149 11 = some (.putfield 15, 3) := by decide +kernel
set_option maxRecDepth 100000 in
theorem s149_11 {x0 : Nat} {x1 : Nat} {x2 : Nat} {s0 : Nat} {s1 : Nat} : ip_WP 149 11 [some (.ref x0), some (.ref x1), some (.ref x2)] [.ref s1, .ref s0] (G, F, I, J) b post px ↔ (ip_isO G s0 7 = true ∧ s1 < G.length ∧ ip_WP 149 14 [some (.ref x0), some (.ref x1), some (.ref x2)] [] (G, ip_up F s0 1 (.ref s1), I, J) b post px) := ip_s_putR f149_11 (by decide +kernel) rfl
theorem f149_14 : ip_fetch 149 14 = some (.return_, 1) := by decide +kernel
theorem s149_14 {x0 : Nat} {x1 : Nat} {x2 : Nat} : ip_WP 149 14 [some (.ref x0), some (.ref x1), some (.ref x2)] [] (G, F, I, J) b post px ↔ post none (G, F, I, J) := ip_rt_iff ((ip_st_of f149_14).trans rfl)
theorem f150_0 : ip_fetch 150 0 = some (.aload_n 0, 1) := by decide +kernel
theorem s150_0 {x0 : Nat} {x1 : Option Value} : ip_WP 150 0 [some (.ref x0), x1] [] (G, F, I, J) b post px ↔ ip_WP 150 1 [some (.ref x0), x1] [.ref x0] (G, F, I, J) b post px := ip_nx_iff ((ip_st_of f150_0).trans rfl)
theorem f150_1 : ip_fetch 150 1 = some (.getfield 15, 3) := by decide +kernel
set_option maxRecDepth 100000 in
theorem s150_1 {x0 : Nat} {x1 : Option Value} {s0 : Nat} : ip_WP 150 1 [some (.ref x0), x1] [.ref s0] (G, F, I, J) b post px ↔ (ip_isO G s0 7 = true ∧ ip_WP 150 4 [some (.ref x0), x1] [F s0 1] (G, F, I, J) b post px) := ip_s_getf f150_1 (by decide +kernel)
theorem f150_4 : ip_fetch 150 4 = some (.invokevirtual 19, 3) := by decide +kernel
set_option maxRecDepth 100000 in
theorem s150_4 {x0 : Nat} {x1 : Option Value} {s0 : Nat} : ip_WP 150 4 [some (.ref x0), x1] [.ref s0] (G, F, I, J) b post px ↔ (ip_isO G s0 2 = true ∧ ip_WP 90 0 [some (.ref s0)] [] (G, F, I, J) (0, 0) (fun r h' => ip_WP 150 7 [some (.ref x0), x1] (r.toList ++ []) h' b post px) (fun _ _ => False)) := ip_ck_iff (x := ip_cl 90 [some (.ref s0)] [] (0, 0) b) ((ip_st_of f150_4).trans rfl) (ip_cl_iff)
theorem f150_7 : ip_fetch 150 7 = some (.aload_n 0, 1) := by decide +kernel
theorem s150_7 {x0 : Nat} {x1 : Option Value} : ip_WP 150 7 [some (.ref x0), x1] [] (G, F, I, J) b post px ↔ ip_WP 150 8 [some (.ref x0), x1] [.ref x0] (G, F, I, J) b post px := ip_nx_iff ((ip_st_of f150_7).trans rfl)
theorem f150_8 : ip_fetch 150 8 = some (.invokevirtual 24, 3) := by decide +kernel
set_option maxRecDepth 100000 in
theorem s150_8 {x0 : Nat} {x1 : Option Value} {s0 : Nat} : ip_WP 150 8 [some (.ref x0), x1] [.ref s0] (G, F, I, J) b post px ↔ (ip_isO G s0 7 = true ∧ ip_WP 151 0 [some (.ref s0), none] [] (G, F, I, J) (0, 0) (fun r h' => ip_WP 150 11 [some (.ref x0), x1] (r.toList ++ []) h' b post px) (fun _ _ => False)) := ip_ck_iff (x := ip_cl 151 [some (.ref s0), none] [] (0, 0) b) ((ip_st_of f150_8).trans rfl) (ip_cl_iff)
theorem f150_11 : ip_fetch 150 11 = some (.iconst 0, 1) := by decide +kernel
theorem s150_11 {x0 : Nat} {x1 : Option Value} : ip_WP 150 11 [some (.ref x0), x1] [] (G, F, I, J) b post px ↔ ip_WP 150 12 [some (.ref x0), x1] [.int 0] (G, F, I, J) b post px := ip_s_iconst f150_11 (by decide)
theorem f150_12 : ip_fetch 150 12 = some (.istore_n 1, 1) := by decide +kernel
theorem s150_12 {x0 : Nat} {x1 : Option Value} {s0 : Int32} : ip_WP 150 12 [some (.ref x0), x1] [.int s0] (G, F, I, J) b post px ↔ ip_WP 150 13 [some (.ref x0), some (.int s0)] [] (G, F, I, J) b post px := ip_nx_iff ((ip_st_of f150_12).trans rfl)
theorem f150_13 : ip_fetch 150 13 = some (.iload_n 1, 1) := by decide +kernel
theorem s150_13 {x0 : Nat} {x1 : Int32} : ip_WP 150 13 [some (.ref x0), some (.int x1)] [] (G, F, I, J) b post px ↔ ip_WP 150 14 [some (.ref x0), some (.int x1)] [.int x1] (G, F, I, J) b post px := ip_nx_iff ((ip_st_of f150_13).trans rfl)
theorem f150_14 : ip_fetch 150 14 = some (.aload_n 0, 1) := by decide +kernel
theorem s150_14 {x0 : Nat} {x1 : Int32} {s0 : Int32} : ip_WP 150 14 [some (.ref x0), some (.int x1)] [.int s0] (G, F, I, J) b post px ↔ ip_WP 150 15 [some (.ref x0), some (.int x1)] [.ref x0, .int s0] (G, F, I, J) b post px := ip_nx_iff ((ip_st_of f150_14).trans rfl)
theorem f150_15 : ip_fetch 150 15 = some (.getfield 9, 3) := by decide +kernel
set_option maxRecDepth 100000 in
theorem s150_15 {x0 : Nat} {x1 : Int32} {s0 : Int32} {s1 : Nat} : ip_WP 150 15 [some (.ref x0), some (.int x1)] [.ref s1, .int s0] (G, F, I, J) b post px ↔ (ip_isO G s1 7 = true ∧ ip_WP 150 18 [some (.ref x0), some (.int x1)] [F s1 0, .int s0] (G, F, I, J) b post px) := ip_s_getf f150_15 (by decide +kernel)
theorem f150_18 : ip_fetch 150 18 = some (.getfield 27, 3) := by decide +kernel
set_option maxRecDepth 100000 in
theorem s150_18 {x0 : Nat} {x1 : Int32} {s0 : Int32} {s1 : Nat} : ip_WP 150 18 [some (.ref x0), some (.int x1)] [.ref s1, .int s0] (G, F, I, J) b post px ↔ (ip_isO G s1 3 = true ∧ ip_WP 150 21 [some (.ref x0), some (.int x1)] [F s1 1, .int s0] (G, F, I, J) b post px) := ip_s_getf f150_18 (by decide +kernel)
theorem f150_21 : ip_fetch 150 21 = some (.invokevirtual 33, 3) := by decide +kernel
set_option maxRecDepth 100000 in
theorem s150_21 {x0 : Nat} {x1 : Int32} {s0 : Int32} {s1 : Nat} : ip_WP 150 21 [some (.ref x0), some (.int x1)] [.ref s1, .int s0] (G, F, I, J) b post px ↔ (ip_isO G s1 6 = true ∧ ip_WP 143 0 [some (.ref s1)] [] (G, F, I, J) (0, 0) (fun r h' => ip_WP 150 24 [some (.ref x0), some (.int x1)] (r.toList ++ [.int s0]) h' b post px) (fun _ _ => False)) := ip_ck_iff (x := ip_cl 143 [some (.ref s1)] [.int s0] (0, 0) b) ((ip_st_of f150_21).trans rfl) (ip_cl_iff)
theorem f150_24 : ip_fetch 150 24 = some (.if_icmp .ge 14, 3) := by decide +kernel
theorem s150_24 {x0 : Nat} {x1 : Int32} {s0 : Int32} {s1 : Int32} : ip_WP 150 24 [some (.ref x0), some (.int x1)] [.int s1, .int s0] (G, F, I, J) b post px ↔ if s1 ≤ s0 then ip_WP 150 38 [some (.ref x0), some (.int x1)] [] (G, F, I, J) b post px else ip_WP 150 27 [some (.ref x0), some (.int x1)] [] (G, F, I, J) b post px := ip_s_ic_ge f150_24 rfl
theorem f150_27 : ip_fetch 150 27 = some (.aload_n 0, 1) := by decide +kernel
theorem s150_27 {x0 : Nat} {x1 : Int32} : ip_WP 150 27 [some (.ref x0), some (.int x1)] [] (G, F, I, J) b post px ↔ ip_WP 150 28 [some (.ref x0), some (.int x1)] [.ref x0] (G, F, I, J) b post px := ip_nx_iff ((ip_st_of f150_27).trans rfl)
theorem f150_28 : ip_fetch 150 28 = some (.iload_n 1, 1) := by decide +kernel
theorem s150_28 {x0 : Nat} {x1 : Int32} {s0 : Nat} : ip_WP 150 28 [some (.ref x0), some (.int x1)] [.ref s0] (G, F, I, J) b post px ↔ ip_WP 150 29 [some (.ref x0), some (.int x1)] [.int x1, .ref s0] (G, F, I, J) b post px := ip_nx_iff ((ip_st_of f150_28).trans rfl)
theorem f150_29 : ip_fetch 150 29 = some (.invokevirtual 39, 3) := by decide +kernel
set_option maxRecDepth 100000 in
theorem s150_29 {x0 : Nat} {x1 : Int32} {s0 : Nat} {s1 : Int32} : ip_WP 150 29 [some (.ref x0), some (.int x1)] [.int s1, .ref s0] (G, F, I, J) b post px ↔ (ip_isO G s0 7 = true ∧ ip_WP 152 0 [some (.ref s0), some (.int s1), none, none] [] (G, F, I, J) (0, 0) (fun r h' => ip_WP 150 32 [some (.ref x0), some (.int x1)] (r.toList ++ []) h' b post px) (fun _ _ => False)) := ip_ck_iff (x := ip_cl 152 [some (.ref s0), some (.int s1), none, none] [] (0, 0) b) ((ip_st_of f150_29).trans rfl) (ip_cl_iff)
theorem f150_32 : ip_fetch 150 32 = some (.iinc 1 1, 3) := by decide +kernel
theorem s150_32 {x0 : Nat} {x1 : Int32} : ip_WP 150 32 [some (.ref x0), some (.int x1)] [] (G, F, I, J) b post px ↔ ip_WP 150 35 [some (.ref x0), some (.int (x1 + 1))] [] (G, F, I, J) b post px := ip_s_iinc f150_32 rfl (by decide)
theorem f150_35 : ip_fetch 150 35 = some (.goto (-22), 3) := by decide +kernel
theorem s150_35 {x0 : Nat} {x1 : Int32} : ip_WP 150 35 [some (.ref x0), some (.int x1)] [] (G, F, I, J) b post px ↔ ip_WP 150 13 [some (.ref x0), some (.int x1)] [] (G, F, I, J) b post px := ip_nx_iff ((ip_st_of f150_35).trans rfl)
theorem f150_38 : ip_fetch 150 38 = some (.iconst 0, 1) := by decide +kernel
theorem s150_38 {x0 : Nat} {x1 : Int32} : ip_WP 150 38 [some (.ref x0), some (.int x1)] [] (G, F, I, J) b post px ↔ ip_WP 150 39 [some (.ref x0), some (.int x1)] [.int 0] (G, F, I, J) b post px := ip_s_iconst f150_38 (by decide)
theorem f150_39 : ip_fetch 150 39 = some (.istore_n 1, 1) := by decide +kernel
theorem s150_39 {x0 : Nat} {x1 : Int32} {s0 : Int32} : ip_WP 150 39 [some (.ref x0), some (.int x1)] [.int s0] (G, F, I, J) b post px ↔ ip_WP 150 40 [some (.ref x0), some (.int s0)] [] (G, F, I, J) b post px := ip_nx_iff ((ip_st_of f150_39).trans rfl)
theorem f150_40 : ip_fetch 150 40 = some (.iload_n 1, 1) := by decide +kernel
theorem s150_40 {x0 : Nat} {x1 : Int32} : ip_WP 150 40 [some (.ref x0), some (.int x1)] [] (G, F, I, J) b post px ↔ ip_WP 150 41 [some (.ref x0), some (.int x1)] [.int x1] (G, F, I, J) b post px := ip_nx_iff ((ip_st_of f150_40).trans rfl)
theorem f150_41 : ip_fetch 150 41 = some (.aload_n 0, 1) := by decide +kernel
theorem s150_41 {x0 : Nat} {x1 : Int32} {s0 : Int32} : ip_WP 150 41 [some (.ref x0), some (.int x1)] [.int s0] (G, F, I, J) b post px ↔ ip_WP 150 42 [some (.ref x0), some (.int x1)] [.ref x0, .int s0] (G, F, I, J) b post px := ip_nx_iff ((ip_st_of f150_41).trans rfl)
theorem f150_42 : ip_fetch 150 42 = some (.getfield 9, 3) := by decide +kernel
set_option maxRecDepth 100000 in
theorem s150_42 {x0 : Nat} {x1 : Int32} {s0 : Int32} {s1 : Nat} : ip_WP 150 42 [some (.ref x0), some (.int x1)] [.ref s1, .int s0] (G, F, I, J) b post px ↔ (ip_isO G s1 7 = true ∧ ip_WP 150 45 [some (.ref x0), some (.int x1)] [F s1 0, .int s0] (G, F, I, J) b post px) := ip_s_getf f150_42 (by decide +kernel)
theorem f150_45 : ip_fetch 150 45 = some (.getfield 43, 3) := by decide +kernel
set_option maxRecDepth 100000 in
theorem s150_45 {x0 : Nat} {x1 : Int32} {s0 : Int32} {s1 : Nat} : ip_WP 150 45 [some (.ref x0), some (.int x1)] [.ref s1, .int s0] (G, F, I, J) b post px ↔ (ip_isO G s1 3 = true ∧ ip_WP 150 48 [some (.ref x0), some (.int x1)] [F s1 0, .int s0] (G, F, I, J) b post px) := ip_s_getf f150_45 (by decide +kernel)
theorem f150_48 : ip_fetch 150 48 = some (.invokevirtual 33, 3) := by decide +kernel
set_option maxRecDepth 100000 in
theorem s150_48 {x0 : Nat} {x1 : Int32} {s0 : Int32} {s1 : Nat} : ip_WP 150 48 [some (.ref x0), some (.int x1)] [.ref s1, .int s0] (G, F, I, J) b post px ↔ (ip_isO G s1 6 = true ∧ ip_WP 143 0 [some (.ref s1)] [] (G, F, I, J) (0, 0) (fun r h' => ip_WP 150 51 [some (.ref x0), some (.int x1)] (r.toList ++ [.int s0]) h' b post px) (fun _ _ => False)) := ip_ck_iff (x := ip_cl 143 [some (.ref s1)] [.int s0] (0, 0) b) ((ip_st_of f150_48).trans rfl) (ip_cl_iff)
theorem f150_51 : ip_fetch 150 51 = some (.if_icmp .ge 14, 3) := by decide +kernel
theorem s150_51 {x0 : Nat} {x1 : Int32} {s0 : Int32} {s1 : Int32} : ip_WP 150 51 [some (.ref x0), some (.int x1)] [.int s1, .int s0] (G, F, I, J) b post px ↔ if s1 ≤ s0 then ip_WP 150 65 [some (.ref x0), some (.int x1)] [] (G, F, I, J) b post px else ip_WP 150 54 [some (.ref x0), some (.int x1)] [] (G, F, I, J) b post px := ip_s_ic_ge f150_51 rfl
theorem f150_54 : ip_fetch 150 54 = some (.aload_n 0, 1) := by decide +kernel
theorem s150_54 {x0 : Nat} {x1 : Int32} : ip_WP 150 54 [some (.ref x0), some (.int x1)] [] (G, F, I, J) b post px ↔ ip_WP 150 55 [some (.ref x0), some (.int x1)] [.ref x0] (G, F, I, J) b post px := ip_nx_iff ((ip_st_of f150_54).trans rfl)
theorem f150_55 : ip_fetch 150 55 = some (.iload_n 1, 1) := by decide +kernel
theorem s150_55 {x0 : Nat} {x1 : Int32} {s0 : Nat} : ip_WP 150 55 [some (.ref x0), some (.int x1)] [.ref s0] (G, F, I, J) b post px ↔ ip_WP 150 56 [some (.ref x0), some (.int x1)] [.int x1, .ref s0] (G, F, I, J) b post px := ip_nx_iff ((ip_st_of f150_55).trans rfl)
theorem f150_56 : ip_fetch 150 56 = some (.invokevirtual 46, 3) := by decide +kernel
set_option maxRecDepth 100000 in
theorem s150_56 {x0 : Nat} {x1 : Int32} {s0 : Nat} {s1 : Int32} : ip_WP 150 56 [some (.ref x0), some (.int x1)] [.int s1, .ref s0] (G, F, I, J) b post px ↔ (ip_isO G s0 7 = true ∧ ip_WP 153 0 [some (.ref s0), some (.int s1)] [] (G, F, I, J) (0, 0) (fun r h' => ip_WP 150 59 [some (.ref x0), some (.int x1)] (r.toList ++ []) h' b post px) (fun _ _ => False)) := ip_ck_iff (x := ip_cl 153 [some (.ref s0), some (.int s1)] [] (0, 0) b) ((ip_st_of f150_56).trans rfl) (ip_cl_iff)
theorem f150_59 : ip_fetch 150 59 = some (.iinc 1 1, 3) := by decide +kernel
theorem s150_59 {x0 : Nat} {x1 : Int32} : ip_WP 150 59 [some (.ref x0), some (.int x1)] [] (G, F, I, J) b post px ↔ ip_WP 150 62 [some (.ref x0), some (.int (x1 + 1))] [] (G, F, I, J) b post px := ip_s_iinc f150_59 rfl (by decide)
theorem f150_62 : ip_fetch 150 62 = some (.goto (-22), 3) := by decide +kernel
theorem s150_62 {x0 : Nat} {x1 : Int32} : ip_WP 150 62 [some (.ref x0), some (.int x1)] [] (G, F, I, J) b post px ↔ ip_WP 150 40 [some (.ref x0), some (.int x1)] [] (G, F, I, J) b post px := ip_nx_iff ((ip_st_of f150_62).trans rfl)
theorem f150_65 : ip_fetch 150 65 = some (.iconst 0, 1) := by decide +kernel
theorem s150_65 {x0 : Nat} {x1 : Int32} : ip_WP 150 65 [some (.ref x0), some (.int x1)] [] (G, F, I, J) b post px ↔ ip_WP 150 66 [some (.ref x0), some (.int x1)] [.int 0] (G, F, I, J) b post px := ip_s_iconst f150_65 (by decide)
theorem f150_66 : ip_fetch 150 66 = some (.istore_n 1, 1) := by decide +kernel
theorem s150_66 {x0 : Nat} {x1 : Int32} {s0 : Int32} : ip_WP 150 66 [some (.ref x0), some (.int x1)] [.int s0] (G, F, I, J) b post px ↔ ip_WP 150 67 [some (.ref x0), some (.int s0)] [] (G, F, I, J) b post px := ip_nx_iff ((ip_st_of f150_66).trans rfl)
theorem f150_67 : ip_fetch 150 67 = some (.iload_n 1, 1) := by decide +kernel
theorem s150_67 {x0 : Nat} {x1 : Int32} : ip_WP 150 67 [some (.ref x0), some (.int x1)] [] (G, F, I, J) b post px ↔ ip_WP 150 68 [some (.ref x0), some (.int x1)] [.int x1] (G, F, I, J) b post px := ip_nx_iff ((ip_st_of f150_67).trans rfl)
theorem f150_68 : ip_fetch 150 68 = some (.aload_n 0, 1) := by decide +kernel
theorem s150_68 {x0 : Nat} {x1 : Int32} {s0 : Int32} : ip_WP 150 68 [some (.ref x0), some (.int x1)] [.int s0] (G, F, I, J) b post px ↔ ip_WP 150 69 [some (.ref x0), some (.int x1)] [.ref x0, .int s0] (G, F, I, J) b post px := ip_nx_iff ((ip_st_of f150_68).trans rfl)
theorem f150_69 : ip_fetch 150 69 = some (.getfield 9, 3) := by decide +kernel
set_option maxRecDepth 100000 in
theorem s150_69 {x0 : Nat} {x1 : Int32} {s0 : Int32} {s1 : Nat} : ip_WP 150 69 [some (.ref x0), some (.int x1)] [.ref s1, .int s0] (G, F, I, J) b post px ↔ (ip_isO G s1 7 = true ∧ ip_WP 150 72 [some (.ref x0), some (.int x1)] [F s1 0, .int s0] (G, F, I, J) b post px) := ip_s_getf f150_69 (by decide +kernel)
theorem f150_72 : ip_fetch 150 72 = some (.invokevirtual 49, 3) := by decide +kernel
set_option maxRecDepth 100000 in
theorem s150_72 {x0 : Nat} {x1 : Int32} {s0 : Int32} {s1 : Nat} : ip_WP 150 72 [some (.ref x0), some (.int x1)] [.ref s1, .int s0] (G, F, I, J) b post px ↔ (ip_isO G s1 3 = true ∧ ip_WP 110 0 [some (.ref s1)] [] (G, F, I, J) (0, 0) (fun r h' => ip_WP 150 75 [some (.ref x0), some (.int x1)] (r.toList ++ [.int s0]) h' b post px) (fun _ _ => False)) := ip_ck_iff (x := ip_cl 110 [some (.ref s1)] [.int s0] (0, 0) b) ((ip_st_of f150_72).trans rfl) (ip_cl_iff)
theorem f150_75 : ip_fetch 150 75 = some (.if_icmp .ge 14, 3) := by decide +kernel
theorem s150_75 {x0 : Nat} {x1 : Int32} {s0 : Int32} {s1 : Int32} : ip_WP 150 75 [some (.ref x0), some (.int x1)] [.int s1, .int s0] (G, F, I, J) b post px ↔ if s1 ≤ s0 then ip_WP 150 89 [some (.ref x0), some (.int x1)] [] (G, F, I, J) b post px else ip_WP 150 78 [some (.ref x0), some (.int x1)] [] (G, F, I, J) b post px := ip_s_ic_ge f150_75 rfl
theorem f150_78 : ip_fetch 150 78 = some (.aload_n 0, 1) := by decide +kernel
theorem s150_78 {x0 : Nat} {x1 : Int32} : ip_WP 150 78 [some (.ref x0), some (.int x1)] [] (G, F, I, J) b post px ↔ ip_WP 150 79 [some (.ref x0), some (.int x1)] [.ref x0] (G, F, I, J) b post px := ip_nx_iff ((ip_st_of f150_78).trans rfl)
theorem f150_79 : ip_fetch 150 79 = some (.iload_n 1, 1) := by decide +kernel
theorem s150_79 {x0 : Nat} {x1 : Int32} {s0 : Nat} : ip_WP 150 79 [some (.ref x0), some (.int x1)] [.ref s0] (G, F, I, J) b post px ↔ ip_WP 150 80 [some (.ref x0), some (.int x1)] [.int x1, .ref s0] (G, F, I, J) b post px := ip_nx_iff ((ip_st_of f150_79).trans rfl)
theorem f150_80 : ip_fetch 150 80 = some (.invokevirtual 52, 3) := by decide +kernel
set_option maxRecDepth 100000 in
theorem s150_80 {x0 : Nat} {x1 : Int32} {s0 : Nat} {s1 : Int32} : ip_WP 150 80 [some (.ref x0), some (.int x1)] [.int s1, .ref s0] (G, F, I, J) b post px ↔ (ip_isO G s0 7 = true ∧ ip_WP 154 0 [some (.ref s0), some (.int s1)] [] (G, F, I, J) (0, 0) (fun r h' => ip_WP 150 83 [some (.ref x0), some (.int x1)] (r.toList ++ []) h' b post px) (fun _ _ => False)) := ip_ck_iff (x := ip_cl 154 [some (.ref s0), some (.int s1)] [] (0, 0) b) ((ip_st_of f150_80).trans rfl) (ip_cl_iff)
theorem f150_83 : ip_fetch 150 83 = some (.iinc 1 1, 3) := by decide +kernel
theorem s150_83 {x0 : Nat} {x1 : Int32} : ip_WP 150 83 [some (.ref x0), some (.int x1)] [] (G, F, I, J) b post px ↔ ip_WP 150 86 [some (.ref x0), some (.int (x1 + 1))] [] (G, F, I, J) b post px := ip_s_iinc f150_83 rfl (by decide)
theorem f150_86 : ip_fetch 150 86 = some (.goto (-19), 3) := by decide +kernel
theorem s150_86 {x0 : Nat} {x1 : Int32} : ip_WP 150 86 [some (.ref x0), some (.int x1)] [] (G, F, I, J) b post px ↔ ip_WP 150 67 [some (.ref x0), some (.int x1)] [] (G, F, I, J) b post px := ip_nx_iff ((ip_st_of f150_86).trans rfl)
theorem f150_89 : ip_fetch 150 89 = some (.iconst 0, 1) := by decide +kernel
theorem s150_89 {x0 : Nat} {x1 : Int32} : ip_WP 150 89 [some (.ref x0), some (.int x1)] [] (G, F, I, J) b post px ↔ ip_WP 150 90 [some (.ref x0), some (.int x1)] [.int 0] (G, F, I, J) b post px := ip_s_iconst f150_89 (by decide)
theorem f150_90 : ip_fetch 150 90 = some (.istore_n 1, 1) := by decide +kernel
theorem s150_90 {x0 : Nat} {x1 : Int32} {s0 : Int32} : ip_WP 150 90 [some (.ref x0), some (.int x1)] [.int s0] (G, F, I, J) b post px ↔ ip_WP 150 91 [some (.ref x0), some (.int s0)] [] (G, F, I, J) b post px := ip_nx_iff ((ip_st_of f150_90).trans rfl)
theorem f150_91 : ip_fetch 150 91 = some (.iload_n 1, 1) := by decide +kernel
theorem s150_91 {x0 : Nat} {x1 : Int32} : ip_WP 150 91 [some (.ref x0), some (.int x1)] [] (G, F, I, J) b post px ↔ ip_WP 150 92 [some (.ref x0), some (.int x1)] [.int x1] (G, F, I, J) b post px := ip_nx_iff ((ip_st_of f150_91).trans rfl)
theorem f150_92 : ip_fetch 150 92 = some (.aload_n 0, 1) := by decide +kernel
theorem s150_92 {x0 : Nat} {x1 : Int32} {s0 : Int32} : ip_WP 150 92 [some (.ref x0), some (.int x1)] [.int s0] (G, F, I, J) b post px ↔ ip_WP 150 93 [some (.ref x0), some (.int x1)] [.ref x0, .int s0] (G, F, I, J) b post px := ip_nx_iff ((ip_st_of f150_92).trans rfl)
theorem f150_93 : ip_fetch 150 93 = some (.getfield 9, 3) := by decide +kernel
set_option maxRecDepth 100000 in
theorem s150_93 {x0 : Nat} {x1 : Int32} {s0 : Int32} {s1 : Nat} : ip_WP 150 93 [some (.ref x0), some (.int x1)] [.ref s1, .int s0] (G, F, I, J) b post px ↔ (ip_isO G s1 7 = true ∧ ip_WP 150 96 [some (.ref x0), some (.int x1)] [F s1 0, .int s0] (G, F, I, J) b post px) := ip_s_getf f150_93 (by decide +kernel)
theorem f150_96 : ip_fetch 150 96 = some (.getfield 55, 3) := by decide +kernel
set_option maxRecDepth 100000 in
theorem s150_96 {x0 : Nat} {x1 : Int32} {s0 : Int32} {s1 : Nat} : ip_WP 150 96 [some (.ref x0), some (.int x1)] [.ref s1, .int s0] (G, F, I, J) b post px ↔ (ip_isO G s1 3 = true ∧ ip_WP 150 99 [some (.ref x0), some (.int x1)] [F s1 2, .int s0] (G, F, I, J) b post px) := ip_s_getf f150_96 (by decide +kernel)
theorem f150_99 : ip_fetch 150 99 = some (.invokevirtual 33, 3) := by decide +kernel
set_option maxRecDepth 100000 in
theorem s150_99 {x0 : Nat} {x1 : Int32} {s0 : Int32} {s1 : Nat} : ip_WP 150 99 [some (.ref x0), some (.int x1)] [.ref s1, .int s0] (G, F, I, J) b post px ↔ (ip_isO G s1 6 = true ∧ ip_WP 143 0 [some (.ref s1)] [] (G, F, I, J) (0, 0) (fun r h' => ip_WP 150 102 [some (.ref x0), some (.int x1)] (r.toList ++ [.int s0]) h' b post px) (fun _ _ => False)) := ip_ck_iff (x := ip_cl 143 [some (.ref s1)] [.int s0] (0, 0) b) ((ip_st_of f150_99).trans rfl) (ip_cl_iff)
theorem f150_102 : ip_fetch 150 102 = some (.if_icmp .ge 14, 3) := by decide +kernel
theorem s150_102 {x0 : Nat} {x1 : Int32} {s0 : Int32} {s1 : Int32} : ip_WP 150 102 [some (.ref x0), some (.int x1)] [.int s1, .int s0] (G, F, I, J) b post px ↔ if s1 ≤ s0 then ip_WP 150 116 [some (.ref x0), some (.int x1)] [] (G, F, I, J) b post px else ip_WP 150 105 [some (.ref x0), some (.int x1)] [] (G, F, I, J) b post px := ip_s_ic_ge f150_102 rfl
theorem f150_105 : ip_fetch 150 105 = some (.aload_n 0, 1) := by decide +kernel
theorem s150_105 {x0 : Nat} {x1 : Int32} : ip_WP 150 105 [some (.ref x0), some (.int x1)] [] (G, F, I, J) b post px ↔ ip_WP 150 106 [some (.ref x0), some (.int x1)] [.ref x0] (G, F, I, J) b post px := ip_nx_iff ((ip_st_of f150_105).trans rfl)
theorem f150_106 : ip_fetch 150 106 = some (.iload_n 1, 1) := by decide +kernel
theorem s150_106 {x0 : Nat} {x1 : Int32} {s0 : Nat} : ip_WP 150 106 [some (.ref x0), some (.int x1)] [.ref s0] (G, F, I, J) b post px ↔ ip_WP 150 107 [some (.ref x0), some (.int x1)] [.int x1, .ref s0] (G, F, I, J) b post px := ip_nx_iff ((ip_st_of f150_106).trans rfl)
theorem f150_107 : ip_fetch 150 107 = some (.invokevirtual 58, 3) := by decide +kernel
set_option maxRecDepth 100000 in
theorem s150_107 {x0 : Nat} {x1 : Int32} {s0 : Nat} {s1 : Int32} : ip_WP 150 107 [some (.ref x0), some (.int x1)] [.int s1, .ref s0] (G, F, I, J) b post px ↔ (ip_isO G s0 7 = true ∧ ip_WP 155 0 [some (.ref s0), some (.int s1)] [] (G, F, I, J) (0, 0) (fun r h' => ip_WP 150 110 [some (.ref x0), some (.int x1)] (r.toList ++ []) h' b post px) (fun _ _ => False)) := ip_ck_iff (x := ip_cl 155 [some (.ref s0), some (.int s1)] [] (0, 0) b) ((ip_st_of f150_107).trans rfl) (ip_cl_iff)
theorem f150_110 : ip_fetch 150 110 = some (.iinc 1 1, 3) := by decide +kernel
theorem s150_110 {x0 : Nat} {x1 : Int32} : ip_WP 150 110 [some (.ref x0), some (.int x1)] [] (G, F, I, J) b post px ↔ ip_WP 150 113 [some (.ref x0), some (.int (x1 + 1))] [] (G, F, I, J) b post px := ip_s_iinc f150_110 rfl (by decide)
theorem f150_113 : ip_fetch 150 113 = some (.goto (-22), 3) := by decide +kernel
theorem s150_113 {x0 : Nat} {x1 : Int32} : ip_WP 150 113 [some (.ref x0), some (.int x1)] [] (G, F, I, J) b post px ↔ ip_WP 150 91 [some (.ref x0), some (.int x1)] [] (G, F, I, J) b post px := ip_nx_iff ((ip_st_of f150_113).trans rfl)
theorem f150_116 : ip_fetch 150 116 = some (.iconst 0, 1) := by decide +kernel
theorem s150_116 {x0 : Nat} {x1 : Int32} : ip_WP 150 116 [some (.ref x0), some (.int x1)] [] (G, F, I, J) b post px ↔ ip_WP 150 117 [some (.ref x0), some (.int x1)] [.int 0] (G, F, I, J) b post px := ip_s_iconst f150_116 (by decide)
theorem f150_117 : ip_fetch 150 117 = some (.istore_n 1, 1) := by decide +kernel
theorem s150_117 {x0 : Nat} {x1 : Int32} {s0 : Int32} : ip_WP 150 117 [some (.ref x0), some (.int x1)] [.int s0] (G, F, I, J) b post px ↔ ip_WP 150 118 [some (.ref x0), some (.int s0)] [] (G, F, I, J) b post px := ip_nx_iff ((ip_st_of f150_117).trans rfl)
theorem f150_118 : ip_fetch 150 118 = some (.iload_n 1, 1) := by decide +kernel
theorem s150_118 {x0 : Nat} {x1 : Int32} : ip_WP 150 118 [some (.ref x0), some (.int x1)] [] (G, F, I, J) b post px ↔ ip_WP 150 119 [some (.ref x0), some (.int x1)] [.int x1] (G, F, I, J) b post px := ip_nx_iff ((ip_st_of f150_118).trans rfl)
theorem f150_119 : ip_fetch 150 119 = some (.aload_n 0, 1) := by decide +kernel
theorem s150_119 {x0 : Nat} {x1 : Int32} {s0 : Int32} : ip_WP 150 119 [some (.ref x0), some (.int x1)] [.int s0] (G, F, I, J) b post px ↔ ip_WP 150 120 [some (.ref x0), some (.int x1)] [.ref x0, .int s0] (G, F, I, J) b post px := ip_nx_iff ((ip_st_of f150_119).trans rfl)
theorem f150_120 : ip_fetch 150 120 = some (.getfield 9, 3) := by decide +kernel
set_option maxRecDepth 100000 in
theorem s150_120 {x0 : Nat} {x1 : Int32} {s0 : Int32} {s1 : Nat} : ip_WP 150 120 [some (.ref x0), some (.int x1)] [.ref s1, .int s0] (G, F, I, J) b post px ↔ (ip_isO G s1 7 = true ∧ ip_WP 150 123 [some (.ref x0), some (.int x1)] [F s1 0, .int s0] (G, F, I, J) b post px) := ip_s_getf f150_120 (by decide +kernel)
theorem f150_123 : ip_fetch 150 123 = some (.getfield 61, 3) := by decide +kernel
set_option maxRecDepth 100000 in
theorem s150_123 {x0 : Nat} {x1 : Int32} {s0 : Int32} {s1 : Nat} : ip_WP 150 123 [some (.ref x0), some (.int x1)] [.ref s1, .int s0] (G, F, I, J) b post px ↔ (ip_isO G s1 3 = true ∧ ip_WP 150 126 [some (.ref x0), some (.int x1)] [F s1 3, .int s0] (G, F, I, J) b post px) := ip_s_getf f150_123 (by decide +kernel)
theorem f150_126 : ip_fetch 150 126 = some (.invokevirtual 33, 3) := by decide +kernel
set_option maxRecDepth 100000 in
theorem s150_126 {x0 : Nat} {x1 : Int32} {s0 : Int32} {s1 : Nat} : ip_WP 150 126 [some (.ref x0), some (.int x1)] [.ref s1, .int s0] (G, F, I, J) b post px ↔ (ip_isO G s1 6 = true ∧ ip_WP 143 0 [some (.ref s1)] [] (G, F, I, J) (0, 0) (fun r h' => ip_WP 150 129 [some (.ref x0), some (.int x1)] (r.toList ++ [.int s0]) h' b post px) (fun _ _ => False)) := ip_ck_iff (x := ip_cl 143 [some (.ref s1)] [.int s0] (0, 0) b) ((ip_st_of f150_126).trans rfl) (ip_cl_iff)
theorem f150_129 : ip_fetch 150 129 = some (.if_icmp .ge 14, 3) := by decide +kernel
theorem s150_129 {x0 : Nat} {x1 : Int32} {s0 : Int32} {s1 : Int32} : ip_WP 150 129 [some (.ref x0), some (.int x1)] [.int s1, .int s0] (G, F, I, J) b post px ↔ if s1 ≤ s0 then ip_WP 150 143 [some (.ref x0), some (.int x1)] [] (G, F, I, J) b post px else ip_WP 150 132 [some (.ref x0), some (.int x1)] [] (G, F, I, J) b post px := ip_s_ic_ge f150_129 rfl
theorem f150_132 : ip_fetch 150 132 = some (.aload_n 0, 1) := by decide +kernel
theorem s150_132 {x0 : Nat} {x1 : Int32} : ip_WP 150 132 [some (.ref x0), some (.int x1)] [] (G, F, I, J) b post px ↔ ip_WP 150 133 [some (.ref x0), some (.int x1)] [.ref x0] (G, F, I, J) b post px := ip_nx_iff ((ip_st_of f150_132).trans rfl)
theorem f150_133 : ip_fetch 150 133 = some (.iload_n 1, 1) := by decide +kernel
theorem s150_133 {x0 : Nat} {x1 : Int32} {s0 : Nat} : ip_WP 150 133 [some (.ref x0), some (.int x1)] [.ref s0] (G, F, I, J) b post px ↔ ip_WP 150 134 [some (.ref x0), some (.int x1)] [.int x1, .ref s0] (G, F, I, J) b post px := ip_nx_iff ((ip_st_of f150_133).trans rfl)
theorem f150_134 : ip_fetch 150 134 = some (.invokevirtual 64, 3) := by decide +kernel
set_option maxRecDepth 100000 in
theorem s150_134 {x0 : Nat} {x1 : Int32} {s0 : Nat} {s1 : Int32} : ip_WP 150 134 [some (.ref x0), some (.int x1)] [.int s1, .ref s0] (G, F, I, J) b post px ↔ (ip_isO G s0 7 = true ∧ ip_WP 156 0 [some (.ref s0), some (.int s1), none, none] [] (G, F, I, J) (0, 0) (fun r h' => ip_WP 150 137 [some (.ref x0), some (.int x1)] (r.toList ++ []) h' b post px) (fun _ _ => False)) := ip_ck_iff (x := ip_cl 156 [some (.ref s0), some (.int s1), none, none] [] (0, 0) b) ((ip_st_of f150_134).trans rfl) (ip_cl_iff)
theorem f150_137 : ip_fetch 150 137 = some (.iinc 1 1, 3) := by decide +kernel
theorem s150_137 {x0 : Nat} {x1 : Int32} : ip_WP 150 137 [some (.ref x0), some (.int x1)] [] (G, F, I, J) b post px ↔ ip_WP 150 140 [some (.ref x0), some (.int (x1 + 1))] [] (G, F, I, J) b post px := ip_s_iinc f150_137 rfl (by decide)
theorem f150_140 : ip_fetch 150 140 = some (.goto (-22), 3) := by decide +kernel
theorem s150_140 {x0 : Nat} {x1 : Int32} : ip_WP 150 140 [some (.ref x0), some (.int x1)] [] (G, F, I, J) b post px ↔ ip_WP 150 118 [some (.ref x0), some (.int x1)] [] (G, F, I, J) b post px := ip_nx_iff ((ip_st_of f150_140).trans rfl)
theorem f150_143 : ip_fetch 150 143 = some (.return_, 1) := by decide +kernel
theorem s150_143 {x0 : Nat} {x1 : Int32} : ip_WP 150 143 [some (.ref x0), some (.int x1)] [] (G, F, I, J) b post px ↔ post none (G, F, I, J) := ip_rt_iff ((ip_st_of f150_143).trans rfl)
theorem f151_0 : ip_fetch 151 0 = some (.iconst 0, 1) := by decide +kernel
theorem s151_0 {x0 : Nat} {x1 : Option Value} : ip_WP 151 0 [some (.ref x0), x1] [] (G, F, I, J) b post px ↔ ip_WP 151 1 [some (.ref x0), x1] [.int 0] (G, F, I, J) b post px := ip_s_iconst f151_0 (by decide)
theorem f151_1 : ip_fetch 151 1 = some (.istore_n 1, 1) := by decide +kernel
theorem s151_1 {x0 : Nat} {x1 : Option Value} {s0 : Int32} : ip_WP 151 1 [some (.ref x0), x1] [.int s0] (G, F, I, J) b post px ↔ ip_WP 151 2 [some (.ref x0), some (.int s0)] [] (G, F, I, J) b post px := ip_nx_iff ((ip_st_of f151_1).trans rfl)
theorem f151_2 : ip_fetch 151 2 = some (.iload_n 1, 1) := by decide +kernel
theorem s151_2 {x0 : Nat} {x1 : Int32} : ip_WP 151 2 [some (.ref x0), some (.int x1)] [] (G, F, I, J) b post px ↔ ip_WP 151 3 [some (.ref x0), some (.int x1)] [.int x1] (G, F, I, J) b post px := ip_nx_iff ((ip_st_of f151_2).trans rfl)
theorem f151_3 : ip_fetch 151 3 = some (.aload_n 0, 1) := by decide +kernel
theorem s151_3 {x0 : Nat} {x1 : Int32} {s0 : Int32} : ip_WP 151 3 [some (.ref x0), some (.int x1)] [.int s0] (G, F, I, J) b post px ↔ ip_WP 151 4 [some (.ref x0), some (.int x1)] [.ref x0, .int s0] (G, F, I, J) b post px := ip_nx_iff ((ip_st_of f151_3).trans rfl)
theorem f151_4 : ip_fetch 151 4 = some (.getfield 9, 3) := by decide +kernel
set_option maxRecDepth 100000 in
theorem s151_4 {x0 : Nat} {x1 : Int32} {s0 : Int32} {s1 : Nat} : ip_WP 151 4 [some (.ref x0), some (.int x1)] [.ref s1, .int s0] (G, F, I, J) b post px ↔ (ip_isO G s1 7 = true ∧ ip_WP 151 7 [some (.ref x0), some (.int x1)] [F s1 0, .int s0] (G, F, I, J) b post px) := ip_s_getf f151_4 (by decide +kernel)
theorem f151_7 : ip_fetch 151 7 = some (.getfield 43, 3) := by decide +kernel
set_option maxRecDepth 100000 in
theorem s151_7 {x0 : Nat} {x1 : Int32} {s0 : Int32} {s1 : Nat} : ip_WP 151 7 [some (.ref x0), some (.int x1)] [.ref s1, .int s0] (G, F, I, J) b post px ↔ (ip_isO G s1 3 = true ∧ ip_WP 151 10 [some (.ref x0), some (.int x1)] [F s1 0, .int s0] (G, F, I, J) b post px) := ip_s_getf f151_7 (by decide +kernel)
theorem f151_10 : ip_fetch 151 10 = some (.invokevirtual 33, 3) := by decide +kernel
set_option maxRecDepth 100000 in
theorem s151_10 {x0 : Nat} {x1 : Int32} {s0 : Int32} {s1 : Nat} : ip_WP 151 10 [some (.ref x0), some (.int x1)] [.ref s1, .int s0] (G, F, I, J) b post px ↔ (ip_isO G s1 6 = true ∧ ip_WP 143 0 [some (.ref s1)] [] (G, F, I, J) (0, 0) (fun r h' => ip_WP 151 13 [some (.ref x0), some (.int x1)] (r.toList ++ [.int s0]) h' b post px) (fun _ _ => False)) := ip_ck_iff (x := ip_cl 143 [some (.ref s1)] [.int s0] (0, 0) b) ((ip_st_of f151_10).trans rfl) (ip_cl_iff)
theorem f151_13 : ip_fetch 151 13 = some (.if_icmp .ge 39, 3) := by decide +kernel
theorem s151_13 {x0 : Nat} {x1 : Int32} {s0 : Int32} {s1 : Int32} : ip_WP 151 13 [some (.ref x0), some (.int x1)] [.int s1, .int s0] (G, F, I, J) b post px ↔ if s1 ≤ s0 then ip_WP 151 52 [some (.ref x0), some (.int x1)] [] (G, F, I, J) b post px else ip_WP 151 16 [some (.ref x0), some (.int x1)] [] (G, F, I, J) b post px := ip_s_ic_ge f151_13 rfl
theorem f151_16 : ip_fetch 151 16 = some (.aload_n 0, 1) := by decide +kernel
theorem s151_16 {x0 : Nat} {x1 : Int32} : ip_WP 151 16 [some (.ref x0), some (.int x1)] [] (G, F, I, J) b post px ↔ ip_WP 151 17 [some (.ref x0), some (.int x1)] [.ref x0] (G, F, I, J) b post px := ip_nx_iff ((ip_st_of f151_16).trans rfl)
theorem f151_17 : ip_fetch 151 17 = some (.getfield 15, 3) := by decide +kernel
set_option maxRecDepth 100000 in
theorem s151_17 {x0 : Nat} {x1 : Int32} {s0 : Nat} : ip_WP 151 17 [some (.ref x0), some (.int x1)] [.ref s0] (G, F, I, J) b post px ↔ (ip_isO G s0 7 = true ∧ ip_WP 151 20 [some (.ref x0), some (.int x1)] [F s0 1] (G, F, I, J) b post px) := ip_s_getf f151_17 (by decide +kernel)
theorem f151_20 : ip_fetch 151 20 = some (.iload_n 1, 1) := by decide +kernel
theorem s151_20 {x0 : Nat} {x1 : Int32} {s0 : Nat} : ip_WP 151 20 [some (.ref x0), some (.int x1)] [.ref s0] (G, F, I, J) b post px ↔ ip_WP 151 21 [some (.ref x0), some (.int x1)] [.int x1, .ref s0] (G, F, I, J) b post px := ip_nx_iff ((ip_st_of f151_20).trans rfl)
theorem f151_21 : ip_fetch 151 21 = some (.ifCond .ne 8, 3) := by decide +kernel
theorem s151_21 {x0 : Nat} {x1 : Int32} {s0 : Nat} {s1 : Int32} : ip_WP 151 21 [some (.ref x0), some (.int x1)] [.int s1, .ref s0] (G, F, I, J) b post px ↔ if ¬ s1 = 0 then ip_WP 151 29 [some (.ref x0), some (.int x1)] [.ref s0] (G, F, I, J) b post px else ip_WP 151 24 [some (.ref x0), some (.int x1)] [.ref s0] (G, F, I, J) b post px := ip_s_if_ne f151_21 rfl
theorem f151_24 : ip_fetch 151 24 = some (.ldc 67, 2) := by decide +kernel
set_option maxRecDepth 100000 in
theorem s151_24 {x0 : Nat} {x1 : Int32} {s0 : Nat} : ip_WP 151 24 [some (.ref x0), some (.int x1)] [.ref s0] (G, F, I, J) b post px ↔ ip_WP 151 26 [some (.ref x0), some (.int x1)] [.ref 1000007, .ref s0] (G, F, I, J) b post px := ip_nx_iff ((ip_st_of f151_24).trans rfl)
theorem f151_26 : ip_fetch 151 26 = some (.goto 5, 3) := by decide +kernel
theorem s151_26 {x0 : Nat} {x1 : Int32} {s0 : Nat} {s1 : Nat} : ip_WP 151 26 [some (.ref x0), some (.int x1)] [.ref s1, .ref s0] (G, F, I, J) b post px ↔ ip_WP 151 31 [some (.ref x0), some (.int x1)] [.ref s1, .ref s0] (G, F, I, J) b post px := ip_nx_iff ((ip_st_of f151_26).trans rfl)
theorem f151_29 : ip_fetch 151 29 = some (.ldc 69, 2) := by decide +kernel
set_option maxRecDepth 100000 in
theorem s151_29 {x0 : Nat} {x1 : Int32} {s0 : Nat} : ip_WP 151 29 [some (.ref x0), some (.int x1)] [.ref s0] (G, F, I, J) b post px ↔ ip_WP 151 31 [some (.ref x0), some (.int x1)] [.ref 1000008, .ref s0] (G, F, I, J) b post px := ip_nx_iff ((ip_st_of f151_29).trans rfl)
theorem f151_31 : ip_fetch 151 31 = some (.invokevirtual 71, 3) := by decide +kernel
set_option maxRecDepth 100000 in
theorem s151_31 {x0 : Nat} {x1 : Int32} {s0 : Nat} {s1 : Nat} : ip_WP 151 31 [some (.ref x0), some (.int x1)] [.ref s1, .ref s0] (G, F, I, J) b post px ↔ (ip_isO G s0 2 = true ∧ ip_WP 93 0 [some (.ref s0), some (.ref s1), none] [] (G, F, I, J) (0, 0) (fun r h' => ip_WP 151 34 [some (.ref x0), some (.int x1)] (r.toList ++ []) h' b post px) (fun _ _ => False)) := ip_ck_iff (x := ip_cl 93 [some (.ref s0), some (.ref s1), none] [] (0, 0) b) ((ip_st_of f151_31).trans rfl) (ip_cl_iff)
theorem f151_34 : ip_fetch 151 34 = some (.aload_n 0, 1) := by decide +kernel
theorem s151_34 {x0 : Nat} {x1 : Int32} : ip_WP 151 34 [some (.ref x0), some (.int x1)] [] (G, F, I, J) b post px ↔ ip_WP 151 35 [some (.ref x0), some (.int x1)] [.ref x0] (G, F, I, J) b post px := ip_nx_iff ((ip_st_of f151_34).trans rfl)
theorem f151_35 : ip_fetch 151 35 = some (.aload_n 0, 1) := by decide +kernel
theorem s151_35 {x0 : Nat} {x1 : Int32} {s0 : Nat} : ip_WP 151 35 [some (.ref x0), some (.int x1)] [.ref s0] (G, F, I, J) b post px ↔ ip_WP 151 36 [some (.ref x0), some (.int x1)] [.ref x0, .ref s0] (G, F, I, J) b post px := ip_nx_iff ((ip_st_of f151_35).trans rfl)
theorem f151_36 : ip_fetch 151 36 = some (.getfield 9, 3) := by decide +kernel
set_option maxRecDepth 100000 in
theorem s151_36 {x0 : Nat} {x1 : Int32} {s0 : Nat} {s1 : Nat} : ip_WP 151 36 [some (.ref x0), some (.int x1)] [.ref s1, .ref s0] (G, F, I, J) b post px ↔ (ip_isO G s1 7 = true ∧ ip_WP 151 39 [some (.ref x0), some (.int x1)] [F s1 0, .ref s0] (G, F, I, J) b post px) := ip_s_getf f151_36 (by decide +kernel)
theorem f151_39 : ip_fetch 151 39 = some (.getfield 43, 3) := by decide +kernel
set_option maxRecDepth 100000 in
theorem s151_39 {x0 : Nat} {x1 : Int32} {s0 : Nat} {s1 : Nat} : ip_WP 151 39 [some (.ref x0), some (.int x1)] [.ref s1, .ref s0] (G, F, I, J) b post px ↔ (ip_isO G s1 3 = true ∧ ip_WP 151 42 [some (.ref x0), some (.int x1)] [F s1 0, .ref s0] (G, F, I, J) b post px) := ip_s_getf f151_39 (by decide +kernel)
theorem f151_42 : ip_fetch 151 42 = some (.iload_n 1, 1) := by decide +kernel
theorem s151_42 {x0 : Nat} {x1 : Int32} {s0 : Nat} {s1 : Nat} : ip_WP 151 42 [some (.ref x0), some (.int x1)] [.ref s1, .ref s0] (G, F, I, J) b post px ↔ ip_WP 151 43 [some (.ref x0), some (.int x1)] [.int x1, .ref s1, .ref s0] (G, F, I, J) b post px := ip_nx_iff ((ip_st_of f151_42).trans rfl)
theorem f151_43 : ip_fetch 151 43 = some (.invokevirtual 75, 3) := by decide +kernel
set_option maxRecDepth 100000 in
theorem s151_43 {x0 : Nat} {x1 : Int32} {s0 : Nat} {s1 : Nat} {s2 : Int32} : ip_WP 151 43 [some (.ref x0), some (.int x1)] [.int s2, .ref s1, .ref s0] (G, F, I, J) b post px ↔ (ip_isO G s0 7 = true ∧ ip_WP 157 0 [some (.ref s0), some (.ref s1), some (.int s2), none, none, none, none] [] (G, F, I, J) (0, 0) (fun r h' => ip_WP 151 46 [some (.ref x0), some (.int x1)] (r.toList ++ []) h' b post px) (fun _ _ => False)) := ip_ck_iff (x := ip_cl 157 [some (.ref s0), some (.ref s1), some (.int s2), none, none, none, none] [] (0, 0) b) ((ip_st_of f151_43).trans rfl) (ip_cl_iff)
theorem f151_46 : ip_fetch 151 46 = some (.iinc 1 1, 3) := by decide +kernel
theorem s151_46 {x0 : Nat} {x1 : Int32} : ip_WP 151 46 [some (.ref x0), some (.int x1)] [] (G, F, I, J) b post px ↔ ip_WP 151 49 [some (.ref x0), some (.int (x1 + 1))] [] (G, F, I, J) b post px := ip_s_iinc f151_46 rfl (by decide)
theorem f151_49 : ip_fetch 151 49 = some (.goto (-47), 3) := by decide +kernel
theorem s151_49 {x0 : Nat} {x1 : Int32} : ip_WP 151 49 [some (.ref x0), some (.int x1)] [] (G, F, I, J) b post px ↔ ip_WP 151 2 [some (.ref x0), some (.int x1)] [] (G, F, I, J) b post px := ip_nx_iff ((ip_st_of f151_49).trans rfl)
theorem f151_52 : ip_fetch 151 52 = some (.aload_n 0, 1) := by decide +kernel
theorem s151_52 {x0 : Nat} {x1 : Int32} : ip_WP 151 52 [some (.ref x0), some (.int x1)] [] (G, F, I, J) b post px ↔ ip_WP 151 53 [some (.ref x0), some (.int x1)] [.ref x0] (G, F, I, J) b post px := ip_nx_iff ((ip_st_of f151_52).trans rfl)
theorem f151_53 : ip_fetch 151 53 = some (.getfield 9, 3) := by decide +kernel
set_option maxRecDepth 100000 in
theorem s151_53 {x0 : Nat} {x1 : Int32} {s0 : Nat} : ip_WP 151 53 [some (.ref x0), some (.int x1)] [.ref s0] (G, F, I, J) b post px ↔ (ip_isO G s0 7 = true ∧ ip_WP 151 56 [some (.ref x0), some (.int x1)] [F s0 0] (G, F, I, J) b post px) := ip_s_getf f151_53 (by decide +kernel)
theorem f151_56 : ip_fetch 151 56 = some (.getfield 43, 3) := by decide +kernel
set_option maxRecDepth 100000 in
theorem s151_56 {x0 : Nat} {x1 : Int32} {s0 : Nat} : ip_WP 151 56 [some (.ref x0), some (.int x1)] [.ref s0] (G, F, I, J) b post px ↔ (ip_isO G s0 3 = true ∧ ip_WP 151 59 [some (.ref x0), some (.int x1)] [F s0 0] (G, F, I, J) b post px) := ip_s_getf f151_56 (by decide +kernel)
theorem f151_59 : ip_fetch 151 59 = some (.invokevirtual 33, 3) := by decide +kernel
set_option maxRecDepth 100000 in
theorem s151_59 {x0 : Nat} {x1 : Int32} {s0 : Nat} : ip_WP 151 59 [some (.ref x0), some (.int x1)] [.ref s0] (G, F, I, J) b post px ↔ (ip_isO G s0 6 = true ∧ ip_WP 143 0 [some (.ref s0)] [] (G, F, I, J) (0, 0) (fun r h' => ip_WP 151 62 [some (.ref x0), some (.int x1)] (r.toList ++ []) h' b post px) (fun _ _ => False)) := ip_ck_iff (x := ip_cl 143 [some (.ref s0)] [] (0, 0) b) ((ip_st_of f151_59).trans rfl) (ip_cl_iff)
theorem f151_62 : ip_fetch 151 62 = some (.ifCond .le 7, 3) := by decide +kernel
theorem s151_62 {x0 : Nat} {x1 : Int32} {s0 : Int32} : ip_WP 151 62 [some (.ref x0), some (.int x1)] [.int s0] (G, F, I, J) b post px ↔ if s0 ≤ 0 then ip_WP 151 69 [some (.ref x0), some (.int x1)] [] (G, F, I, J) b post px else ip_WP 151 65 [some (.ref x0), some (.int x1)] [] (G, F, I, J) b post px := ip_s_if_le f151_62 rfl
theorem f151_65 : ip_fetch 151 65 = some (.aload_n 0, 1) := by decide +kernel
theorem s151_65 {x0 : Nat} {x1 : Int32} : ip_WP 151 65 [some (.ref x0), some (.int x1)] [] (G, F, I, J) b post px ↔ ip_WP 151 66 [some (.ref x0), some (.int x1)] [.ref x0] (G, F, I, J) b post px := ip_nx_iff ((ip_st_of f151_65).trans rfl)
theorem f151_66 : ip_fetch 151 66 = some (.invokevirtual 79, 3) := by decide +kernel
set_option maxRecDepth 100000 in
theorem s151_66 {x0 : Nat} {x1 : Int32} {s0 : Nat} : ip_WP 151 66 [some (.ref x0), some (.int x1)] [.ref s0] (G, F, I, J) b post px ↔ (ip_isO G s0 7 = true ∧ ip_WP 159 0 [some (.ref s0)] [] (G, F, I, J) (0, 0) (fun r h' => ip_WP 151 69 [some (.ref x0), some (.int x1)] (r.toList ++ []) h' b post px) (fun _ _ => False)) := ip_ck_iff (x := ip_cl 159 [some (.ref s0)] [] (0, 0) b) ((ip_st_of f151_66).trans rfl) (ip_cl_iff)
theorem f151_69 : ip_fetch 151 69 = some (.return_, 1) := by decide +kernel
theorem s151_69 {x0 : Nat} {x1 : Int32} : ip_WP 151 69 [some (.ref x0), some (.int x1)] [] (G, F, I, J) b post px ↔ post none (G, F, I, J) := ip_rt_iff ((ip_st_of f151_69).trans rfl)
theorem f152_0 : ip_fetch 152 0 = some (.aload_n 0, 1) := by decide +kernel
theorem s152_0 {x0 : Nat} {x1 : Int32} {x2 : Option Value} {x3 : Option Value} : ip_WP 152 0 [some (.ref x0), some (.int x1), x2, x3] [] (G, F, I, J) b post px ↔ ip_WP 152 1 [some (.ref x0), some (.int x1), x2, x3] [.ref x0] (G, F, I, J) b post px := ip_nx_iff ((ip_st_of f152_0).trans rfl)
theorem f152_1 : ip_fetch 152 1 = some (.getfield 15, 3) := by decide +kernel
set_option maxRecDepth 100000 in
theorem s152_1 {x0 : Nat} {x1 : Int32} {x2 : Option Value} {x3 : Option Value} {s0 : Nat} : ip_WP 152 1 [some (.ref x0), some (.int x1), x2, x3] [.ref s0] (G, F, I, J) b post px ↔ (ip_isO G s0 7 = true ∧ ip_WP 152 4 [some (.ref x0), some (.int x1), x2, x3] [F s0 1] (G, F, I, J) b post px) := ip_s_getf f152_1 (by decide +kernel)
theorem f152_4 : ip_fetch 152 4 = some (.ldc 82, 2) := by decide +kernel
set_option maxRecDepth 100000 in
theorem s152_4 {x0 : Nat} {x1 : Int32} {x2 : Option Value} {x3 : Option Value} {s0 : Nat} : ip_WP 152 4 [some (.ref x0), some (.int x1), x2, x3] [.ref s0] (G, F, I, J) b post px ↔ ip_WP 152 6 [some (.ref x0), some (.int x1), x2, x3] [.ref 1000009, .ref s0] (G, F, I, J) b post px := ip_nx_iff ((ip_st_of f152_4).trans rfl)
theorem f152_6 : ip_fetch 152 6 = some (.invokevirtual 71, 3) := by decide +kernel
set_option maxRecDepth 100000 in
theorem s152_6 {x0 : Nat} {x1 : Int32} {x2 : Option Value} {x3 : Option Value} {s0 : Nat} {s1 : Nat} : ip_WP 152 6 [some (.ref x0), some (.int x1), x2, x3] [.ref s1, .ref s0] (G, F, I, J) b post px ↔ (ip_isO G s0 2 = true ∧ ip_WP 93 0 [some (.ref s0), some (.ref s1), none] [] (G, F, I, J) (0, 0) (fun r h' => ip_WP 152 9 [some (.ref x0), some (.int x1), x2, x3] (r.toList ++ []) h' b post px) (fun _ _ => False)) := ip_ck_iff (x := ip_cl 93 [some (.ref s0), some (.ref s1), none] [] (0, 0) b) ((ip_st_of f152_6).trans rfl) (ip_cl_iff)
theorem f152_9 : ip_fetch 152 9 = some (.aload_n 0, 1) := by decide +kernel
theorem s152_9 {x0 : Nat} {x1 : Int32} {x2 : Option Value} {x3 : Option Value} : ip_WP 152 9 [some (.ref x0), some (.int x1), x2, x3] [] (G, F, I, J) b post px ↔ ip_WP 152 10 [some (.ref x0), some (.int x1), x2, x3] [.ref x0] (G, F, I, J) b post px := ip_nx_iff ((ip_st_of f152_9).trans rfl)
theorem f152_10 : ip_fetch 152 10 = some (.aload_n 0, 1) := by decide +kernel
theorem s152_10 {x0 : Nat} {x1 : Int32} {x2 : Option Value} {x3 : Option Value} {s0 : Nat} : ip_WP 152 10 [some (.ref x0), some (.int x1), x2, x3] [.ref s0] (G, F, I, J) b post px ↔ ip_WP 152 11 [some (.ref x0), some (.int x1), x2, x3] [.ref x0, .ref s0] (G, F, I, J) b post px := ip_nx_iff ((ip_st_of f152_10).trans rfl)
theorem f152_11 : ip_fetch 152 11 = some (.getfield 9, 3) := by decide +kernel
set_option maxRecDepth 100000 in
theorem s152_11 {x0 : Nat} {x1 : Int32} {x2 : Option Value} {x3 : Option Value} {s0 : Nat} {s1 : Nat} : ip_WP 152 11 [some (.ref x0), some (.int x1), x2, x3] [.ref s1, .ref s0] (G, F, I, J) b post px ↔ (ip_isO G s1 7 = true ∧ ip_WP 152 14 [some (.ref x0), some (.int x1), x2, x3] [F s1 0, .ref s0] (G, F, I, J) b post px) := ip_s_getf f152_11 (by decide +kernel)
theorem f152_14 : ip_fetch 152 14 = some (.getfield 27, 3) := by decide +kernel
set_option maxRecDepth 100000 in
theorem s152_14 {x0 : Nat} {x1 : Int32} {x2 : Option Value} {x3 : Option Value} {s0 : Nat} {s1 : Nat} : ip_WP 152 14 [some (.ref x0), some (.int x1), x2, x3] [.ref s1, .ref s0] (G, F, I, J) b post px ↔ (ip_isO G s1 3 = true ∧ ip_WP 152 17 [some (.ref x0), some (.int x1), x2, x3] [F s1 1, .ref s0] (G, F, I, J) b post px) := ip_s_getf f152_14 (by decide +kernel)
theorem f152_17 : ip_fetch 152 17 = some (.iload_n 1, 1) := by decide +kernel
theorem s152_17 {x0 : Nat} {x1 : Int32} {x2 : Option Value} {x3 : Option Value} {s0 : Nat} {s1 : Nat} : ip_WP 152 17 [some (.ref x0), some (.int x1), x2, x3] [.ref s1, .ref s0] (G, F, I, J) b post px ↔ ip_WP 152 18 [some (.ref x0), some (.int x1), x2, x3] [.int x1, .ref s1, .ref s0] (G, F, I, J) b post px := ip_nx_iff ((ip_st_of f152_17).trans rfl)
theorem f152_18 : ip_fetch 152 18 = some (.invokevirtual 75, 3) := by decide +kernel
set_option maxRecDepth 100000 in
theorem s152_18 {x0 : Nat} {x1 : Int32} {x2 : Option Value} {x3 : Option Value} {s0 : Nat} {s1 : Nat} {s2 : Int32} : ip_WP 152 18 [some (.ref x0), some (.int x1), x2, x3] [.int s2, .ref s1, .ref s0] (G, F, I, J) b post px ↔ (ip_isO G s0 7 = true ∧ ip_WP 157 0 [some (.ref s0), some (.ref s1), some (.int s2), none, none, none, none] [] (G, F, I, J) (0, 0) (fun r h' => ip_WP 152 21 [some (.ref x0), some (.int x1), x2, x3] (r.toList ++ []) h' b post px) (fun _ _ => False)) := ip_ck_iff (x := ip_cl 157 [some (.ref s0), some (.ref s1), some (.int s2), none, none, none, none] [] (0, 0) b) ((ip_st_of f152_18).trans rfl) (ip_cl_iff)
theorem f152_21 : ip_fetch 152 21 = some (.iconst 1, 1) := by decide +kernel
theorem s152_21 {x0 : Nat} {x1 : Int32} {x2 : Option Value} {x3 : Option Value} : ip_WP 152 21 [some (.ref x0), some (.int x1), x2, x3] [] (G, F, I, J) b post px ↔ ip_WP 152 22 [some (.ref x0), some (.int x1), x2, x3] [.int 1] (G, F, I, J) b post px := ip_s_iconst f152_21 (by decide)
theorem f152_22 : ip_fetch 152 22 = some (.istore_n 2, 1) := by decide +kernel
theorem s152_22 {x0 : Nat} {x1 : Int32} {x2 : Option Value} {x3 : Option Value} {s0 : Int32} : ip_WP 152 22 [some (.ref x0), some (.int x1), x2, x3] [.int s0] (G, F, I, J) b post px ↔ ip_WP 152 23 [some (.ref x0), some (.int x1), some (.int s0), x3] [] (G, F, I, J) b post px := ip_nx_iff ((ip_st_of f152_22).trans rfl)
theorem f152_23 : ip_fetch 152 23 = some (.iconst 0, 1) := by decide +kernel
theorem s152_23 {x0 : Nat} {x1 : Int32} {x2 : Int32} {x3 : Option Value} : ip_WP 152 23 [some (.ref x0), some (.int x1), some (.int x2), x3] [] (G, F, I, J) b post px ↔ ip_WP 152 24 [some (.ref x0), some (.int x1), some (.int x2), x3] [.int 0] (G, F, I, J) b post px := ip_s_iconst f152_23 (by decide)
theorem f152_24 : ip_fetch 152 24 = some (.istore_n 3, 1) := by decide +kernel
theorem s152_24 {x0 : Nat} {x1 : Int32} {x2 : Int32} {x3 : Option Value} {s0 : Int32} : ip_WP 152 24 [some (.ref x0), some (.int x1), some (.int x2), x3] [.int s0] (G, F, I, J) b post px ↔ ip_WP 152 25 [some (.ref x0), some (.int x1), some (.int x2), some (.int s0)] [] (G, F, I, J) b post px := ip_nx_iff ((ip_st_of f152_24).trans rfl)
theorem f152_25 : ip_fetch 152 25 = some (.iload_n 3, 1) := by decide +kernel
theorem s152_25 {x0 : Nat} {x1 : Int32} {x2 : Int32} {x3 : Int32} : ip_WP 152 25 [some (.ref x0), some (.int x1), some (.int x2), some (.int x3)] [] (G, F, I, J) b post px ↔ ip_WP 152 26 [some (.ref x0), some (.int x1), some (.int x2), some (.int x3)] [.int x3] (G, F, I, J) b post px := ip_nx_iff ((ip_st_of f152_25).trans rfl)
theorem f152_26 : ip_fetch 152 26 = some (.bipush 7, 2) := by decide +kernel
theorem s152_26 {x0 : Nat} {x1 : Int32} {x2 : Int32} {x3 : Int32} {s0 : Int32} : ip_WP 152 26 [some (.ref x0), some (.int x1), some (.int x2), some (.int x3)] [.int s0] (G, F, I, J) b post px ↔ ip_WP 152 28 [some (.ref x0), some (.int x1), some (.int x2), some (.int x3)] [.int 7, .int s0] (G, F, I, J) b post px := ip_s_bipush f152_26 (by decide)
theorem f152_28 : ip_fetch 152 28 = some (.if_icmp .ge 52, 3) := by decide +kernel
theorem s152_28 {x0 : Nat} {x1 : Int32} {x2 : Int32} {x3 : Int32} {s0 : Int32} {s1 : Int32} : ip_WP 152 28 [some (.ref x0), some (.int x1), some (.int x2), some (.int x3)] [.int s1, .int s0] (G, F, I, J) b post px ↔ if s1 ≤ s0 then ip_WP 152 80 [some (.ref x0), some (.int x1), some (.int x2), some (.int x3)] [] (G, F, I, J) b post px else ip_WP 152 31 [some (.ref x0), some (.int x1), some (.int x2), some (.int x3)] [] (G, F, I, J) b post px := ip_s_ic_ge f152_28 rfl
theorem f152_31 : ip_fetch 152 31 = some (.aload_n 0, 1) := by decide +kernel
theorem s152_31 {x0 : Nat} {x1 : Int32} {x2 : Int32} {x3 : Int32} : ip_WP 152 31 [some (.ref x0), some (.int x1), some (.int x2), some (.int x3)] [] (G, F, I, J) b post px ↔ ip_WP 152 32 [some (.ref x0), some (.int x1), some (.int x2), some (.int x3)] [.ref x0] (G, F, I, J) b post px := ip_nx_iff ((ip_st_of f152_31).trans rfl)
theorem f152_32 : ip_fetch 152 32 = some (.getfield 9, 3) := by decide +kernel
set_option maxRecDepth 100000 in
theorem s152_32 {x0 : Nat} {x1 : Int32} {x2 : Int32} {x3 : Int32} {s0 : Nat} : ip_WP 152 32 [some (.ref x0), some (.int x1), some (.int x2), some (.int x3)] [.ref s0] (G, F, I, J) b post px ↔ (ip_isO G s0 7 = true ∧ ip_WP 152 35 [some (.ref x0), some (.int x1), some (.int x2), some (.int x3)] [F s0 0] (G, F, I, J) b post px) := ip_s_getf f152_32 (by decide +kernel)
theorem f152_35 : ip_fetch 152 35 = some (.iload_n 1, 1) := by decide +kernel
theorem s152_35 {x0 : Nat} {x1 : Int32} {x2 : Int32} {x3 : Int32} {s0 : Nat} : ip_WP 152 35 [some (.ref x0), some (.int x1), some (.int x2), some (.int x3)] [.ref s0] (G, F, I, J) b post px ↔ ip_WP 152 36 [some (.ref x0), some (.int x1), some (.int x2), some (.int x3)] [.int x1, .ref s0] (G, F, I, J) b post px := ip_nx_iff ((ip_st_of f152_35).trans rfl)
theorem f152_36 : ip_fetch 152 36 = some (.iload_n 3, 1) := by decide +kernel
theorem s152_36 {x0 : Nat} {x1 : Int32} {x2 : Int32} {x3 : Int32} {s0 : Nat} {s1 : Int32} : ip_WP 152 36 [some (.ref x0), some (.int x1), some (.int x2), some (.int x3)] [.int s1, .ref s0] (G, F, I, J) b post px ↔ ip_WP 152 37 [some (.ref x0), some (.int x1), some (.int x2), some (.int x3)] [.int x3, .int s1, .ref s0] (G, F, I, J) b post px := ip_nx_iff ((ip_st_of f152_36).trans rfl)
theorem f152_37 : ip_fetch 152 37 = some (.invokevirtual 84, 3) := by decide +kernel
set_option maxRecDepth 100000 in
theorem s152_37 {x0 : Nat} {x1 : Int32} {x2 : Int32} {x3 : Int32} {s0 : Nat} {s1 : Int32} {s2 : Int32} : ip_WP 152 37 [some (.ref x0), some (.int x1), some (.int x2), some (.int x3)] [.int s2, .int s1, .ref s0] (G, F, I, J) b post px ↔ (ip_isO G s0 3 = true ∧ ip_WP 109 0 [some (.ref s0), some (.int s1), some (.int s2)] [] (G, F, I, J) (0, 0) (fun r h' => ip_WP 152 40 [some (.ref x0), some (.int x1), some (.int x2), some (.int x3)] (r.toList ++ []) h' b post px) (fun _ _ => False)) := ip_ck_iff (x := ip_cl 109 [some (.ref s0), some (.int s1), some (.int s2)] [] (0, 0) b) ((ip_st_of f152_37).trans rfl) (ip_cl_iff)
theorem f152_40 : ip_fetch 152 40 = some (.ifCond .eq 34, 3) := by decide +kernel
theorem s152_40 {x0 : Nat} {x1 : Int32} {x2 : Int32} {x3 : Int32} {s0 : Int32} : ip_WP 152 40 [some (.ref x0), some (.int x1), some (.int x2), some (.int x3)] [.int s0] (G, F, I, J) b post px ↔ if s0 = 0 then ip_WP 152 74 [some (.ref x0), some (.int x1), some (.int x2), some (.int x3)] [] (G, F, I, J) b post px else ip_WP 152 43 [some (.ref x0), some (.int x1), some (.int x2), some (.int x3)] [] (G, F, I, J) b post px := ip_s_if_eq f152_40 rfl
theorem f152_43 : ip_fetch 152 43 = some (.aload_n 0, 1) := by decide +kernel
theorem s152_43 {x0 : Nat} {x1 : Int32} {x2 : Int32} {x3 : Int32} : ip_WP 152 43 [some (.ref x0), some (.int x1), some (.int x2), some (.int x3)] [] (G, F, I, J) b post px ↔ ip_WP 152 44 [some (.ref x0), some (.int x1), some (.int x2), some (.int x3)] [.ref x0] (G, F, I, J) b post px := ip_nx_iff ((ip_st_of f152_43).trans rfl)
theorem f152_44 : ip_fetch 152 44 = some (.getfield 15, 3) := by decide +kernel
set_option maxRecDepth 100000 in
theorem s152_44 {x0 : Nat} {x1 : Int32} {x2 : Int32} {x3 : Int32} {s0 : Nat} : ip_WP 152 44 [some (.ref x0), some (.int x1), some (.int x2), some (.int x3)] [.ref s0] (G, F, I, J) b post px ↔ (ip_isO G s0 7 = true ∧ ip_WP 152 47 [some (.ref x0), some (.int x1), some (.int x2), some (.int x3)] [F s0 1] (G, F, I, J) b post px) := ip_s_getf f152_44 (by decide +kernel)
theorem f152_47 : ip_fetch 152 47 = some (.iload_n 2, 1) := by decide +kernel
theorem s152_47 {x0 : Nat} {x1 : Int32} {x2 : Int32} {x3 : Int32} {s0 : Nat} : ip_WP 152 47 [some (.ref x0), some (.int x1), some (.int x2), some (.int x3)] [.ref s0] (G, F, I, J) b post px ↔ ip_WP 152 48 [some (.ref x0), some (.int x1), some (.int x2), some (.int x3)] [.int x2, .ref s0] (G, F, I, J) b post px := ip_nx_iff ((ip_st_of f152_47).trans rfl)
theorem f152_48 : ip_fetch 152 48 = some (.ifCond .eq 8, 3) := by decide +kernel
theorem s152_48 {x0 : Nat} {x1 : Int32} {x2 : Int32} {x3 : Int32} {s0 : Nat} {s1 : Int32} : ip_WP 152 48 [some (.ref x0), some (.int x1), some (.int x2), some (.int x3)] [.int s1, .ref s0] (G, F, I, J) b post px ↔ if s1 = 0 then ip_WP 152 56 [some (.ref x0), some (.int x1), some (.int x2), some (.int x3)] [.ref s0] (G, F, I, J) b post px else ip_WP 152 51 [some (.ref x0), some (.int x1), some (.int x2), some (.int x3)] [.ref s0] (G, F, I, J) b post px := ip_s_if_eq f152_48 rfl
theorem f152_51 : ip_fetch 152 51 = some (.ldc 88, 2) := by decide +kernel
set_option maxRecDepth 100000 in
theorem s152_51 {x0 : Nat} {x1 : Int32} {x2 : Int32} {x3 : Int32} {s0 : Nat} : ip_WP 152 51 [some (.ref x0), some (.int x1), some (.int x2), some (.int x3)] [.ref s0] (G, F, I, J) b post px ↔ ip_WP 152 53 [some (.ref x0), some (.int x1), some (.int x2), some (.int x3)] [.ref 1000010, .ref s0] (G, F, I, J) b post px := ip_nx_iff ((ip_st_of f152_51).trans rfl)
theorem f152_53 : ip_fetch 152 53 = some (.goto 5, 3) := by decide +kernel
theorem s152_53 {x0 : Nat} {x1 : Int32} {x2 : Int32} {x3 : Int32} {s0 : Nat} {s1 : Nat} : ip_WP 152 53 [some (.ref x0), some (.int x1), some (.int x2), some (.int x3)] [.ref s1, .ref s0] (G, F, I, J) b post px ↔ ip_WP 152 58 [some (.ref x0), some (.int x1), some (.int x2), some (.int x3)] [.ref s1, .ref s0] (G, F, I, J) b post px := ip_nx_iff ((ip_st_of f152_53).trans rfl)
theorem f152_56 : ip_fetch 152 56 = some (.ldc 69, 2) := by decide +kernel
set_option maxRecDepth 100000 in
theorem s152_56 {x0 : Nat} {x1 : Int32} {x2 : Int32} {x3 : Int32} {s0 : Nat} : ip_WP 152 56 [some (.ref x0), some (.int x1), some (.int x2), some (.int x3)] [.ref s0] (G, F, I, J) b post px ↔ ip_WP 152 58 [some (.ref x0), some (.int x1), some (.int x2), some (.int x3)] [.ref 1000008, .ref s0] (G, F, I, J) b post px := ip_nx_iff ((ip_st_of f152_56).trans rfl)
theorem f152_58 : ip_fetch 152 58 = some (.invokevirtual 71, 3) := by decide +kernel
set_option maxRecDepth 100000 in
theorem s152_58 {x0 : Nat} {x1 : Int32} {x2 : Int32} {x3 : Int32} {s0 : Nat} {s1 : Nat} : ip_WP 152 58 [some (.ref x0), some (.int x1), some (.int x2), some (.int x3)] [.ref s1, .ref s0] (G, F, I, J) b post px ↔ (ip_isO G s0 2 = true ∧ ip_WP 93 0 [some (.ref s0), some (.ref s1), none] [] (G, F, I, J) (0, 0) (fun r h' => ip_WP 152 61 [some (.ref x0), some (.int x1), some (.int x2), some (.int x3)] (r.toList ++ []) h' b post px) (fun _ _ => False)) := ip_ck_iff (x := ip_cl 93 [some (.ref s0), some (.ref s1), none] [] (0, 0) b) ((ip_st_of f152_58).trans rfl) (ip_cl_iff)
theorem f152_61 : ip_fetch 152 61 = some (.aload_n 0, 1) := by decide +kernel
theorem s152_61 {x0 : Nat} {x1 : Int32} {x2 : Int32} {x3 : Int32} : ip_WP 152 61 [some (.ref x0), some (.int x1), some (.int x2), some (.int x3)] [] (G, F, I, J) b post px ↔ ip_WP 152 62 [some (.ref x0), some (.int x1), some (.int x2), some (.int x3)] [.ref x0] (G, F, I, J) b post px := ip_nx_iff ((ip_st_of f152_61).trans rfl)
theorem f152_62 : ip_fetch 152 62 = some (.getfield 15, 3) := by decide +kernel
set_option maxRecDepth 100000 in
theorem s152_62 {x0 : Nat} {x1 : Int32} {x2 : Int32} {x3 : Int32} {s0 : Nat} : ip_WP 152 62 [some (.ref x0), some (.int x1), some (.int x2), some (.int x3)] [.ref s0] (G, F, I, J) b post px ↔ (ip_isO G s0 7 = true ∧ ip_WP 152 65 [some (.ref x0), some (.int x1), some (.int x2), some (.int x3)] [F s0 1] (G, F, I, J) b post px) := ip_s_getf f152_62 (by decide +kernel)
theorem f152_65 : ip_fetch 152 65 = some (.iload_n 3, 1) := by decide +kernel
theorem s152_65 {x0 : Nat} {x1 : Int32} {x2 : Int32} {x3 : Int32} {s0 : Nat} : ip_WP 152 65 [some (.ref x0), some (.int x1), some (.int x2), some (.int x3)] [.ref s0] (G, F, I, J) b post px ↔ ip_WP 152 66 [some (.ref x0), some (.int x1), some (.int x2), some (.int x3)] [.int x3, .ref s0] (G, F, I, J) b post px := ip_nx_iff ((ip_st_of f152_65).trans rfl)
theorem f152_66 : ip_fetch 152 66 = some (.invokestatic 90, 3) := by decide +kernel
set_option maxRecDepth 100000 in
theorem s152_66 {x0 : Nat} {x1 : Int32} {x2 : Int32} {x3 : Int32} {s0 : Nat} {s1 : Int32} : ip_WP 152 66 [some (.ref x0), some (.int x1), some (.int x2), some (.int x3)] [.int s1, .ref s0] (G, F, I, J) b post px ↔ ip_WP 195 0 [some (.int s1)] [] (G, F, I, J) (0, 0) (fun r h' => ip_WP 152 69 [some (.ref x0), some (.int x1), some (.int x2), some (.int x3)] (r.toList ++ [.ref s0]) h' b post px) (fun _ _ => False) := ip_cl_iff ((ip_st_of f152_66).trans (rfl : _ = ip_cl 195 [some (.int s1)] [.ref s0] (0, 0) b))
theorem f152_69 : ip_fetch 152 69 = some (.invokevirtual 71, 3) := by decide +kernel
set_option maxRecDepth 100000 in
theorem s152_69 {x0 : Nat} {x1 : Int32} {x2 : Int32} {x3 : Int32} {s0 : Nat} {s1 : Nat} : ip_WP 152 69 [some (.ref x0), some (.int x1), some (.int x2), some (.int x3)] [.ref s1, .ref s0] (G, F, I, J) b post px ↔ (ip_isO G s0 2 = true ∧ ip_WP 93 0 [some (.ref s0), some (.ref s1), none] [] (G, F, I, J) (0, 0) (fun r h' => ip_WP 152 72 [some (.ref x0), some (.int x1), some (.int x2), some (.int x3)] (r.toList ++ []) h' b post px) (fun _ _ => False)) := ip_ck_iff (x := ip_cl 93 [some (.ref s0), some (.ref s1), none] [] (0, 0) b) ((ip_st_of f152_69).trans rfl) (ip_cl_iff)
theorem f152_72 : ip_fetch 152 72 = some (.iconst 0, 1) := by decide +kernel
theorem s152_72 {x0 : Nat} {x1 : Int32} {x2 : Int32} {x3 : Int32} : ip_WP 152 72 [some (.ref x0), some (.int x1), some (.int x2), some (.int x3)] [] (G, F, I, J) b post px ↔ ip_WP 152 73 [some (.ref x0), some (.int x1), some (.int x2), some (.int x3)] [.int 0] (G, F, I, J) b post px := ip_s_iconst f152_72 (by decide)
theorem f152_73 : ip_fetch 152 73 = some (.istore_n 2, 1) := by decide +kernel
theorem s152_73 {x0 : Nat} {x1 : Int32} {x2 : Int32} {x3 : Int32} {s0 : Int32} : ip_WP 152 73 [some (.ref x0), some (.int x1), some (.int x2), some (.int x3)] [.int s0] (G, F, I, J) b post px ↔ ip_WP 152 74 [some (.ref x0), some (.int x1), some (.int s0), some (.int x3)] [] (G, F, I, J) b post px := ip_nx_iff ((ip_st_of f152_73).trans rfl)
theorem f152_74 : ip_fetch 152 74 = some (.iinc 3 1, 3) := by decide +kernel
theorem s152_74 {x0 : Nat} {x1 : Int32} {x2 : Int32} {x3 : Int32} : ip_WP 152 74 [some (.ref x0), some (.int x1), some (.int x2), some (.int x3)] [] (G, F, I, J) b post px ↔ ip_WP 152 77 [some (.ref x0), some (.int x1), some (.int x2), some (.int (x3 + 1))] [] (G, F, I, J) b post px := ip_s_iinc f152_74 rfl (by decide)
theorem f152_77 : ip_fetch 152 77 = some (.goto (-52), 3) := by decide +kernel
theorem s152_77 {x0 : Nat} {x1 : Int32} {x2 : Int32} {x3 : Int32} : ip_WP 152 77 [some (.ref x0), some (.int x1), some (.int x2), some (.int x3)] [] (G, F, I, J) b post px ↔ ip_WP 152 25 [some (.ref x0), some (.int x1), some (.int x2), some (.int x3)] [] (G, F, I, J) b post px := ip_nx_iff ((ip_st_of f152_77).trans rfl)
theorem f152_80 : ip_fetch 152 80 = some (.aload_n 0, 1) := by decide +kernel
theorem s152_80 {x0 : Nat} {x1 : Int32} {x2 : Int32} {x3 : Int32} : ip_WP 152 80 [some (.ref x0), some (.int x1), some (.int x2), some (.int x3)] [] (G, F, I, J) b post px ↔ ip_WP 152 81 [some (.ref x0), some (.int x1), some (.int x2), some (.int x3)] [.ref x0] (G, F, I, J) b post px := ip_nx_iff ((ip_st_of f152_80).trans rfl)
theorem f152_81 : ip_fetch 152 81 = some (.invokevirtual 79, 3) := by decide +kernel
set_option maxRecDepth 100000 in
theorem s152_81 {x0 : Nat} {x1 : Int32} {x2 : Int32} {x3 : Int32} {s0 : Nat} : ip_WP 152 81 [some (.ref x0), some (.int x1), some (.int x2), some (.int x3)] [.ref s0] (G, F, I, J) b post px ↔ (ip_isO G s0 7 = true ∧ ip_WP 159 0 [some (.ref s0)] [] (G, F, I, J) (0, 0) (fun r h' => ip_WP 152 84 [some (.ref x0), some (.int x1), some (.int x2), some (.int x3)] (r.toList ++ []) h' b post px) (fun _ _ => False)) := ip_ck_iff (x := ip_cl 159 [some (.ref s0)] [] (0, 0) b) ((ip_st_of f152_81).trans rfl) (ip_cl_iff)
theorem f152_84 : ip_fetch 152 84 = some (.return_, 1) := by decide +kernel
theorem s152_84 {x0 : Nat} {x1 : Int32} {x2 : Int32} {x3 : Int32} : ip_WP 152 84 [some (.ref x0), some (.int x1), some (.int x2), some (.int x3)] [] (G, F, I, J) b post px ↔ post none (G, F, I, J) := ip_rt_iff ((ip_st_of f152_84).trans rfl)
theorem f153_0 : ip_fetch 153 0 = some (.aload_n 0, 1) := by decide +kernel
theorem s153_0 {x0 : Nat} {x1 : Int32} : ip_WP 153 0 [some (.ref x0), some (.int x1)] [] (G, F, I, J) b post px ↔ ip_WP 153 1 [some (.ref x0), some (.int x1)] [.ref x0] (G, F, I, J) b post px := ip_nx_iff ((ip_st_of f153_0).trans rfl)
theorem f153_1 : ip_fetch 153 1 = some (.getfield 15, 3) := by decide +kernel
set_option maxRecDepth 100000 in
theorem s153_1 {x0 : Nat} {x1 : Int32} {s0 : Nat} : ip_WP 153 1 [some (.ref x0), some (.int x1)] [.ref s0] (G, F, I, J) b post px ↔ (ip_isO G s0 7 = true ∧ ip_WP 153 4 [some (.ref x0), some (.int x1)] [F s0 1] (G, F, I, J) b post px) := ip_s_getf f153_1 (by decide +kernel)
theorem f153_4 : ip_fetch 153 4 = some (.ldc 96, 2) := by decide +kernel
set_option maxRecDepth 100000 in
theorem s153_4 {x0 : Nat} {x1 : Int32} {s0 : Nat} : ip_WP 153 4 [some (.ref x0), some (.int x1)] [.ref s0] (G, F, I, J) b post px ↔ ip_WP 153 6 [some (.ref x0), some (.int x1)] [.ref 1000011, .ref s0] (G, F, I, J) b post px := ip_nx_iff ((ip_st_of f153_4).trans rfl)
theorem f153_6 : ip_fetch 153 6 = some (.invokevirtual 71, 3) := by decide +kernel
set_option maxRecDepth 100000 in
theorem s153_6 {x0 : Nat} {x1 : Int32} {s0 : Nat} {s1 : Nat} : ip_WP 153 6 [some (.ref x0), some (.int x1)] [.ref s1, .ref s0] (G, F, I, J) b post px ↔ (ip_isO G s0 2 = true ∧ ip_WP 93 0 [some (.ref s0), some (.ref s1), none] [] (G, F, I, J) (0, 0) (fun r h' => ip_WP 153 9 [some (.ref x0), some (.int x1)] (r.toList ++ []) h' b post px) (fun _ _ => False)) := ip_ck_iff (x := ip_cl 93 [some (.ref s0), some (.ref s1), none] [] (0, 0) b) ((ip_st_of f153_6).trans rfl) (ip_cl_iff)
theorem f153_9 : ip_fetch 153 9 = some (.aload_n 0, 1) := by decide +kernel
theorem s153_9 {x0 : Nat} {x1 : Int32} : ip_WP 153 9 [some (.ref x0), some (.int x1)] [] (G, F, I, J) b post px ↔ ip_WP 153 10 [some (.ref x0), some (.int x1)] [.ref x0] (G, F, I, J) b post px := ip_nx_iff ((ip_st_of f153_9).trans rfl)
theorem f153_10 : ip_fetch 153 10 = some (.aload_n 0, 1) := by decide +kernel
theorem s153_10 {x0 : Nat} {x1 : Int32} {s0 : Nat} : ip_WP 153 10 [some (.ref x0), some (.int x1)] [.ref s0] (G, F, I, J) b post px ↔ ip_WP 153 11 [some (.ref x0), some (.int x1)] [.ref x0, .ref s0] (G, F, I, J) b post px := ip_nx_iff ((ip_st_of f153_10).trans rfl)
theorem f153_11 : ip_fetch 153 11 = some (.getfield 9, 3) := by decide +kernel
set_option maxRecDepth 100000 in
theorem s153_11 {x0 : Nat} {x1 : Int32} {s0 : Nat} {s1 : Nat} : ip_WP 153 11 [some (.ref x0), some (.int x1)] [.ref s1, .ref s0] (G, F, I, J) b post px ↔ (ip_isO G s1 7 = true ∧ ip_WP 153 14 [some (.ref x0), some (.int x1)] [F s1 0, .ref s0] (G, F, I, J) b post px) := ip_s_getf f153_11 (by decide +kernel)
theorem f153_14 : ip_fetch 153 14 = some (.getfield 43, 3) := by decide +kernel
set_option maxRecDepth 100000 in
theorem s153_14 {x0 : Nat} {x1 : Int32} {s0 : Nat} {s1 : Nat} : ip_WP 153 14 [some (.ref x0), some (.int x1)] [.ref s1, .ref s0] (G, F, I, J) b post px ↔ (ip_isO G s1 3 = true ∧ ip_WP 153 17 [some (.ref x0), some (.int x1)] [F s1 0, .ref s0] (G, F, I, J) b post px) := ip_s_getf f153_14 (by decide +kernel)
theorem f153_17 : ip_fetch 153 17 = some (.iload_n 1, 1) := by decide +kernel
theorem s153_17 {x0 : Nat} {x1 : Int32} {s0 : Nat} {s1 : Nat} : ip_WP 153 17 [some (.ref x0), some (.int x1)] [.ref s1, .ref s0] (G, F, I, J) b post px ↔ ip_WP 153 18 [some (.ref x0), some (.int x1)] [.int x1, .ref s1, .ref s0] (G, F, I, J) b post px := ip_nx_iff ((ip_st_of f153_17).trans rfl)
theorem f153_18 : ip_fetch 153 18 = some (.invokevirtual 75, 3) := by decide +kernel
set_option maxRecDepth 100000 in
theorem s153_18 {x0 : Nat} {x1 : Int32} {s0 : Nat} {s1 : Nat} {s2 : Int32} : ip_WP 153 18 [some (.ref x0), some (.int x1)] [.int s2, .ref s1, .ref s0] (G, F, I, J) b post px ↔ (ip_isO G s0 7 = true ∧ ip_WP 157 0 [some (.ref s0), some (.ref s1), some (.int s2), none, none, none, none] [] (G, F, I, J) (0, 0) (fun r h' => ip_WP 153 21 [some (.ref x0), some (.int x1)] (r.toList ++ []) h' b post px) (fun _ _ => False)) := ip_ck_iff (x := ip_cl 157 [some (.ref s0), some (.ref s1), some (.int s2), none, none, none, none] [] (0, 0) b) ((ip_st_of f153_18).trans rfl) (ip_cl_iff)
theorem f153_21 : ip_fetch 153 21 = some (.aload_n 0, 1) := by decide +kernel
theorem s153_21 {x0 : Nat} {x1 : Int32} : ip_WP 153 21 [some (.ref x0), some (.int x1)] [] (G, F, I, J) b post px ↔ ip_WP 153 22 [some (.ref x0), some (.int x1)] [.ref x0] (G, F, I, J) b post px := ip_nx_iff ((ip_st_of f153_21).trans rfl)
theorem f153_22 : ip_fetch 153 22 = some (.getfield 15, 3) := by decide +kernel
set_option maxRecDepth 100000 in
theorem s153_22 {x0 : Nat} {x1 : Int32} {s0 : Nat} : ip_WP 153 22 [some (.ref x0), some (.int x1)] [.ref s0] (G, F, I, J) b post px ↔ (ip_isO G s0 7 = true ∧ ip_WP 153 25 [some (.ref x0), some (.int x1)] [F s0 1] (G, F, I, J) b post px) := ip_s_getf f153_22 (by decide +kernel)
theorem f153_25 : ip_fetch 153 25 = some (.ldc 98, 2) := by decide +kernel
set_option maxRecDepth 100000 in
theorem s153_25 {x0 : Nat} {x1 : Int32} {s0 : Nat} : ip_WP 153 25 [some (.ref x0), some (.int x1)] [.ref s0] (G, F, I, J) b post px ↔ ip_WP 153 27 [some (.ref x0), some (.int x1)] [.ref 1000012, .ref s0] (G, F, I, J) b post px := ip_nx_iff ((ip_st_of f153_25).trans rfl)
theorem f153_27 : ip_fetch 153 27 = some (.invokevirtual 71, 3) := by decide +kernel
set_option maxRecDepth 100000 in
theorem s153_27 {x0 : Nat} {x1 : Int32} {s0 : Nat} {s1 : Nat} : ip_WP 153 27 [some (.ref x0), some (.int x1)] [.ref s1, .ref s0] (G, F, I, J) b post px ↔ (ip_isO G s0 2 = true ∧ ip_WP 93 0 [some (.ref s0), some (.ref s1), none] [] (G, F, I, J) (0, 0) (fun r h' => ip_WP 153 30 [some (.ref x0), some (.int x1)] (r.toList ++ []) h' b post px) (fun _ _ => False)) := ip_ck_iff (x := ip_cl 93 [some (.ref s0), some (.ref s1), none] [] (0, 0) b) ((ip_st_of f153_27).trans rfl) (ip_cl_iff)
theorem f153_30 : ip_fetch 153 30 = some (.aload_n 0, 1) := by decide +kernel
theorem s153_30 {x0 : Nat} {x1 : Int32} : ip_WP 153 30 [some (.ref x0), some (.int x1)] [] (G, F, I, J) b post px ↔ ip_WP 153 31 [some (.ref x0), some (.int x1)] [.ref x0] (G, F, I, J) b post px := ip_nx_iff ((ip_st_of f153_30).trans rfl)
theorem f153_31 : ip_fetch 153 31 = some (.aload_n 0, 1) := by decide +kernel
theorem s153_31 {x0 : Nat} {x1 : Int32} {s0 : Nat} : ip_WP 153 31 [some (.ref x0), some (.int x1)] [.ref s0] (G, F, I, J) b post px ↔ ip_WP 153 32 [some (.ref x0), some (.int x1)] [.ref x0, .ref s0] (G, F, I, J) b post px := ip_nx_iff ((ip_st_of f153_31).trans rfl)
theorem f153_32 : ip_fetch 153 32 = some (.getfield 9, 3) := by decide +kernel
set_option maxRecDepth 100000 in
theorem s153_32 {x0 : Nat} {x1 : Int32} {s0 : Nat} {s1 : Nat} : ip_WP 153 32 [some (.ref x0), some (.int x1)] [.ref s1, .ref s0] (G, F, I, J) b post px ↔ (ip_isO G s1 7 = true ∧ ip_WP 153 35 [some (.ref x0), some (.int x1)] [F s1 0, .ref s0] (G, F, I, J) b post px) := ip_s_getf f153_32 (by decide +kernel)
theorem f153_35 : ip_fetch 153 35 = some (.iload_n 1, 1) := by decide +kernel
theorem s153_35 {x0 : Nat} {x1 : Int32} {s0 : Nat} {s1 : Nat} : ip_WP 153 35 [some (.ref x0), some (.int x1)] [.ref s1, .ref s0] (G, F, I, J) b post px ↔ ip_WP 153 36 [some (.ref x0), some (.int x1)] [.int x1, .ref s1, .ref s0] (G, F, I, J) b post px := ip_nx_iff ((ip_st_of f153_35).trans rfl)
theorem f153_36 : ip_fetch 153 36 = some (.invokevirtual 100, 3) := by decide +kernel
set_option maxRecDepth 100000 in
theorem s153_36 {x0 : Nat} {x1 : Int32} {s0 : Nat} {s1 : Nat} {s2 : Int32} : ip_WP 153 36 [some (.ref x0), some (.int x1)] [.int s2, .ref s1, .ref s0] (G, F, I, J) b post px ↔ (ip_isO G s1 3 = true ∧ ip_WP 107 0 [some (.ref s1), some (.int s2), none] [] (G, F, I, J) (0, 0) (fun r h' => ip_WP 153 39 [some (.ref x0), some (.int x1)] (r.toList ++ [.ref s0]) h' b post px) (fun _ _ => False)) := ip_ck_iff (x := ip_cl 107 [some (.ref s1), some (.int s2), none] [.ref s0] (0, 0) b) ((ip_st_of f153_36).trans rfl) (ip_cl_iff)
theorem f153_39 : ip_fetch 153 39 = some (.invokevirtual 104, 3) := by decide +kernel
set_option maxRecDepth 100000 in
theorem s153_39 {x0 : Nat} {x1 : Int32} {s0 : Nat} {s1 : Int32} : ip_WP 153 39 [some (.ref x0), some (.int x1)] [.int s1, .ref s0] (G, F, I, J) b post px ↔ (ip_isO G s0 7 = true ∧ ip_WP 158 0 [some (.ref s0), some (.int s1)] [] (G, F, I, J) (0, 0) (fun r h' => ip_WP 153 42 [some (.ref x0), some (.int x1)] (r.toList ++ []) h' b post px) (fun _ _ => False)) := ip_ck_iff (x := ip_cl 158 [some (.ref s0), some (.int s1)] [] (0, 0) b) ((ip_st_of f153_39).trans rfl) (ip_cl_iff)
theorem f153_42 : ip_fetch 153 42 = some (.aload_n 0, 1) := by decide +kernel
theorem s153_42 {x0 : Nat} {x1 : Int32} : ip_WP 153 42 [some (.ref x0), some (.int x1)] [] (G, F, I, J) b post px ↔ ip_WP 153 43 [some (.ref x0), some (.int x1)] [.ref x0] (G, F, I, J) b post px := ip_nx_iff ((ip_st_of f153_42).trans rfl)
theorem f153_43 : ip_fetch 153 43 = some (.invokevirtual 79, 3) := by decide +kernel
set_option maxRecDepth 100000 in
theorem s153_43 {x0 : Nat} {x1 : Int32} {s0 : Nat} : ip_WP 153 43 [some (.ref x0), some (.int x1)] [.ref s0] (G, F, I, J) b post px ↔ (ip_isO G s0 7 = true ∧ ip_WP 159 0 [some (.ref s0)] [] (G, F, I, J) (0, 0) (fun r h' => ip_WP 153 46 [some (.ref x0), some (.int x1)] (r.toList ++ []) h' b post px) (fun _ _ => False)) := ip_ck_iff (x := ip_cl 159 [some (.ref s0)] [] (0, 0) b) ((ip_st_of f153_43).trans rfl) (ip_cl_iff)
theorem f153_46 : ip_fetch 153 46 = some (.aload_n 0, 1) := by decide +kernel
theorem s153_46 {x0 : Nat} {x1 : Int32} : ip_WP 153 46 [some (.ref x0), some (.int x1)] [] (G, F, I, J) b post px ↔ ip_WP 153 47 [some (.ref x0), some (.int x1)] [.ref x0] (G, F, I, J) b post px := ip_nx_iff ((ip_st_of f153_46).trans rfl)
theorem f153_47 : ip_fetch 153 47 = some (.getfield 9, 3) := by decide +kernel
set_option maxRecDepth 100000 in
theorem s153_47 {x0 : Nat} {x1 : Int32} {s0 : Nat} : ip_WP 153 47 [some (.ref x0), some (.int x1)] [.ref s0] (G, F, I, J) b post px ↔ (ip_isO G s0 7 = true ∧ ip_WP 153 50 [some (.ref x0), some (.int x1)] [F s0 0] (G, F, I, J) b post px) := ip_s_getf f153_47 (by decide +kernel)
theorem f153_50 : ip_fetch 153 50 = some (.getfield 107, 3) := by decide +kernel
set_option maxRecDepth 100000 in
theorem s153_50 {x0 : Nat} {x1 : Int32} {s0 : Nat} : ip_WP 153 50 [some (.ref x0), some (.int x1)] [.ref s0] (G, F, I, J) b post px ↔ (ip_isO G s0 3 = true ∧ ip_WP 153 53 [some (.ref x0), some (.int x1)] [F s0 5] (G, F, I, J) b post px) := ip_s_getf f153_50 (by decide +kernel)
theorem f153_53 : ip_fetch 153 53 = some (.iload_n 1, 1) := by decide +kernel
theorem s153_53 {x0 : Nat} {x1 : Int32} {s0 : Nat} : ip_WP 153 53 [some (.ref x0), some (.int x1)] [.ref s0] (G, F, I, J) b post px ↔ ip_WP 153 54 [some (.ref x0), some (.int x1)] [.int x1, .ref s0] (G, F, I, J) b post px := ip_nx_iff ((ip_st_of f153_53).trans rfl)
theorem f153_54 : ip_fetch 153 54 = some (.invokevirtual 111, 3) := by decide +kernel
set_option maxRecDepth 100000 in
theorem s153_54 {x0 : Nat} {x1 : Int32} {s0 : Nat} {s1 : Int32} : ip_WP 153 54 [some (.ref x0), some (.int x1)] [.int s1, .ref s0] (G, F, I, J) b post px ↔ (ip_isO G s0 9 = true ∧ ip_WP 191 0 [some (.ref s0), some (.int s1)] [] (G, F, I, J) (0, 0) (fun r h' => ip_WP 153 57 [some (.ref x0), some (.int x1)] (r.toList ++ []) h' b post px) (fun _ _ => False)) := ip_ck_iff (x := ip_cl 191 [some (.ref s0), some (.int s1)] [] (0, 0) b) ((ip_st_of f153_54).trans rfl) (ip_cl_iff)
theorem f153_57 : ip_fetch 153 57 = some (.iconst (-1), 1) := by decide +kernel
theorem s153_57 {x0 : Nat} {x1 : Int32} {s0 : Int32} : ip_WP 153 57 [some (.ref x0), some (.int x1)] [.int s0] (G, F, I, J) b post px ↔ ip_WP 153 58 [some (.ref x0), some (.int x1)] [.int (-1), .int s0] (G, F, I, J) b post px := ip_s_iconst f153_57 (by decide)
theorem f153_58 : ip_fetch 153 58 = some (.if_icmp .eq 59, 3) := by decide +kernel
theorem s153_58 {x0 : Nat} {x1 : Int32} {s0 : Int32} {s1 : Int32} : ip_WP 153 58 [some (.ref x0), some (.int x1)] [.int s1, .int s0] (G, F, I, J) b post px ↔ if s0 = s1 then ip_WP 153 117 [some (.ref x0), some (.int x1)] [] (G, F, I, J) b post px else ip_WP 153 61 [some (.ref x0), some (.int x1)] [] (G, F, I, J) b post px := ip_s_ic_eq f153_58 rfl
theorem f153_61 : ip_fetch 153 61 = some (.aload_n 0, 1) := by decide +kernel
theorem s153_61 {x0 : Nat} {x1 : Int32} : ip_WP 153 61 [some (.ref x0), some (.int x1)] [] (G, F, I, J) b post px ↔ ip_WP 153 62 [some (.ref x0), some (.int x1)] [.ref x0] (G, F, I, J) b post px := ip_nx_iff ((ip_st_of f153_61).trans rfl)
theorem f153_62 : ip_fetch 153 62 = some (.getfield 15, 3) := by decide +kernel
set_option maxRecDepth 100000 in
theorem s153_62 {x0 : Nat} {x1 : Int32} {s0 : Nat} : ip_WP 153 62 [some (.ref x0), some (.int x1)] [.ref s0] (G, F, I, J) b post px ↔ (ip_isO G s0 7 = true ∧ ip_WP 153 65 [some (.ref x0), some (.int x1)] [F s0 1] (G, F, I, J) b post px) := ip_s_getf f153_62 (by decide +kernel)
theorem f153_65 : ip_fetch 153 65 = some (.ldc 116, 2) := by decide +kernel
set_option maxRecDepth 100000 in
theorem s153_65 {x0 : Nat} {x1 : Int32} {s0 : Nat} : ip_WP 153 65 [some (.ref x0), some (.int x1)] [.ref s0] (G, F, I, J) b post px ↔ ip_WP 153 67 [some (.ref x0), some (.int x1)] [.ref 1000013, .ref s0] (G, F, I, J) b post px := ip_nx_iff ((ip_st_of f153_65).trans rfl)
theorem f153_67 : ip_fetch 153 67 = some (.invokevirtual 71, 3) := by decide +kernel
set_option maxRecDepth 100000 in
theorem s153_67 {x0 : Nat} {x1 : Int32} {s0 : Nat} {s1 : Nat} : ip_WP 153 67 [some (.ref x0), some (.int x1)] [.ref s1, .ref s0] (G, F, I, J) b post px ↔ (ip_isO G s0 2 = true ∧ ip_WP 93 0 [some (.ref s0), some (.ref s1), none] [] (G, F, I, J) (0, 0) (fun r h' => ip_WP 153 70 [some (.ref x0), some (.int x1)] (r.toList ++ []) h' b post px) (fun _ _ => False)) := ip_ck_iff (x := ip_cl 93 [some (.ref s0), some (.ref s1), none] [] (0, 0) b) ((ip_st_of f153_67).trans rfl) (ip_cl_iff)
theorem f153_70 : ip_fetch 153 70 = some (.aload_n 0, 1) := by decide +kernel
theorem s153_70 {x0 : Nat} {x1 : Int32} : ip_WP 153 70 [some (.ref x0), some (.int x1)] [] (G, F, I, J) b post px ↔ ip_WP 153 71 [some (.ref x0), some (.int x1)] [.ref x0] (G, F, I, J) b post px := ip_nx_iff ((ip_st_of f153_70).trans rfl)
theorem f153_71 : ip_fetch 153 71 = some (.aload_n 0, 1) := by decide +kernel
theorem s153_71 {x0 : Nat} {x1 : Int32} {s0 : Nat} : ip_WP 153 71 [some (.ref x0), some (.int x1)] [.ref s0] (G, F, I, J) b post px ↔ ip_WP 153 72 [some (.ref x0), some (.int x1)] [.ref x0, .ref s0] (G, F, I, J) b post px := ip_nx_iff ((ip_st_of f153_71).trans rfl)
theorem f153_72 : ip_fetch 153 72 = some (.getfield 9, 3) := by decide +kernel
set_option maxRecDepth 100000 in
theorem s153_72 {x0 : Nat} {x1 : Int32} {s0 : Nat} {s1 : Nat} : ip_WP 153 72 [some (.ref x0), some (.int x1)] [.ref s1, .ref s0] (G, F, I, J) b post px ↔ (ip_isO G s1 7 = true ∧ ip_WP 153 75 [some (.ref x0), some (.int x1)] [F s1 0, .ref s0] (G, F, I, J) b post px) := ip_s_getf f153_72 (by decide +kernel)
theorem f153_75 : ip_fetch 153 75 = some (.getfield 43, 3) := by decide +kernel
set_option maxRecDepth 100000 in
theorem s153_75 {x0 : Nat} {x1 : Int32} {s0 : Nat} {s1 : Nat} : ip_WP 153 75 [some (.ref x0), some (.int x1)] [.ref s1, .ref s0] (G, F, I, J) b post px ↔ (ip_isO G s1 3 = true ∧ ip_WP 153 78 [some (.ref x0), some (.int x1)] [F s1 0, .ref s0] (G, F, I, J) b post px) := ip_s_getf f153_75 (by decide +kernel)
theorem f153_78 : ip_fetch 153 78 = some (.iload_n 1, 1) := by decide +kernel
theorem s153_78 {x0 : Nat} {x1 : Int32} {s0 : Nat} {s1 : Nat} : ip_WP 153 78 [some (.ref x0), some (.int x1)] [.ref s1, .ref s0] (G, F, I, J) b post px ↔ ip_WP 153 79 [some (.ref x0), some (.int x1)] [.int x1, .ref s1, .ref s0] (G, F, I, J) b post px := ip_nx_iff ((ip_st_of f153_78).trans rfl)
theorem f153_79 : ip_fetch 153 79 = some (.invokevirtual 75, 3) := by decide +kernel
set_option maxRecDepth 100000 in
theorem s153_79 {x0 : Nat} {x1 : Int32} {s0 : Nat} {s1 : Nat} {s2 : Int32} : ip_WP 153 79 [some (.ref x0), some (.int x1)] [.int s2, .ref s1, .ref s0] (G, F, I, J) b post px ↔ (ip_isO G s0 7 = true ∧ ip_WP 157 0 [some (.ref s0), some (.ref s1), some (.int s2), none, none, none, none] [] (G, F, I, J) (0, 0) (fun r h' => ip_WP 153 82 [some (.ref x0), some (.int x1)] (r.toList ++ []) h' b post px) (fun _ _ => False)) := ip_ck_iff (x := ip_cl 157 [some (.ref s0), some (.ref s1), some (.int s2), none, none, none, none] [] (0, 0) b) ((ip_st_of f153_79).trans rfl) (ip_cl_iff)
theorem f153_82 : ip_fetch 153 82 = some (.aload_n 0, 1) := by decide +kernel
theorem s153_82 {x0 : Nat} {x1 : Int32} : ip_WP 153 82 [some (.ref x0), some (.int x1)] [] (G, F, I, J) b post px ↔ ip_WP 153 83 [some (.ref x0), some (.int x1)] [.ref x0] (G, F, I, J) b post px := ip_nx_iff ((ip_st_of f153_82).trans rfl)
theorem f153_83 : ip_fetch 153 83 = some (.getfield 15, 3) := by decide +kernel
set_option maxRecDepth 100000 in
theorem s153_83 {x0 : Nat} {x1 : Int32} {s0 : Nat} : ip_WP 153 83 [some (.ref x0), some (.int x1)] [.ref s0] (G, F, I, J) b post px ↔ (ip_isO G s0 7 = true ∧ ip_WP 153 86 [some (.ref x0), some (.int x1)] [F s0 1] (G, F, I, J) b post px) := ip_s_getf f153_83 (by decide +kernel)
theorem f153_86 : ip_fetch 153 86 = some (.ldc 118, 2) := by decide +kernel
set_option maxRecDepth 100000 in
theorem s153_86 {x0 : Nat} {x1 : Int32} {s0 : Nat} : ip_WP 153 86 [some (.ref x0), some (.int x1)] [.ref s0] (G, F, I, J) b post px ↔ ip_WP 153 88 [some (.ref x0), some (.int x1)] [.ref 1000014, .ref s0] (G, F, I, J) b post px := ip_nx_iff ((ip_st_of f153_86).trans rfl)
theorem f153_88 : ip_fetch 153 88 = some (.invokevirtual 71, 3) := by decide +kernel
set_option maxRecDepth 100000 in
theorem s153_88 {x0 : Nat} {x1 : Int32} {s0 : Nat} {s1 : Nat} : ip_WP 153 88 [some (.ref x0), some (.int x1)] [.ref s1, .ref s0] (G, F, I, J) b post px ↔ (ip_isO G s0 2 = true ∧ ip_WP 93 0 [some (.ref s0), some (.ref s1), none] [] (G, F, I, J) (0, 0) (fun r h' => ip_WP 153 91 [some (.ref x0), some (.int x1)] (r.toList ++ []) h' b post px) (fun _ _ => False)) := ip_ck_iff (x := ip_cl 93 [some (.ref s0), some (.ref s1), none] [] (0, 0) b) ((ip_st_of f153_88).trans rfl) (ip_cl_iff)
theorem f153_91 : ip_fetch 153 91 = some (.aload_n 0, 1) := by decide +kernel
theorem s153_91 {x0 : Nat} {x1 : Int32} : ip_WP 153 91 [some (.ref x0), some (.int x1)] [] (G, F, I, J) b post px ↔ ip_WP 153 92 [some (.ref x0), some (.int x1)] [.ref x0] (G, F, I, J) b post px := ip_nx_iff ((ip_st_of f153_91).trans rfl)
theorem f153_92 : ip_fetch 153 92 = some (.aload_n 0, 1) := by decide +kernel
theorem s153_92 {x0 : Nat} {x1 : Int32} {s0 : Nat} : ip_WP 153 92 [some (.ref x0), some (.int x1)] [.ref s0] (G, F, I, J) b post px ↔ ip_WP 153 93 [some (.ref x0), some (.int x1)] [.ref x0, .ref s0] (G, F, I, J) b post px := ip_nx_iff ((ip_st_of f153_92).trans rfl)
theorem f153_93 : ip_fetch 153 93 = some (.getfield 9, 3) := by decide +kernel
set_option maxRecDepth 100000 in
theorem s153_93 {x0 : Nat} {x1 : Int32} {s0 : Nat} {s1 : Nat} : ip_WP 153 93 [some (.ref x0), some (.int x1)] [.ref s1, .ref s0] (G, F, I, J) b post px ↔ (ip_isO G s1 7 = true ∧ ip_WP 153 96 [some (.ref x0), some (.int x1)] [F s1 0, .ref s0] (G, F, I, J) b post px) := ip_s_getf f153_93 (by decide +kernel)
theorem f153_96 : ip_fetch 153 96 = some (.getfield 27, 3) := by decide +kernel
set_option maxRecDepth 100000 in
theorem s153_96 {x0 : Nat} {x1 : Int32} {s0 : Nat} {s1 : Nat} : ip_WP 153 96 [some (.ref x0), some (.int x1)] [.ref s1, .ref s0] (G, F, I, J) b post px ↔ (ip_isO G s1 3 = true ∧ ip_WP 153 99 [some (.ref x0), some (.int x1)] [F s1 1, .ref s0] (G, F, I, J) b post px) := ip_s_getf f153_96 (by decide +kernel)
theorem f153_99 : ip_fetch 153 99 = some (.aload_n 0, 1) := by decide +kernel
theorem s153_99 {x0 : Nat} {x1 : Int32} {s0 : Nat} {s1 : Nat} : ip_WP 153 99 [some (.ref x0), some (.int x1)] [.ref s1, .ref s0] (G, F, I, J) b post px ↔ ip_WP 153 100 [some (.ref x0), some (.int x1)] [.ref x0, .ref s1, .ref s0] (G, F, I, J) b post px := ip_nx_iff ((ip_st_of f153_99).trans rfl)
theorem f153_100 : ip_fetch 153 100 = some (.getfield 9, 3) := by decide +kernel
set_option maxRecDepth 100000 in
theorem s153_100 {x0 : Nat} {x1 : Int32} {s0 : Nat} {s1 : Nat} {s2 : Nat} : ip_WP 153 100 [some (.ref x0), some (.int x1)] [.ref s2, .ref s1, .ref s0] (G, F, I, J) b post px ↔ (ip_isO G s2 7 = true ∧ ip_WP 153 103 [some (.ref x0), some (.int x1)] [F s2 0, .ref s1, .ref s0] (G, F, I, J) b post px) := ip_s_getf f153_100 (by decide +kernel)
theorem f153_103 : ip_fetch 153 103 = some (.getfield 107, 3) := by decide +kernel
set_option maxRecDepth 100000 in
theorem s153_103 {x0 : Nat} {x1 : Int32} {s0 : Nat} {s1 : Nat} {s2 : Nat} : ip_WP 153 103 [some (.ref x0), some (.int x1)] [.ref s2, .ref s1, .ref s0] (G, F, I, J) b post px ↔ (ip_isO G s2 3 = true ∧ ip_WP 153 106 [some (.ref x0), some (.int x1)] [F s2 5, .ref s1, .ref s0] (G, F, I, J) b post px) := ip_s_getf f153_103 (by decide +kernel)
theorem f153_106 : ip_fetch 153 106 = some (.iload_n 1, 1) := by decide +kernel
theorem s153_106 {x0 : Nat} {x1 : Int32} {s0 : Nat} {s1 : Nat} {s2 : Nat} : ip_WP 153 106 [some (.ref x0), some (.int x1)] [.ref s2, .ref s1, .ref s0] (G, F, I, J) b post px ↔ ip_WP 153 107 [some (.ref x0), some (.int x1)] [.int x1, .ref s2, .ref s1, .ref s0] (G, F, I, J) b post px := ip_nx_iff ((ip_st_of f153_106).trans rfl)
theorem f153_107 : ip_fetch 153 107 = some (.invokevirtual 111, 3) := by decide +kernel
set_option maxRecDepth 100000 in
theorem s153_107 {x0 : Nat} {x1 : Int32} {s0 : Nat} {s1 : Nat} {s2 : Nat} {s3 : Int32} : ip_WP 153 107 [some (.ref x0), some (.int x1)] [.int s3, .ref s2, .ref s1, .ref s0] (G, F, I, J) b post px ↔ (ip_isO G s2 9 = true ∧ ip_WP 191 0 [some (.ref s2), some (.int s3)] [] (G, F, I, J) (0, 0) (fun r h' => ip_WP 153 110 [some (.ref x0), some (.int x1)] (r.toList ++ [.ref s1, .ref s0]) h' b post px) (fun _ _ => False)) := ip_ck_iff (x := ip_cl 191 [some (.ref s2), some (.int s3)] [.ref s1, .ref s0] (0, 0) b) ((ip_st_of f153_107).trans rfl) (ip_cl_iff)
theorem f153_110 : ip_fetch 153 110 = some (.invokevirtual 75, 3) := by decide +kernel
set_option maxRecDepth 100000 in
theorem s153_110 {x0 : Nat} {x1 : Int32} {s0 : Nat} {s1 : Nat} {s2 : Int32} : ip_WP 153 110 [some (.ref x0), some (.int x1)] [.int s2, .ref s1, .ref s0] (G, F, I, J) b post px ↔ (ip_isO G s0 7 = true ∧ ip_WP 157 0 [some (.ref s0), some (.ref s1), some (.int s2), none, none, none, none] [] (G, F, I, J) (0, 0) (fun r h' => ip_WP 153 113 [some (.ref x0), some (.int x1)] (r.toList ++ []) h' b post px) (fun _ _ => False)) := ip_ck_iff (x := ip_cl 157 [some (.ref s0), some (.ref s1), some (.int s2), none, none, none, none] [] (0, 0) b) ((ip_st_of f153_110).trans rfl) (ip_cl_iff)
theorem f153_113 : ip_fetch 153 113 = some (.aload_n 0, 1) := by decide +kernel
theorem s153_113 {x0 : Nat} {x1 : Int32} : ip_WP 153 113 [some (.ref x0), some (.int x1)] [] (G, F, I, J) b post px ↔ ip_WP 153 114 [some (.ref x0), some (.int x1)] [.ref x0] (G, F, I, J) b post px := ip_nx_iff ((ip_st_of f153_113).trans rfl)
theorem f153_114 : ip_fetch 153 114 = some (.invokevirtual 79, 3) := by decide +kernel
set_option maxRecDepth 100000 in
theorem s153_114 {x0 : Nat} {x1 : Int32} {s0 : Nat} : ip_WP 153 114 [some (.ref x0), some (.int x1)] [.ref s0] (G, F, I, J) b post px ↔ (ip_isO G s0 7 = true ∧ ip_WP 159 0 [some (.ref s0)] [] (G, F, I, J) (0, 0) (fun r h' => ip_WP 153 117 [some (.ref x0), some (.int x1)] (r.toList ++ []) h' b post px) (fun _ _ => False)) := ip_ck_iff (x := ip_cl 159 [some (.ref s0)] [] (0, 0) b) ((ip_st_of f153_114).trans rfl) (ip_cl_iff)
theorem f153_117 : ip_fetch 153 117 = some (.aload_n 0, 1) := by decide +kernel
theorem s153_117 {x0 : Nat} {x1 : Int32} : ip_WP 153 117 [some (.ref x0), some (.int x1)] [] (G, F, I, J) b post px ↔ ip_WP 153 118 [some (.ref x0), some (.int x1)] [.ref x0] (G, F, I, J) b post px := ip_nx_iff ((ip_st_of f153_117).trans rfl)
theorem f153_118 : ip_fetch 153 118 = some (.getfield 9, 3) := by decide +kernel
set_option maxRecDepth 100000 in
theorem s153_118 {x0 : Nat} {x1 : Int32} {s0 : Nat} : ip_WP 153 118 [some (.ref x0), some (.int x1)] [.ref s0] (G, F, I, J) b post px ↔ (ip_isO G s0 7 = true ∧ ip_WP 153 121 [some (.ref x0), some (.int x1)] [F s0 0] (G, F, I, J) b post px) := ip_s_getf f153_118 (by decide +kernel)
theorem f153_121 : ip_fetch 153 121 = some (.iload_n 1, 1) := by decide +kernel
theorem s153_121 {x0 : Nat} {x1 : Int32} {s0 : Nat} : ip_WP 153 121 [some (.ref x0), some (.int x1)] [.ref s0] (G, F, I, J) b post px ↔ ip_WP 153 122 [some (.ref x0), some (.int x1)] [.int x1, .ref s0] (G, F, I, J) b post px := ip_nx_iff ((ip_st_of f153_121).trans rfl)
theorem f153_122 : ip_fetch 153 122 = some (.invokevirtual 120, 3) := by decide +kernel
set_option maxRecDepth 100000 in
theorem s153_122 {x0 : Nat} {x1 : Int32} {s0 : Nat} {s1 : Int32} : ip_WP 153 122 [some (.ref x0), some (.int x1)] [.int s1, .ref s0] (G, F, I, J) b post px ↔ (ip_isO G s0 3 = true ∧ ip_WP 108 0 [some (.ref s0), some (.int s1)] [] (G, F, I, J) (0, 0) (fun r h' => ip_WP 153 125 [some (.ref x0), some (.int x1)] (r.toList ++ []) h' b post px) (fun _ _ => False)) := ip_ck_iff (x := ip_cl 108 [some (.ref s0), some (.int s1)] [] (0, 0) b) ((ip_st_of f153_122).trans rfl) (ip_cl_iff)
theorem f153_125 : ip_fetch 153 125 = some (.ifCond .eq 28, 3) := by decide +kernel
theorem s153_125 {x0 : Nat} {x1 : Int32} {s0 : Int32} : ip_WP 153 125 [some (.ref x0), some (.int x1)] [.int s0] (G, F, I, J) b post px ↔ if s0 = 0 then ip_WP 153 153 [some (.ref x0), some (.int x1)] [] (G, F, I, J) b post px else ip_WP 153 128 [some (.ref x0), some (.int x1)] [] (G, F, I, J) b post px := ip_s_if_eq f153_125 rfl
theorem f153_128 : ip_fetch 153 128 = some (.aload_n 0, 1) := by decide +kernel
theorem s153_128 {x0 : Nat} {x1 : Int32} : ip_WP 153 128 [some (.ref x0), some (.int x1)] [] (G, F, I, J) b post px ↔ ip_WP 153 129 [some (.ref x0), some (.int x1)] [.ref x0] (G, F, I, J) b post px := ip_nx_iff ((ip_st_of f153_128).trans rfl)
theorem f153_129 : ip_fetch 153 129 = some (.getfield 15, 3) := by decide +kernel
set_option maxRecDepth 100000 in
theorem s153_129 {x0 : Nat} {x1 : Int32} {s0 : Nat} : ip_WP 153 129 [some (.ref x0), some (.int x1)] [.ref s0] (G, F, I, J) b post px ↔ (ip_isO G s0 7 = true ∧ ip_WP 153 132 [some (.ref x0), some (.int x1)] [F s0 1] (G, F, I, J) b post px) := ip_s_getf f153_129 (by decide +kernel)
theorem f153_132 : ip_fetch 153 132 = some (.ldc 124, 2) := by decide +kernel
set_option maxRecDepth 100000 in
theorem s153_132 {x0 : Nat} {x1 : Int32} {s0 : Nat} : ip_WP 153 132 [some (.ref x0), some (.int x1)] [.ref s0] (G, F, I, J) b post px ↔ ip_WP 153 134 [some (.ref x0), some (.int x1)] [.ref 1000015, .ref s0] (G, F, I, J) b post px := ip_nx_iff ((ip_st_of f153_132).trans rfl)
theorem f153_134 : ip_fetch 153 134 = some (.invokevirtual 71, 3) := by decide +kernel
set_option maxRecDepth 100000 in
theorem s153_134 {x0 : Nat} {x1 : Int32} {s0 : Nat} {s1 : Nat} : ip_WP 153 134 [some (.ref x0), some (.int x1)] [.ref s1, .ref s0] (G, F, I, J) b post px ↔ (ip_isO G s0 2 = true ∧ ip_WP 93 0 [some (.ref s0), some (.ref s1), none] [] (G, F, I, J) (0, 0) (fun r h' => ip_WP 153 137 [some (.ref x0), some (.int x1)] (r.toList ++ []) h' b post px) (fun _ _ => False)) := ip_ck_iff (x := ip_cl 93 [some (.ref s0), some (.ref s1), none] [] (0, 0) b) ((ip_st_of f153_134).trans rfl) (ip_cl_iff)
theorem f153_137 : ip_fetch 153 137 = some (.aload_n 0, 1) := by decide +kernel
theorem s153_137 {x0 : Nat} {x1 : Int32} : ip_WP 153 137 [some (.ref x0), some (.int x1)] [] (G, F, I, J) b post px ↔ ip_WP 153 138 [some (.ref x0), some (.int x1)] [.ref x0] (G, F, I, J) b post px := ip_nx_iff ((ip_st_of f153_137).trans rfl)
theorem f153_138 : ip_fetch 153 138 = some (.aload_n 0, 1) := by decide +kernel
theorem s153_138 {x0 : Nat} {x1 : Int32} {s0 : Nat} : ip_WP 153 138 [some (.ref x0), some (.int x1)] [.ref s0] (G, F, I, J) b post px ↔ ip_WP 153 139 [some (.ref x0), some (.int x1)] [.ref x0, .ref s0] (G, F, I, J) b post px := ip_nx_iff ((ip_st_of f153_138).trans rfl)
theorem f153_139 : ip_fetch 153 139 = some (.getfield 9, 3) := by decide +kernel
set_option maxRecDepth 100000 in
theorem s153_139 {x0 : Nat} {x1 : Int32} {s0 : Nat} {s1 : Nat} : ip_WP 153 139 [some (.ref x0), some (.int x1)] [.ref s1, .ref s0] (G, F, I, J) b post px ↔ (ip_isO G s1 7 = true ∧ ip_WP 153 142 [some (.ref x0), some (.int x1)] [F s1 0, .ref s0] (G, F, I, J) b post px) := ip_s_getf f153_139 (by decide +kernel)
theorem f153_142 : ip_fetch 153 142 = some (.getfield 43, 3) := by decide +kernel
set_option maxRecDepth 100000 in
theorem s153_142 {x0 : Nat} {x1 : Int32} {s0 : Nat} {s1 : Nat} : ip_WP 153 142 [some (.ref x0), some (.int x1)] [.ref s1, .ref s0] (G, F, I, J) b post px ↔ (ip_isO G s1 3 = true ∧ ip_WP 153 145 [some (.ref x0), some (.int x1)] [F s1 0, .ref s0] (G, F, I, J) b post px) := ip_s_getf f153_142 (by decide +kernel)
theorem f153_145 : ip_fetch 153 145 = some (.iload_n 1, 1) := by decide +kernel
theorem s153_145 {x0 : Nat} {x1 : Int32} {s0 : Nat} {s1 : Nat} : ip_WP 153 145 [some (.ref x0), some (.int x1)] [.ref s1, .ref s0] (G, F, I, J) b post px ↔ ip_WP 153 146 [some (.ref x0), some (.int x1)] [.int x1, .ref s1, .ref s0] (G, F, I, J) b post px := ip_nx_iff ((ip_st_of f153_145).trans rfl)
theorem f153_146 : ip_fetch 153 146 = some (.invokevirtual 75, 3) := by decide +kernel
set_option maxRecDepth 100000 in
theorem s153_146 {x0 : Nat} {x1 : Int32} {s0 : Nat} {s1 : Nat} {s2 : Int32} : ip_WP 153 146 [some (.ref x0), some (.int x1)] [.int s2, .ref s1, .ref s0] (G, F, I, J) b post px ↔ (ip_isO G s0 7 = true ∧ ip_WP 157 0 [some (.ref s0), some (.ref s1), some (.int s2), none, none, none, none] [] (G, F, I, J) (0, 0) (fun r h' => ip_WP 153 149 [some (.ref x0), some (.int x1)] (r.toList ++ []) h' b post px) (fun _ _ => False)) := ip_ck_iff (x := ip_cl 157 [some (.ref s0), some (.ref s1), some (.int s2), none, none, none, none] [] (0, 0) b) ((ip_st_of f153_146).trans rfl) (ip_cl_iff)
theorem f153_149 : ip_fetch 153 149 = some (.aload_n 0, 1) := by decide +kernel
theorem s153_149 {x0 : Nat} {x1 : Int32} : ip_WP 153 149 [some (.ref x0), some (.int x1)] [] (G, F, I, J) b post px ↔ ip_WP 153 150 [some (.ref x0), some (.int x1)] [.ref x0] (G, F, I, J) b post px := ip_nx_iff ((ip_st_of f153_149).trans rfl)
theorem f153_150 : ip_fetch 153 150 = some (.invokevirtual 79, 3) := by decide +kernel
set_option maxRecDepth 100000 in
theorem s153_150 {x0 : Nat} {x1 : Int32} {s0 : Nat} : ip_WP 153 150 [some (.ref x0), some (.int x1)] [.ref s0] (G, F, I, J) b post px ↔ (ip_isO G s0 7 = true ∧ ip_WP 159 0 [some (.ref s0)] [] (G, F, I, J) (0, 0) (fun r h' => ip_WP 153 153 [some (.ref x0), some (.int x1)] (r.toList ++ []) h' b post px) (fun _ _ => False)) := ip_ck_iff (x := ip_cl 159 [some (.ref s0)] [] (0, 0) b) ((ip_st_of f153_150).trans rfl) (ip_cl_iff)
theorem f153_153 : ip_fetch 153 153 = some (.return_, 1) := by decide +kernel
theorem s153_153 {x0 : Nat} {x1 : Int32} : ip_WP 153 153 [some (.ref x0), some (.int x1)] [] (G, F, I, J) b post px ↔ post none (G, F, I, J) := ip_rt_iff ((ip_st_of f153_153).trans rfl)
end
