section
variable {G : List ip_K} {F : Nat → Nat → Value} {I : Nat → Nat → Int32} {J : Nat → Nat → Int64} {b : ip_B} {post : Option Value → ip_H → Prop} {px : String → ip_H → Prop}
theorem f64_0 : ip_fetch 64 0 = some (.aload_n 0, 1) := by decide +kernel
theorem s64_0 {x0 : Nat} {x1 : Int32} : ip_WP 64 0 [some (.ref x0), some (.int x1)] [] (G, F, I, J) b post px ↔ ip_WP 64 1 [some (.ref x0), some (.int x1)] [.ref x0] (G, F, I, J) b post px := ip_nx_iff ((ip_st_of f64_0).trans rfl)
theorem f64_1 : ip_fetch 64 1 = some (.iconst 0, 1) := by decide +kernel
theorem s64_1 {x0 : Nat} {x1 : Int32} {s0 : Nat} : ip_WP 64 1 [some (.ref x0), some (.int x1)] [.ref s0] (G, F, I, J) b post px ↔ ip_WP 64 2 [some (.ref x0), some (.int x1)] [.int 0, .ref s0] (G, F, I, J) b post px := ip_s_iconst f64_1 (by decide)
theorem f64_2 : ip_fetch 64 2 = some (.putfield 86, 3) := by decide +kernel
set_option maxRecDepth 100000 in
theorem s64_2 {x0 : Nat} {x1 : Int32} {s0 : Nat} {s1 : Int32} : ip_WP 64 2 [some (.ref x0), some (.int x1)] [.int s1, .ref s0] (G, F, I, J) b post px ↔ (ip_isO G s0 1 = true ∧ ip_WP 64 5 [some (.ref x0), some (.int x1)] [] (G, ip_up F s0 1 (.int s1), I, J) b post px) := ip_s_put f64_2 (by decide +kernel) rfl
theorem f64_5 : ip_fetch 64 5 = some (.iload_n 1, 1) := by decide +kernel
theorem s64_5 {x0 : Nat} {x1 : Int32} : ip_WP 64 5 [some (.ref x0), some (.int x1)] [] (G, F, I, J) b post px ↔ ip_WP 64 6 [some (.ref x0), some (.int x1)] [.int x1] (G, F, I, J) b post px := ip_nx_iff ((ip_st_of f64_5).trans rfl)
theorem f64_6 : ip_fetch 64 6 = some (.iconst 0, 1) := by decide +kernel
theorem s64_6 {x0 : Nat} {x1 : Int32} {s0 : Int32} : ip_WP 64 6 [some (.ref x0), some (.int x1)] [.int s0] (G, F, I, J) b post px ↔ ip_WP 64 7 [some (.ref x0), some (.int x1)] [.int 0, .int s0] (G, F, I, J) b post px := ip_s_iconst f64_6 (by decide)
theorem f64_7 : ip_fetch 64 7 = some (.bipush 6, 2) := by decide +kernel
theorem s64_7 {x0 : Nat} {x1 : Int32} {s0 : Int32} {s1 : Int32} : ip_WP 64 7 [some (.ref x0), some (.int x1)] [.int s1, .int s0] (G, F, I, J) b post px ↔ ip_WP 64 9 [some (.ref x0), some (.int x1)] [.int 6, .int s1, .int s0] (G, F, I, J) b post px := ip_s_bipush f64_7 (by decide)
theorem f64_9 : ip_fetch 64 9 = some (.invokestatic 97, 3) := by decide +kernel
set_option maxRecDepth 100000 in
theorem s64_9 {x0 : Nat} {x1 : Int32} {s0 : Int32} {s1 : Int32} {s2 : Int32} : ip_WP 64 9 [some (.ref x0), some (.int x1)] [.int s2, .int s1, .int s0] (G, F, I, J) b post px ↔ ip_WP 22 0 [some (.int s0), some (.int s1), some (.int s2)] [] (G, F, I, J) (0, 0) (fun r h' => ip_WP 64 12 [some (.ref x0), some (.int x1)] (r.toList ++ []) h' b post px) (fun _ _ => False) := ip_cl_iff ((ip_st_of f64_9).trans (rfl : _ = ip_cl 22 [some (.int s0), some (.int s1), some (.int s2)] [] (0, 0) b))
theorem f64_12 : ip_fetch 64 12 = some (.ifCond .eq 12, 3) := by decide +kernel
theorem s64_12 {x0 : Nat} {x1 : Int32} {s0 : Int32} : ip_WP 64 12 [some (.ref x0), some (.int x1)] [.int s0] (G, F, I, J) b post px ↔ if s0 = 0 then ip_WP 64 24 [some (.ref x0), some (.int x1)] [] (G, F, I, J) b post px else ip_WP 64 15 [some (.ref x0), some (.int x1)] [] (G, F, I, J) b post px := ip_s_if_eq f64_12 rfl
theorem f64_15 : ip_fetch 64 15 = some (.aload_n 0, 1) := by decide +kernel
theorem s64_15 {x0 : Nat} {x1 : Int32} : ip_WP 64 15 [some (.ref x0), some (.int x1)] [] (G, F, I, J) b post px ↔ ip_WP 64 16 [some (.ref x0), some (.int x1)] [.ref x0] (G, F, I, J) b post px := ip_nx_iff ((ip_st_of f64_15).trans rfl)
theorem f64_16 : ip_fetch 64 16 = some (.getfield 53, 3) := by decide +kernel
set_option maxRecDepth 100000 in
theorem s64_16 {x0 : Nat} {x1 : Int32} {s0 : Nat} : ip_WP 64 16 [some (.ref x0), some (.int x1)] [.ref s0] (G, F, I, J) b post px ↔ (ip_isO G s0 1 = true ∧ ip_WP 64 19 [some (.ref x0), some (.int x1)] [F s0 22] (G, F, I, J) b post px) := ip_s_getf f64_16 (by decide +kernel)
theorem f64_19 : ip_fetch 64 19 = some (.iload_n 1, 1) := by decide +kernel
theorem s64_19 {x0 : Nat} {x1 : Int32} {s0 : Nat} : ip_WP 64 19 [some (.ref x0), some (.int x1)] [.ref s0] (G, F, I, J) b post px ↔ ip_WP 64 20 [some (.ref x0), some (.int x1)] [.int x1, .ref s0] (G, F, I, J) b post px := ip_nx_iff ((ip_st_of f64_19).trans rfl)
theorem f64_20 : ip_fetch 64 20 = some (.iaload, 1) := by decide +kernel
theorem s64_20 {x0 : Nat} {x1 : Int32} {s0 : Nat} {s1 : Int32} : ip_WP 64 20 [some (.ref x0), some (.int x1)] [.int s1, .ref s0] (G, F, I, J) b post px ↔ (ip_inA G s0 0 s1 = true ∧ ip_WP 64 21 [some (.ref x0), some (.int x1)] [.int (I s0 s1.toNatClampNeg)] (G, F, I, J) b post px) := ip_ck_iff ((ip_st_of f64_20).trans rfl) ip_nx_iff
theorem f64_21 : ip_fetch 64 21 = some (.goto 8, 3) := by decide +kernel
theorem s64_21 {x0 : Nat} {x1 : Int32} {s0 : Int32} : ip_WP 64 21 [some (.ref x0), some (.int x1)] [.int s0] (G, F, I, J) b post px ↔ ip_WP 64 29 [some (.ref x0), some (.int x1)] [.int s0] (G, F, I, J) b post px := ip_nx_iff ((ip_st_of f64_21).trans rfl)
theorem f64_24 : ip_fetch 64 24 = some (.aload_n 0, 1) := by decide +kernel
theorem s64_24 {x0 : Nat} {x1 : Int32} : ip_WP 64 24 [some (.ref x0), some (.int x1)] [] (G, F, I, J) b post px ↔ ip_WP 64 25 [some (.ref x0), some (.int x1)] [.ref x0] (G, F, I, J) b post px := ip_nx_iff ((ip_st_of f64_24).trans rfl)
theorem f64_25 : ip_fetch 64 25 = some (.iconst 1, 1) := by decide +kernel
theorem s64_25 {x0 : Nat} {x1 : Int32} {s0 : Nat} : ip_WP 64 25 [some (.ref x0), some (.int x1)] [.ref s0] (G, F, I, J) b post px ↔ ip_WP 64 26 [some (.ref x0), some (.int x1)] [.int 1, .ref s0] (G, F, I, J) b post px := ip_s_iconst f64_25 (by decide)
theorem f64_26 : ip_fetch 64 26 = some (.invokevirtual 93, 3) := by decide +kernel
set_option maxRecDepth 100000 in
theorem s64_26 {x0 : Nat} {x1 : Int32} {s0 : Nat} {s1 : Int32} : ip_WP 64 26 [some (.ref x0), some (.int x1)] [.int s1, .ref s0] (G, F, I, J) b post px ↔ (ip_isO G s0 1 = true ∧ ip_WP 21 0 [some (.ref s0), some (.int s1)] [] (G, F, I, J) (0, 0) (fun r h' => ip_WP 64 29 [some (.ref x0), some (.int x1)] (r.toList ++ []) h' b post px) (fun _ _ => False)) := ip_ck_iff (x := ip_cl 21 [some (.ref s0), some (.int s1)] [] (0, 0) b) ((ip_st_of f64_26).trans rfl) (ip_cl_iff)
theorem f64_29 : ip_fetch 64 29 = some (.ireturn, 1) := by decide +kernel
theorem s64_29 {x0 : Nat} {x1 : Int32} {s0 : Int32} : ip_WP 64 29 [some (.ref x0), some (.int x1)] [.int s0] (G, F, I, J) b post px ↔ post (some (.int s0)) (G, F, I, J) := ip_rt_iff ((ip_st_of f64_29).trans rfl)
theorem f65_0 : ip_fetch 65 0 = some (.aload_n 0, 1) := by decide +kernel
theorem s65_0 {x0 : Nat} {x1 : Int32} {x2 : Int32} : ip_WP 65 0 [some (.ref x0), some (.int x1), some (.int x2)] [] (G, F, I, J) b post px ↔ ip_WP 65 1 [some (.ref x0), some (.int x1), some (.int x2)] [.ref x0] (G, F, I, J) b post px := ip_nx_iff ((ip_st_of f65_0).trans rfl)
theorem f65_1 : ip_fetch 65 1 = some (.iconst 0, 1) := by decide +kernel
theorem s65_1 {x0 : Nat} {x1 : Int32} {x2 : Int32} {s0 : Nat} : ip_WP 65 1 [some (.ref x0), some (.int x1), some (.int x2)] [.ref s0] (G, F, I, J) b post px ↔ ip_WP 65 2 [some (.ref x0), some (.int x1), some (.int x2)] [.int 0, .ref s0] (G, F, I, J) b post px := ip_s_iconst f65_1 (by decide)
theorem f65_2 : ip_fetch 65 2 = some (.putfield 86, 3) := by decide +kernel
set_option maxRecDepth 100000 in
theorem s65_2 {x0 : Nat} {x1 : Int32} {x2 : Int32} {s0 : Nat} {s1 : Int32} : ip_WP 65 2 [some (.ref x0), some (.int x1), some (.int x2)] [.int s1, .ref s0] (G, F, I, J) b post px ↔ (ip_isO G s0 1 = true ∧ ip_WP 65 5 [some (.ref x0), some (.int x1), some (.int x2)] [] (G, ip_up F s0 1 (.int s1), I, J) b post px) := ip_s_put f65_2 (by decide +kernel) rfl
theorem f65_5 : ip_fetch 65 5 = some (.iload_n 1, 1) := by decide +kernel
theorem s65_5 {x0 : Nat} {x1 : Int32} {x2 : Int32} : ip_WP 65 5 [some (.ref x0), some (.int x1), some (.int x2)] [] (G, F, I, J) b post px ↔ ip_WP 65 6 [some (.ref x0), some (.int x1), some (.int x2)] [.int x1] (G, F, I, J) b post px := ip_nx_iff ((ip_st_of f65_5).trans rfl)
theorem f65_6 : ip_fetch 65 6 = some (.iconst 0, 1) := by decide +kernel
theorem s65_6 {x0 : Nat} {x1 : Int32} {x2 : Int32} {s0 : Int32} : ip_WP 65 6 [some (.ref x0), some (.int x1), some (.int x2)] [.int s0] (G, F, I, J) b post px ↔ ip_WP 65 7 [some (.ref x0), some (.int x1), some (.int x2)] [.int 0, .int s0] (G, F, I, J) b post px := ip_s_iconst f65_6 (by decide)
theorem f65_7 : ip_fetch 65 7 = some (.aload_n 0, 1) := by decide +kernel
theorem s65_7 {x0 : Nat} {x1 : Int32} {x2 : Int32} {s0 : Int32} {s1 : Int32} : ip_WP 65 7 [some (.ref x0), some (.int x1), some (.int x2)] [.int s1, .int s0] (G, F, I, J) b post px ↔ ip_WP 65 8 [some (.ref x0), some (.int x1), some (.int x2)] [.ref x0, .int s1, .int s0] (G, F, I, J) b post px := ip_nx_iff ((ip_st_of f65_7).trans rfl)
theorem f65_8 : ip_fetch 65 8 = some (.getfield 185, 3) := by decide +kernel
set_option maxRecDepth 100000 in
theorem s65_8 {x0 : Nat} {x1 : Int32} {x2 : Int32} {s0 : Int32} {s1 : Int32} {s2 : Nat} : ip_WP 65 8 [some (.ref x0), some (.int x1), some (.int x2)] [.ref s2, .int s1, .int s0] (G, F, I, J) b post px ↔ (ip_isO G s2 1 = true ∧ ip_WP 65 11 [some (.ref x0), some (.int x1), some (.int x2)] [F s2 23, .int s1, .int s0] (G, F, I, J) b post px) := ip_s_getf f65_8 (by decide +kernel)
theorem f65_11 : ip_fetch 65 11 = some (.iconst 1, 1) := by decide +kernel
theorem s65_11 {x0 : Nat} {x1 : Int32} {x2 : Int32} {s0 : Int32} {s1 : Int32} {s2 : Int32} : ip_WP 65 11 [some (.ref x0), some (.int x1), some (.int x2)] [.int s2, .int s1, .int s0] (G, F, I, J) b post px ↔ ip_WP 65 12 [some (.ref x0), some (.int x1), some (.int x2)] [.int 1, .int s2, .int s1, .int s0] (G, F, I, J) b post px := ip_s_iconst f65_11 (by decide)
theorem f65_12 : ip_fetch 65 12 = some (.isub, 1) := by decide +kernel
theorem s65_12 {x0 : Nat} {x1 : Int32} {x2 : Int32} {s0 : Int32} {s1 : Int32} {s2 : Int32} {s3 : Int32} : ip_WP 65 12 [some (.ref x0), some (.int x1), some (.int x2)] [.int s3, .int s2, .int s1, .int s0] (G, F, I, J) b post px ↔ ip_WP 65 13 [some (.ref x0), some (.int x1), some (.int x2)] [.int (s2 - s3), .int s1, .int s0] (G, F, I, J) b post px := ip_nx_iff ((ip_st_of f65_12).trans rfl)
theorem f65_13 : ip_fetch 65 13 = some (.invokestatic 97, 3) := by decide +kernel
set_option maxRecDepth 100000 in
theorem s65_13 {x0 : Nat} {x1 : Int32} {x2 : Int32} {s0 : Int32} {s1 : Int32} {s2 : Int32} : ip_WP 65 13 [some (.ref x0), some (.int x1), some (.int x2)] [.int s2, .int s1, .int s0] (G, F, I, J) b post px ↔ ip_WP 22 0 [some (.int s0), some (.int s1), some (.int s2)] [] (G, F, I, J) (0, 0) (fun r h' => ip_WP 65 16 [some (.ref x0), some (.int x1), some (.int x2)] (r.toList ++ []) h' b post px) (fun _ _ => False) := ip_cl_iff ((ip_st_of f65_13).trans (rfl : _ = ip_cl 22 [some (.int s0), some (.int s1), some (.int s2)] [] (0, 0) b))
theorem f65_16 : ip_fetch 65 16 = some (.ifCond .eq 12, 3) := by decide +kernel
theorem s65_16 {x0 : Nat} {x1 : Int32} {x2 : Int32} {s0 : Int32} : ip_WP 65 16 [some (.ref x0), some (.int x1), some (.int x2)] [.int s0] (G, F, I, J) b post px ↔ if s0 = 0 then ip_WP 65 28 [some (.ref x0), some (.int x1), some (.int x2)] [] (G, F, I, J) b post px else ip_WP 65 19 [some (.ref x0), some (.int x1), some (.int x2)] [] (G, F, I, J) b post px := ip_s_if_eq f65_16 rfl
theorem f65_19 : ip_fetch 65 19 = some (.iload_n 2, 1) := by decide +kernel
theorem s65_19 {x0 : Nat} {x1 : Int32} {x2 : Int32} : ip_WP 65 19 [some (.ref x0), some (.int x1), some (.int x2)] [] (G, F, I, J) b post px ↔ ip_WP 65 20 [some (.ref x0), some (.int x1), some (.int x2)] [.int x2] (G, F, I, J) b post px := ip_nx_iff ((ip_st_of f65_19).trans rfl)
theorem f65_20 : ip_fetch 65 20 = some (.iconst 0, 1) := by decide +kernel
theorem s65_20 {x0 : Nat} {x1 : Int32} {x2 : Int32} {s0 : Int32} : ip_WP 65 20 [some (.ref x0), some (.int x1), some (.int x2)] [.int s0] (G, F, I, J) b post px ↔ ip_WP 65 21 [some (.ref x0), some (.int x1), some (.int x2)] [.int 0, .int s0] (G, F, I, J) b post px := ip_s_iconst f65_20 (by decide)
theorem f65_21 : ip_fetch 65 21 = some (.iconst 1, 1) := by decide +kernel
theorem s65_21 {x0 : Nat} {x1 : Int32} {x2 : Int32} {s0 : Int32} {s1 : Int32} : ip_WP 65 21 [some (.ref x0), some (.int x1), some (.int x2)] [.int s1, .int s0] (G, F, I, J) b post px ↔ ip_WP 65 22 [some (.ref x0), some (.int x1), some (.int x2)] [.int 1, .int s1, .int s0] (G, F, I, J) b post px := ip_s_iconst f65_21 (by decide)
theorem f65_22 : ip_fetch 65 22 = some (.invokestatic 97, 3) := by decide +kernel
set_option maxRecDepth 100000 in
theorem s65_22 {x0 : Nat} {x1 : Int32} {x2 : Int32} {s0 : Int32} {s1 : Int32} {s2 : Int32} : ip_WP 65 22 [some (.ref x0), some (.int x1), some (.int x2)] [.int s2, .int s1, .int s0] (G, F, I, J) b post px ↔ ip_WP 22 0 [some (.int s0), some (.int s1), some (.int s2)] [] (G, F, I, J) (0, 0) (fun r h' => ip_WP 65 25 [some (.ref x0), some (.int x1), some (.int x2)] (r.toList ++ []) h' b post px) (fun _ _ => False) := ip_cl_iff ((ip_st_of f65_22).trans (rfl : _ = ip_cl 22 [some (.int s0), some (.int s1), some (.int s2)] [] (0, 0) b))
theorem f65_25 : ip_fetch 65 25 = some (.ifCond .ne 9, 3) := by decide +kernel
theorem s65_25 {x0 : Nat} {x1 : Int32} {x2 : Int32} {s0 : Int32} : ip_WP 65 25 [some (.ref x0), some (.int x1), some (.int x2)] [.int s0] (G, F, I, J) b post px ↔ if ¬ s0 = 0 then ip_WP 65 34 [some (.ref x0), some (.int x1), some (.int x2)] [] (G, F, I, J) b post px else ip_WP 65 28 [some (.ref x0), some (.int x1), some (.int x2)] [] (G, F, I, J) b post px := ip_s_if_ne f65_25 rfl
theorem f65_28 : ip_fetch 65 28 = some (.aload_n 0, 1) := by decide +kernel
theorem s65_28 {x0 : Nat} {x1 : Int32} {x2 : Int32} : ip_WP 65 28 [some (.ref x0), some (.int x1), some (.int x2)] [] (G, F, I, J) b post px ↔ ip_WP 65 29 [some (.ref x0), some (.int x1), some (.int x2)] [.ref x0] (G, F, I, J) b post px := ip_nx_iff ((ip_st_of f65_28).trans rfl)
theorem f65_29 : ip_fetch 65 29 = some (.iconst 1, 1) := by decide +kernel
theorem s65_29 {x0 : Nat} {x1 : Int32} {x2 : Int32} {s0 : Nat} : ip_WP 65 29 [some (.ref x0), some (.int x1), some (.int x2)] [.ref s0] (G, F, I, J) b post px ↔ ip_WP 65 30 [some (.ref x0), some (.int x1), some (.int x2)] [.int 1, .ref s0] (G, F, I, J) b post px := ip_s_iconst f65_29 (by decide)
theorem f65_30 : ip_fetch 65 30 = some (.invokevirtual 93, 3) := by decide +kernel
set_option maxRecDepth 100000 in
theorem s65_30 {x0 : Nat} {x1 : Int32} {x2 : Int32} {s0 : Nat} {s1 : Int32} : ip_WP 65 30 [some (.ref x0), some (.int x1), some (.int x2)] [.int s1, .ref s0] (G, F, I, J) b post px ↔ (ip_isO G s0 1 = true ∧ ip_WP 21 0 [some (.ref s0), some (.int s1)] [] (G, F, I, J) (0, 0) (fun r h' => ip_WP 65 33 [some (.ref x0), some (.int x1), some (.int x2)] (r.toList ++ []) h' b post px) (fun _ _ => False)) := ip_ck_iff (x := ip_cl 21 [some (.ref s0), some (.int s1)] [] (0, 0) b) ((ip_st_of f65_30).trans rfl) (ip_cl_iff)
theorem f65_33 : ip_fetch 65 33 = some (.ireturn, 1) := by decide +kernel
theorem s65_33 {x0 : Nat} {x1 : Int32} {x2 : Int32} {s0 : Int32} : ip_WP 65 33 [some (.ref x0), some (.int x1), some (.int x2)] [.int s0] (G, F, I, J) b post px ↔ post (some (.int s0)) (G, F, I, J) := ip_rt_iff ((ip_st_of f65_33).trans rfl)
theorem f65_34 : ip_fetch 65 34 = some (.iload_n 2, 1) := by decide +kernel
theorem s65_34 {x0 : Nat} {x1 : Int32} {x2 : Int32} : ip_WP 65 34 [some (.ref x0), some (.int x1), some (.int x2)] [] (G, F, I, J) b post px ↔ ip_WP 65 35 [some (.ref x0), some (.int x1), some (.int x2)] [.int x2] (G, F, I, J) b post px := ip_nx_iff ((ip_st_of f65_34).trans rfl)
theorem f65_35 : ip_fetch 65 35 = some (.ifCond .ne 12, 3) := by decide +kernel
theorem s65_35 {x0 : Nat} {x1 : Int32} {x2 : Int32} {s0 : Int32} : ip_WP 65 35 [some (.ref x0), some (.int x1), some (.int x2)] [.int s0] (G, F, I, J) b post px ↔ if ¬ s0 = 0 then ip_WP 65 47 [some (.ref x0), some (.int x1), some (.int x2)] [] (G, F, I, J) b post px else ip_WP 65 38 [some (.ref x0), some (.int x1), some (.int x2)] [] (G, F, I, J) b post px := ip_s_if_ne f65_35 rfl
theorem f65_38 : ip_fetch 65 38 = some (.aload_n 0, 1) := by decide +kernel
theorem s65_38 {x0 : Nat} {x1 : Int32} {x2 : Int32} : ip_WP 65 38 [some (.ref x0), some (.int x1), some (.int x2)] [] (G, F, I, J) b post px ↔ ip_WP 65 39 [some (.ref x0), some (.int x1), some (.int x2)] [.ref x0] (G, F, I, J) b post px := ip_nx_iff ((ip_st_of f65_38).trans rfl)
theorem f65_39 : ip_fetch 65 39 = some (.getfield 56, 3) := by decide +kernel
set_option maxRecDepth 100000 in
theorem s65_39 {x0 : Nat} {x1 : Int32} {x2 : Int32} {s0 : Nat} : ip_WP 65 39 [some (.ref x0), some (.int x1), some (.int x2)] [.ref s0] (G, F, I, J) b post px ↔ (ip_isO G s0 1 = true ∧ ip_WP 65 42 [some (.ref x0), some (.int x1), some (.int x2)] [F s0 24] (G, F, I, J) b post px) := ip_s_getf f65_39 (by decide +kernel)
theorem f65_42 : ip_fetch 65 42 = some (.iload_n 1, 1) := by decide +kernel
theorem s65_42 {x0 : Nat} {x1 : Int32} {x2 : Int32} {s0 : Nat} : ip_WP 65 42 [some (.ref x0), some (.int x1), some (.int x2)] [.ref s0] (G, F, I, J) b post px ↔ ip_WP 65 43 [some (.ref x0), some (.int x1), some (.int x2)] [.int x1, .ref s0] (G, F, I, J) b post px := ip_nx_iff ((ip_st_of f65_42).trans rfl)
theorem f65_43 : ip_fetch 65 43 = some (.iaload, 1) := by decide +kernel
theorem s65_43 {x0 : Nat} {x1 : Int32} {x2 : Int32} {s0 : Nat} {s1 : Int32} : ip_WP 65 43 [some (.ref x0), some (.int x1), some (.int x2)] [.int s1, .ref s0] (G, F, I, J) b post px ↔ (ip_inA G s0 0 s1 = true ∧ ip_WP 65 44 [some (.ref x0), some (.int x1), some (.int x2)] [.int (I s0 s1.toNatClampNeg)] (G, F, I, J) b post px) := ip_ck_iff ((ip_st_of f65_43).trans rfl) ip_nx_iff
theorem f65_44 : ip_fetch 65 44 = some (.goto 9, 3) := by decide +kernel
theorem s65_44 {x0 : Nat} {x1 : Int32} {x2 : Int32} {s0 : Int32} : ip_WP 65 44 [some (.ref x0), some (.int x1), some (.int x2)] [.int s0] (G, F, I, J) b post px ↔ ip_WP 65 53 [some (.ref x0), some (.int x1), some (.int x2)] [.int s0] (G, F, I, J) b post px := ip_nx_iff ((ip_st_of f65_44).trans rfl)
theorem f65_47 : ip_fetch 65 47 = some (.aload_n 0, 1) := by decide +kernel
theorem s65_47 {x0 : Nat} {x1 : Int32} {x2 : Int32} : ip_WP 65 47 [some (.ref x0), some (.int x1), some (.int x2)] [] (G, F, I, J) b post px ↔ ip_WP 65 48 [some (.ref x0), some (.int x1), some (.int x2)] [.ref x0] (G, F, I, J) b post px := ip_nx_iff ((ip_st_of f65_47).trans rfl)
theorem f65_48 : ip_fetch 65 48 = some (.getfield 59, 3) := by decide +kernel
set_option maxRecDepth 100000 in
theorem s65_48 {x0 : Nat} {x1 : Int32} {x2 : Int32} {s0 : Nat} : ip_WP 65 48 [some (.ref x0), some (.int x1), some (.int x2)] [.ref s0] (G, F, I, J) b post px ↔ (ip_isO G s0 1 = true ∧ ip_WP 65 51 [some (.ref x0), some (.int x1), some (.int x2)] [F s0 25] (G, F, I, J) b post px) := ip_s_getf f65_48 (by decide +kernel)
theorem f65_51 : ip_fetch 65 51 = some (.iload_n 1, 1) := by decide +kernel
theorem s65_51 {x0 : Nat} {x1 : Int32} {x2 : Int32} {s0 : Nat} : ip_WP 65 51 [some (.ref x0), some (.int x1), some (.int x2)] [.ref s0] (G, F, I, J) b post px ↔ ip_WP 65 52 [some (.ref x0), some (.int x1), some (.int x2)] [.int x1, .ref s0] (G, F, I, J) b post px := ip_nx_iff ((ip_st_of f65_51).trans rfl)
theorem f65_52 : ip_fetch 65 52 = some (.iaload, 1) := by decide +kernel
theorem s65_52 {x0 : Nat} {x1 : Int32} {x2 : Int32} {s0 : Nat} {s1 : Int32} : ip_WP 65 52 [some (.ref x0), some (.int x1), some (.int x2)] [.int s1, .ref s0] (G, F, I, J) b post px ↔ (ip_inA G s0 0 s1 = true ∧ ip_WP 65 53 [some (.ref x0), some (.int x1), some (.int x2)] [.int (I s0 s1.toNatClampNeg)] (G, F, I, J) b post px) := ip_ck_iff ((ip_st_of f65_52).trans rfl) ip_nx_iff
theorem f65_53 : ip_fetch 65 53 = some (.ireturn, 1) := by decide +kernel
theorem s65_53 {x0 : Nat} {x1 : Int32} {x2 : Int32} {s0 : Int32} : ip_WP 65 53 [some (.ref x0), some (.int x1), some (.int x2)] [.int s0] (G, F, I, J) b post px ↔ post (some (.int s0)) (G, F, I, J) := ip_rt_iff ((ip_st_of f65_53).trans rfl)
theorem f66_0 : ip_fetch 66 0 = some (.aload_n 0, 1) := by decide +kernel
theorem s66_0 {x0 : Nat} {x1 : Int32} {x2 : Int32} : ip_WP 66 0 [some (.ref x0), some (.int x1), some (.int x2)] [] (G, F, I, J) b post px ↔ ip_WP 66 1 [some (.ref x0), some (.int x1), some (.int x2)] [.ref x0] (G, F, I, J) b post px := ip_nx_iff ((ip_st_of f66_0).trans rfl)
theorem f66_1 : ip_fetch 66 1 = some (.iconst 0, 1) := by decide +kernel
theorem s66_1 {x0 : Nat} {x1 : Int32} {x2 : Int32} {s0 : Nat} : ip_WP 66 1 [some (.ref x0), some (.int x1), some (.int x2)] [.ref s0] (G, F, I, J) b post px ↔ ip_WP 66 2 [some (.ref x0), some (.int x1), some (.int x2)] [.int 0, .ref s0] (G, F, I, J) b post px := ip_s_iconst f66_1 (by decide)
theorem f66_2 : ip_fetch 66 2 = some (.putfield 86, 3) := by decide +kernel
set_option maxRecDepth 100000 in
theorem s66_2 {x0 : Nat} {x1 : Int32} {x2 : Int32} {s0 : Nat} {s1 : Int32} : ip_WP 66 2 [some (.ref x0), some (.int x1), some (.int x2)] [.int s1, .ref s0] (G, F, I, J) b post px ↔ (ip_isO G s0 1 = true ∧ ip_WP 66 5 [some (.ref x0), some (.int x1), some (.int x2)] [] (G, ip_up F s0 1 (.int s1), I, J) b post px) := ip_s_put f66_2 (by decide +kernel) rfl
theorem f66_5 : ip_fetch 66 5 = some (.iload_n 1, 1) := by decide +kernel
theorem s66_5 {x0 : Nat} {x1 : Int32} {x2 : Int32} : ip_WP 66 5 [some (.ref x0), some (.int x1), some (.int x2)] [] (G, F, I, J) b post px ↔ ip_WP 66 6 [some (.ref x0), some (.int x1), some (.int x2)] [.int x1] (G, F, I, J) b post px := ip_nx_iff ((ip_st_of f66_5).trans rfl)
theorem f66_6 : ip_fetch 66 6 = some (.iconst 0, 1) := by decide +kernel
theorem s66_6 {x0 : Nat} {x1 : Int32} {x2 : Int32} {s0 : Int32} : ip_WP 66 6 [some (.ref x0), some (.int x1), some (.int x2)] [.int s0] (G, F, I, J) b post px ↔ ip_WP 66 7 [some (.ref x0), some (.int x1), some (.int x2)] [.int 0, .int s0] (G, F, I, J) b post px := ip_s_iconst f66_6 (by decide)
theorem f66_7 : ip_fetch 66 7 = some (.aload_n 0, 1) := by decide +kernel
theorem s66_7 {x0 : Nat} {x1 : Int32} {x2 : Int32} {s0 : Int32} {s1 : Int32} : ip_WP 66 7 [some (.ref x0), some (.int x1), some (.int x2)] [.int s1, .int s0] (G, F, I, J) b post px ↔ ip_WP 66 8 [some (.ref x0), some (.int x1), some (.int x2)] [.ref x0, .int s1, .int s0] (G, F, I, J) b post px := ip_nx_iff ((ip_st_of f66_7).trans rfl)
theorem f66_8 : ip_fetch 66 8 = some (.getfield 34, 3) := by decide +kernel
set_option maxRecDepth 100000 in
theorem s66_8 {x0 : Nat} {x1 : Int32} {x2 : Int32} {s0 : Int32} {s1 : Int32} {s2 : Nat} : ip_WP 66 8 [some (.ref x0), some (.int x1), some (.int x2)] [.ref s2, .int s1, .int s0] (G, F, I, J) b post px ↔ (ip_isO G s2 1 = true ∧ ip_WP 66 11 [some (.ref x0), some (.int x1), some (.int x2)] [F s2 16, .int s1, .int s0] (G, F, I, J) b post px) := ip_s_getf f66_8 (by decide +kernel)
theorem f66_11 : ip_fetch 66 11 = some (.iconst 2, 1) := by decide +kernel
theorem s66_11 {x0 : Nat} {x1 : Int32} {x2 : Int32} {s0 : Int32} {s1 : Int32} {s2 : Nat} : ip_WP 66 11 [some (.ref x0), some (.int x1), some (.int x2)] [.ref s2, .int s1, .int s0] (G, F, I, J) b post px ↔ ip_WP 66 12 [some (.ref x0), some (.int x1), some (.int x2)] [.int 2, .ref s2, .int s1, .int s0] (G, F, I, J) b post px := ip_s_iconst f66_11 (by decide)
theorem f66_12 : ip_fetch 66 12 = some (.iaload, 1) := by decide +kernel
theorem s66_12 {x0 : Nat} {x1 : Int32} {x2 : Int32} {s0 : Int32} {s1 : Int32} {s2 : Nat} {s3 : Int32} : ip_WP 66 12 [some (.ref x0), some (.int x1), some (.int x2)] [.int s3, .ref s2, .int s1, .int s0] (G, F, I, J) b post px ↔ (ip_inA G s2 0 s3 = true ∧ ip_WP 66 13 [some (.ref x0), some (.int x1), some (.int x2)] [.int (I s2 s3.toNatClampNeg), .int s1, .int s0] (G, F, I, J) b post px) := ip_ck_iff ((ip_st_of f66_12).trans rfl) ip_nx_iff
theorem f66_13 : ip_fetch 66 13 = some (.iconst 1, 1) := by decide +kernel
theorem s66_13 {x0 : Nat} {x1 : Int32} {x2 : Int32} {s0 : Int32} {s1 : Int32} {s2 : Int32} : ip_WP 66 13 [some (.ref x0), some (.int x1), some (.int x2)] [.int s2, .int s1, .int s0] (G, F, I, J) b post px ↔ ip_WP 66 14 [some (.ref x0), some (.int x1), some (.int x2)] [.int 1, .int s2, .int s1, .int s0] (G, F, I, J) b post px := ip_s_iconst f66_13 (by decide)
theorem f66_14 : ip_fetch 66 14 = some (.isub, 1) := by decide +kernel
theorem s66_14 {x0 : Nat} {x1 : Int32} {x2 : Int32} {s0 : Int32} {s1 : Int32} {s2 : Int32} {s3 : Int32} : ip_WP 66 14 [some (.ref x0), some (.int x1), some (.int x2)] [.int s3, .int s2, .int s1, .int s0] (G, F, I, J) b post px ↔ ip_WP 66 15 [some (.ref x0), some (.int x1), some (.int x2)] [.int (s2 - s3), .int s1, .int s0] (G, F, I, J) b post px := ip_nx_iff ((ip_st_of f66_14).trans rfl)
theorem f66_15 : ip_fetch 66 15 = some (.invokestatic 97, 3) := by decide +kernel
set_option maxRecDepth 100000 in
theorem s66_15 {x0 : Nat} {x1 : Int32} {x2 : Int32} {s0 : Int32} {s1 : Int32} {s2 : Int32} : ip_WP 66 15 [some (.ref x0), some (.int x1), some (.int x2)] [.int s2, .int s1, .int s0] (G, F, I, J) b post px ↔ ip_WP 22 0 [some (.int s0), some (.int s1), some (.int s2)] [] (G, F, I, J) (0, 0) (fun r h' => ip_WP 66 18 [some (.ref x0), some (.int x1), some (.int x2)] (r.toList ++ []) h' b post px) (fun _ _ => False) := ip_cl_iff ((ip_st_of f66_15).trans (rfl : _ = ip_cl 22 [some (.int s0), some (.int s1), some (.int s2)] [] (0, 0) b))
theorem f66_18 : ip_fetch 66 18 = some (.ifCond .eq 12, 3) := by decide +kernel
theorem s66_18 {x0 : Nat} {x1 : Int32} {x2 : Int32} {s0 : Int32} : ip_WP 66 18 [some (.ref x0), some (.int x1), some (.int x2)] [.int s0] (G, F, I, J) b post px ↔ if s0 = 0 then ip_WP 66 30 [some (.ref x0), some (.int x1), some (.int x2)] [] (G, F, I, J) b post px else ip_WP 66 21 [some (.ref x0), some (.int x1), some (.int x2)] [] (G, F, I, J) b post px := ip_s_if_eq f66_18 rfl
theorem f66_21 : ip_fetch 66 21 = some (.iload_n 2, 1) := by decide +kernel
theorem s66_21 {x0 : Nat} {x1 : Int32} {x2 : Int32} : ip_WP 66 21 [some (.ref x0), some (.int x1), some (.int x2)] [] (G, F, I, J) b post px ↔ ip_WP 66 22 [some (.ref x0), some (.int x1), some (.int x2)] [.int x2] (G, F, I, J) b post px := ip_nx_iff ((ip_st_of f66_21).trans rfl)
theorem f66_22 : ip_fetch 66 22 = some (.iconst 0, 1) := by decide +kernel
theorem s66_22 {x0 : Nat} {x1 : Int32} {x2 : Int32} {s0 : Int32} : ip_WP 66 22 [some (.ref x0), some (.int x1), some (.int x2)] [.int s0] (G, F, I, J) b post px ↔ ip_WP 66 23 [some (.ref x0), some (.int x1), some (.int x2)] [.int 0, .int s0] (G, F, I, J) b post px := ip_s_iconst f66_22 (by decide)
theorem f66_23 : ip_fetch 66 23 = some (.iconst 1, 1) := by decide +kernel
theorem s66_23 {x0 : Nat} {x1 : Int32} {x2 : Int32} {s0 : Int32} {s1 : Int32} : ip_WP 66 23 [some (.ref x0), some (.int x1), some (.int x2)] [.int s1, .int s0] (G, F, I, J) b post px ↔ ip_WP 66 24 [some (.ref x0), some (.int x1), some (.int x2)] [.int 1, .int s1, .int s0] (G, F, I, J) b post px := ip_s_iconst f66_23 (by decide)
theorem f66_24 : ip_fetch 66 24 = some (.invokestatic 97, 3) := by decide +kernel
set_option maxRecDepth 100000 in
theorem s66_24 {x0 : Nat} {x1 : Int32} {x2 : Int32} {s0 : Int32} {s1 : Int32} {s2 : Int32} : ip_WP 66 24 [some (.ref x0), some (.int x1), some (.int x2)] [.int s2, .int s1, .int s0] (G, F, I, J) b post px ↔ ip_WP 22 0 [some (.int s0), some (.int s1), some (.int s2)] [] (G, F, I, J) (0, 0) (fun r h' => ip_WP 66 27 [some (.ref x0), some (.int x1), some (.int x2)] (r.toList ++ []) h' b post px) (fun _ _ => False) := ip_cl_iff ((ip_st_of f66_24).trans (rfl : _ = ip_cl 22 [some (.int s0), some (.int s1), some (.int s2)] [] (0, 0) b))
theorem f66_27 : ip_fetch 66 27 = some (.ifCond .ne 9, 3) := by decide +kernel
theorem s66_27 {x0 : Nat} {x1 : Int32} {x2 : Int32} {s0 : Int32} : ip_WP 66 27 [some (.ref x0), some (.int x1), some (.int x2)] [.int s0] (G, F, I, J) b post px ↔ if ¬ s0 = 0 then ip_WP 66 36 [some (.ref x0), some (.int x1), some (.int x2)] [] (G, F, I, J) b post px else ip_WP 66 30 [some (.ref x0), some (.int x1), some (.int x2)] [] (G, F, I, J) b post px := ip_s_if_ne f66_27 rfl
theorem f66_30 : ip_fetch 66 30 = some (.aload_n 0, 1) := by decide +kernel
theorem s66_30 {x0 : Nat} {x1 : Int32} {x2 : Int32} : ip_WP 66 30 [some (.ref x0), some (.int x1), some (.int x2)] [] (G, F, I, J) b post px ↔ ip_WP 66 31 [some (.ref x0), some (.int x1), some (.int x2)] [.ref x0] (G, F, I, J) b post px := ip_nx_iff ((ip_st_of f66_30).trans rfl)
theorem f66_31 : ip_fetch 66 31 = some (.iconst 1, 1) := by decide +kernel
theorem s66_31 {x0 : Nat} {x1 : Int32} {x2 : Int32} {s0 : Nat} : ip_WP 66 31 [some (.ref x0), some (.int x1), some (.int x2)] [.ref s0] (G, F, I, J) b post px ↔ ip_WP 66 32 [some (.ref x0), some (.int x1), some (.int x2)] [.int 1, .ref s0] (G, F, I, J) b post px := ip_s_iconst f66_31 (by decide)
theorem f66_32 : ip_fetch 66 32 = some (.invokevirtual 93, 3) := by decide +kernel
set_option maxRecDepth 100000 in
theorem s66_32 {x0 : Nat} {x1 : Int32} {x2 : Int32} {s0 : Nat} {s1 : Int32} : ip_WP 66 32 [some (.ref x0), some (.int x1), some (.int x2)] [.int s1, .ref s0] (G, F, I, J) b post px ↔ (ip_isO G s0 1 = true ∧ ip_WP 21 0 [some (.ref s0), some (.int s1)] [] (G, F, I, J) (0, 0) (fun r h' => ip_WP 66 35 [some (.ref x0), some (.int x1), some (.int x2)] (r.toList ++ []) h' b post px) (fun _ _ => False)) := ip_ck_iff (x := ip_cl 21 [some (.ref s0), some (.int s1)] [] (0, 0) b) ((ip_st_of f66_32).trans rfl) (ip_cl_iff)
theorem f66_35 : ip_fetch 66 35 = some (.ireturn, 1) := by decide +kernel
theorem s66_35 {x0 : Nat} {x1 : Int32} {x2 : Int32} {s0 : Int32} : ip_WP 66 35 [some (.ref x0), some (.int x1), some (.int x2)] [.int s0] (G, F, I, J) b post px ↔ post (some (.int s0)) (G, F, I, J) := ip_rt_iff ((ip_st_of f66_35).trans rfl)
theorem f66_36 : ip_fetch 66 36 = some (.iload_n 2, 1) := by decide +kernel
theorem s66_36 {x0 : Nat} {x1 : Int32} {x2 : Int32} : ip_WP 66 36 [some (.ref x0), some (.int x1), some (.int x2)] [] (G, F, I, J) b post px ↔ ip_WP 66 37 [some (.ref x0), some (.int x1), some (.int x2)] [.int x2] (G, F, I, J) b post px := ip_nx_iff ((ip_st_of f66_36).trans rfl)
theorem f66_37 : ip_fetch 66 37 = some (.ifCond .ne 12, 3) := by decide +kernel
theorem s66_37 {x0 : Nat} {x1 : Int32} {x2 : Int32} {s0 : Int32} : ip_WP 66 37 [some (.ref x0), some (.int x1), some (.int x2)] [.int s0] (G, F, I, J) b post px ↔ if ¬ s0 = 0 then ip_WP 66 49 [some (.ref x0), some (.int x1), some (.int x2)] [] (G, F, I, J) b post px else ip_WP 66 40 [some (.ref x0), some (.int x1), some (.int x2)] [] (G, F, I, J) b post px := ip_s_if_ne f66_37 rfl
theorem f66_40 : ip_fetch 66 40 = some (.aload_n 0, 1) := by decide +kernel
theorem s66_40 {x0 : Nat} {x1 : Int32} {x2 : Int32} : ip_WP 66 40 [some (.ref x0), some (.int x1), some (.int x2)] [] (G, F, I, J) b post px ↔ ip_WP 66 41 [some (.ref x0), some (.int x1), some (.int x2)] [.ref x0] (G, F, I, J) b post px := ip_nx_iff ((ip_st_of f66_40).trans rfl)
theorem f66_41 : ip_fetch 66 41 = some (.getfield 62, 3) := by decide +kernel
set_option maxRecDepth 100000 in
theorem s66_41 {x0 : Nat} {x1 : Int32} {x2 : Int32} {s0 : Nat} : ip_WP 66 41 [some (.ref x0), some (.int x1), some (.int x2)] [.ref s0] (G, F, I, J) b post px ↔ (ip_isO G s0 1 = true ∧ ip_WP 66 44 [some (.ref x0), some (.int x1), some (.int x2)] [F s0 26] (G, F, I, J) b post px) := ip_s_getf f66_41 (by decide +kernel)
theorem f66_44 : ip_fetch 66 44 = some (.iload_n 1, 1) := by decide +kernel
theorem s66_44 {x0 : Nat} {x1 : Int32} {x2 : Int32} {s0 : Nat} : ip_WP 66 44 [some (.ref x0), some (.int x1), some (.int x2)] [.ref s0] (G, F, I, J) b post px ↔ ip_WP 66 45 [some (.ref x0), some (.int x1), some (.int x2)] [.int x1, .ref s0] (G, F, I, J) b post px := ip_nx_iff ((ip_st_of f66_44).trans rfl)
theorem f66_45 : ip_fetch 66 45 = some (.iaload, 1) := by decide +kernel
theorem s66_45 {x0 : Nat} {x1 : Int32} {x2 : Int32} {s0 : Nat} {s1 : Int32} : ip_WP 66 45 [some (.ref x0), some (.int x1), some (.int x2)] [.int s1, .ref s0] (G, F, I, J) b post px ↔ (ip_inA G s0 0 s1 = true ∧ ip_WP 66 46 [some (.ref x0), some (.int x1), some (.int x2)] [.int (I s0 s1.toNatClampNeg)] (G, F, I, J) b post px) := ip_ck_iff ((ip_st_of f66_45).trans rfl) ip_nx_iff
theorem f66_46 : ip_fetch 66 46 = some (.goto 9, 3) := by decide +kernel
theorem s66_46 {x0 : Nat} {x1 : Int32} {x2 : Int32} {s0 : Int32} : ip_WP 66 46 [some (.ref x0), some (.int x1), some (.int x2)] [.int s0] (G, F, I, J) b post px ↔ ip_WP 66 55 [some (.ref x0), some (.int x1), some (.int x2)] [.int s0] (G, F, I, J) b post px := ip_nx_iff ((ip_st_of f66_46).trans rfl)
theorem f66_49 : ip_fetch 66 49 = some (.aload_n 0, 1) := by decide +kernel
theorem s66_49 {x0 : Nat} {x1 : Int32} {x2 : Int32} : ip_WP 66 49 [some (.ref x0), some (.int x1), some (.int x2)] [] (G, F, I, J) b post px ↔ ip_WP 66 50 [some (.ref x0), some (.int x1), some (.int x2)] [.ref x0] (G, F, I, J) b post px := ip_nx_iff ((ip_st_of f66_49).trans rfl)
theorem f66_50 : ip_fetch 66 50 = some (.getfield 65, 3) := by decide +kernel
set_option maxRecDepth 100000 in
theorem s66_50 {x0 : Nat} {x1 : Int32} {x2 : Int32} {s0 : Nat} : ip_WP 66 50 [some (.ref x0), some (.int x1), some (.int x2)] [.ref s0] (G, F, I, J) b post px ↔ (ip_isO G s0 1 = true ∧ ip_WP 66 53 [some (.ref x0), some (.int x1), some (.int x2)] [F s0 27] (G, F, I, J) b post px) := ip_s_getf f66_50 (by decide +kernel)
theorem f66_53 : ip_fetch 66 53 = some (.iload_n 1, 1) := by decide +kernel
theorem s66_53 {x0 : Nat} {x1 : Int32} {x2 : Int32} {s0 : Nat} : ip_WP 66 53 [some (.ref x0), some (.int x1), some (.int x2)] [.ref s0] (G, F, I, J) b post px ↔ ip_WP 66 54 [some (.ref x0), some (.int x1), some (.int x2)] [.int x1, .ref s0] (G, F, I, J) b post px := ip_nx_iff ((ip_st_of f66_53).trans rfl)
theorem f66_54 : ip_fetch 66 54 = some (.iaload, 1) := by decide +kernel
theorem s66_54 {x0 : Nat} {x1 : Int32} {x2 : Int32} {s0 : Nat} {s1 : Int32} : ip_WP 66 54 [some (.ref x0), some (.int x1), some (.int x2)] [.int s1, .ref s0] (G, F, I, J) b post px ↔ (ip_inA G s0 0 s1 = true ∧ ip_WP 66 55 [some (.ref x0), some (.int x1), some (.int x2)] [.int (I s0 s1.toNatClampNeg)] (G, F, I, J) b post px) := ip_ck_iff ((ip_st_of f66_54).trans rfl) ip_nx_iff
theorem f66_55 : ip_fetch 66 55 = some (.ireturn, 1) := by decide +kernel
theorem s66_55 {x0 : Nat} {x1 : Int32} {x2 : Int32} {s0 : Int32} : ip_WP 66 55 [some (.ref x0), some (.int x1), some (.int x2)] [.int s0] (G, F, I, J) b post px ↔ post (some (.int s0)) (G, F, I, J) := ip_rt_iff ((ip_st_of f66_55).trans rfl)
theorem f67_0 : ip_fetch 67 0 = some (.aload_n 0, 1) := by decide +kernel
theorem s67_0 {x0 : Nat} {x1 : Int32} {x2 : Int32} : ip_WP 67 0 [some (.ref x0), some (.int x1), some (.int x2)] [] (G, F, I, J) b post px ↔ ip_WP 67 1 [some (.ref x0), some (.int x1), some (.int x2)] [.ref x0] (G, F, I, J) b post px := ip_nx_iff ((ip_st_of f67_0).trans rfl)
theorem f67_1 : ip_fetch 67 1 = some (.iload_n 1, 1) := by decide +kernel
theorem s67_1 {x0 : Nat} {x1 : Int32} {x2 : Int32} {s0 : Nat} : ip_WP 67 1 [some (.ref x0), some (.int x1), some (.int x2)] [.ref s0] (G, F, I, J) b post px ↔ ip_WP 67 2 [some (.ref x0), some (.int x1), some (.int x2)] [.int x1, .ref s0] (G, F, I, J) b post px := ip_nx_iff ((ip_st_of f67_1).trans rfl)
theorem f67_2 : ip_fetch 67 2 = some (.iconst 0, 1) := by decide +kernel
theorem s67_2 {x0 : Nat} {x1 : Int32} {x2 : Int32} {s0 : Nat} {s1 : Int32} : ip_WP 67 2 [some (.ref x0), some (.int x1), some (.int x2)] [.int s1, .ref s0] (G, F, I, J) b post px ↔ ip_WP 67 3 [some (.ref x0), some (.int x1), some (.int x2)] [.int 0, .int s1, .ref s0] (G, F, I, J) b post px := ip_s_iconst f67_2 (by decide)
theorem f67_3 : ip_fetch 67 3 = some (.aload_n 0, 1) := by decide +kernel
theorem s67_3 {x0 : Nat} {x1 : Int32} {x2 : Int32} {s0 : Nat} {s1 : Int32} {s2 : Int32} : ip_WP 67 3 [some (.ref x0), some (.int x1), some (.int x2)] [.int s2, .int s1, .ref s0] (G, F, I, J) b post px ↔ ip_WP 67 4 [some (.ref x0), some (.int x1), some (.int x2)] [.ref x0, .int s2, .int s1, .ref s0] (G, F, I, J) b post px := ip_nx_iff ((ip_st_of f67_3).trans rfl)
theorem f67_4 : ip_fetch 67 4 = some (.getfield 34, 3) := by decide +kernel
set_option maxRecDepth 100000 in
theorem s67_4 {x0 : Nat} {x1 : Int32} {x2 : Int32} {s0 : Nat} {s1 : Int32} {s2 : Int32} {s3 : Nat} : ip_WP 67 4 [some (.ref x0), some (.int x1), some (.int x2)] [.ref s3, .int s2, .int s1, .ref s0] (G, F, I, J) b post px ↔ (ip_isO G s3 1 = true ∧ ip_WP 67 7 [some (.ref x0), some (.int x1), some (.int x2)] [F s3 16, .int s2, .int s1, .ref s0] (G, F, I, J) b post px) := ip_s_getf f67_4 (by decide +kernel)
theorem f67_7 : ip_fetch 67 7 = some (.iconst 3, 1) := by decide +kernel
theorem s67_7 {x0 : Nat} {x1 : Int32} {x2 : Int32} {s0 : Nat} {s1 : Int32} {s2 : Int32} {s3 : Nat} : ip_WP 67 7 [some (.ref x0), some (.int x1), some (.int x2)] [.ref s3, .int s2, .int s1, .ref s0] (G, F, I, J) b post px ↔ ip_WP 67 8 [some (.ref x0), some (.int x1), some (.int x2)] [.int 3, .ref s3, .int s2, .int s1, .ref s0] (G, F, I, J) b post px := ip_s_iconst f67_7 (by decide)
theorem f67_8 : ip_fetch 67 8 = some (.iaload, 1) := by decide +kernel
theorem s67_8 {x0 : Nat} {x1 : Int32} {x2 : Int32} {s0 : Nat} {s1 : Int32} {s2 : Int32} {s3 : Nat} {s4 : Int32} : ip_WP 67 8 [some (.ref x0), some (.int x1), some (.int x2)] [.int s4, .ref s3, .int s2, .int s1, .ref s0] (G, F, I, J) b post px ↔ (ip_inA G s3 0 s4 = true ∧ ip_WP 67 9 [some (.ref x0), some (.int x1), some (.int x2)] [.int (I s3 s4.toNatClampNeg), .int s2, .int s1, .ref s0] (G, F, I, J) b post px) := ip_ck_iff ((ip_st_of f67_8).trans rfl) ip_nx_iff
theorem f67_9 : ip_fetch 67 9 = some (.iconst 1, 1) := by decide +kernel
theorem s67_9 {x0 : Nat} {x1 : Int32} {x2 : Int32} {s0 : Nat} {s1 : Int32} {s2 : Int32} {s3 : Int32} : ip_WP 67 9 [some (.ref x0), some (.int x1), some (.int x2)] [.int s3, .int s2, .int s1, .ref s0] (G, F, I, J) b post px ↔ ip_WP 67 10 [some (.ref x0), some (.int x1), some (.int x2)] [.int 1, .int s3, .int s2, .int s1, .ref s0] (G, F, I, J) b post px := ip_s_iconst f67_9 (by decide)
theorem f67_10 : ip_fetch 67 10 = some (.isub, 1) := by decide +kernel
theorem s67_10 {x0 : Nat} {x1 : Int32} {x2 : Int32} {s0 : Nat} {s1 : Int32} {s2 : Int32} {s3 : Int32} {s4 : Int32} : ip_WP 67 10 [some (.ref x0), some (.int x1), some (.int x2)] [.int s4, .int s3, .int s2, .int s1, .ref s0] (G, F, I, J) b post px ↔ ip_WP 67 11 [some (.ref x0), some (.int x1), some (.int x2)] [.int (s3 - s4), .int s2, .int s1, .ref s0] (G, F, I, J) b post px := ip_nx_iff ((ip_st_of f67_10).trans rfl)
theorem f67_11 : ip_fetch 67 11 = some (.invokestatic 97, 3) := by decide +kernel
set_option maxRecDepth 100000 in
theorem s67_11 {x0 : Nat} {x1 : Int32} {x2 : Int32} {s0 : Nat} {s1 : Int32} {s2 : Int32} {s3 : Int32} : ip_WP 67 11 [some (.ref x0), some (.int x1), some (.int x2)] [.int s3, .int s2, .int s1, .ref s0] (G, F, I, J) b post px ↔ ip_WP 22 0 [some (.int s1), some (.int s2), some (.int s3)] [] (G, F, I, J) (0, 0) (fun r h' => ip_WP 67 14 [some (.ref x0), some (.int x1), some (.int x2)] (r.toList ++ [.ref s0]) h' b post px) (fun _ _ => False) := ip_cl_iff ((ip_st_of f67_11).trans (rfl : _ = ip_cl 22 [some (.int s1), some (.int s2), some (.int s3)] [.ref s0] (0, 0) b))
theorem f67_14 : ip_fetch 67 14 = some (.ifCond .eq 23, 3) := by decide +kernel
theorem s67_14 {x0 : Nat} {x1 : Int32} {x2 : Int32} {s0 : Nat} {s1 : Int32} : ip_WP 67 14 [some (.ref x0), some (.int x1), some (.int x2)] [.int s1, .ref s0] (G, F, I, J) b post px ↔ if s1 = 0 then ip_WP 67 37 [some (.ref x0), some (.int x1), some (.int x2)] [.ref s0] (G, F, I, J) b post px else ip_WP 67 17 [some (.ref x0), some (.int x1), some (.int x2)] [.ref s0] (G, F, I, J) b post px := ip_s_if_eq f67_14 rfl
theorem f67_17 : ip_fetch 67 17 = some (.iload_n 2, 1) := by decide +kernel
theorem s67_17 {x0 : Nat} {x1 : Int32} {x2 : Int32} {s0 : Nat} : ip_WP 67 17 [some (.ref x0), some (.int x1), some (.int x2)] [.ref s0] (G, F, I, J) b post px ↔ ip_WP 67 18 [some (.ref x0), some (.int x1), some (.int x2)] [.int x2, .ref s0] (G, F, I, J) b post px := ip_nx_iff ((ip_st_of f67_17).trans rfl)
theorem f67_18 : ip_fetch 67 18 = some (.iconst 0, 1) := by decide +kernel
theorem s67_18 {x0 : Nat} {x1 : Int32} {x2 : Int32} {s0 : Nat} {s1 : Int32} : ip_WP 67 18 [some (.ref x0), some (.int x1), some (.int x2)] [.int s1, .ref s0] (G, F, I, J) b post px ↔ ip_WP 67 19 [some (.ref x0), some (.int x1), some (.int x2)] [.int 0, .int s1, .ref s0] (G, F, I, J) b post px := ip_s_iconst f67_18 (by decide)
theorem f67_19 : ip_fetch 67 19 = some (.aload_n 0, 1) := by decide +kernel
theorem s67_19 {x0 : Nat} {x1 : Int32} {x2 : Int32} {s0 : Nat} {s1 : Int32} {s2 : Int32} : ip_WP 67 19 [some (.ref x0), some (.int x1), some (.int x2)] [.int s2, .int s1, .ref s0] (G, F, I, J) b post px ↔ ip_WP 67 20 [some (.ref x0), some (.int x1), some (.int x2)] [.ref x0, .int s2, .int s1, .ref s0] (G, F, I, J) b post px := ip_nx_iff ((ip_st_of f67_19).trans rfl)
theorem f67_20 : ip_fetch 67 20 = some (.getfield 34, 3) := by decide +kernel
set_option maxRecDepth 100000 in
theorem s67_20 {x0 : Nat} {x1 : Int32} {x2 : Int32} {s0 : Nat} {s1 : Int32} {s2 : Int32} {s3 : Nat} : ip_WP 67 20 [some (.ref x0), some (.int x1), some (.int x2)] [.ref s3, .int s2, .int s1, .ref s0] (G, F, I, J) b post px ↔ (ip_isO G s3 1 = true ∧ ip_WP 67 23 [some (.ref x0), some (.int x1), some (.int x2)] [F s3 16, .int s2, .int s1, .ref s0] (G, F, I, J) b post px) := ip_s_getf f67_20 (by decide +kernel)
theorem f67_23 : ip_fetch 67 23 = some (.iconst 0, 1) := by decide +kernel
theorem s67_23 {x0 : Nat} {x1 : Int32} {x2 : Int32} {s0 : Nat} {s1 : Int32} {s2 : Int32} {s3 : Nat} : ip_WP 67 23 [some (.ref x0), some (.int x1), some (.int x2)] [.ref s3, .int s2, .int s1, .ref s0] (G, F, I, J) b post px ↔ ip_WP 67 24 [some (.ref x0), some (.int x1), some (.int x2)] [.int 0, .ref s3, .int s2, .int s1, .ref s0] (G, F, I, J) b post px := ip_s_iconst f67_23 (by decide)
theorem f67_24 : ip_fetch 67 24 = some (.iaload, 1) := by decide +kernel
theorem s67_24 {x0 : Nat} {x1 : Int32} {x2 : Int32} {s0 : Nat} {s1 : Int32} {s2 : Int32} {s3 : Nat} {s4 : Int32} : ip_WP 67 24 [some (.ref x0), some (.int x1), some (.int x2)] [.int s4, .ref s3, .int s2, .int s1, .ref s0] (G, F, I, J) b post px ↔ (ip_inA G s3 0 s4 = true ∧ ip_WP 67 25 [some (.ref x0), some (.int x1), some (.int x2)] [.int (I s3 s4.toNatClampNeg), .int s2, .int s1, .ref s0] (G, F, I, J) b post px) := ip_ck_iff ((ip_st_of f67_24).trans rfl) ip_nx_iff
theorem f67_25 : ip_fetch 67 25 = some (.iconst 1, 1) := by decide +kernel
theorem s67_25 {x0 : Nat} {x1 : Int32} {x2 : Int32} {s0 : Nat} {s1 : Int32} {s2 : Int32} {s3 : Int32} : ip_WP 67 25 [some (.ref x0), some (.int x1), some (.int x2)] [.int s3, .int s2, .int s1, .ref s0] (G, F, I, J) b post px ↔ ip_WP 67 26 [some (.ref x0), some (.int x1), some (.int x2)] [.int 1, .int s3, .int s2, .int s1, .ref s0] (G, F, I, J) b post px := ip_s_iconst f67_25 (by decide)
theorem f67_26 : ip_fetch 67 26 = some (.isub, 1) := by decide +kernel
theorem s67_26 {x0 : Nat} {x1 : Int32} {x2 : Int32} {s0 : Nat} {s1 : Int32} {s2 : Int32} {s3 : Int32} {s4 : Int32} : ip_WP 67 26 [some (.ref x0), some (.int x1), some (.int x2)] [.int s4, .int s3, .int s2, .int s1, .ref s0] (G, F, I, J) b post px ↔ ip_WP 67 27 [some (.ref x0), some (.int x1), some (.int x2)] [.int (s3 - s4), .int s2, .int s1, .ref s0] (G, F, I, J) b post px := ip_nx_iff ((ip_st_of f67_26).trans rfl)
theorem f67_27 : ip_fetch 67 27 = some (.invokestatic 97, 3) := by decide +kernel
set_option maxRecDepth 100000 in
theorem s67_27 {x0 : Nat} {x1 : Int32} {x2 : Int32} {s0 : Nat} {s1 : Int32} {s2 : Int32} {s3 : Int32} : ip_WP 67 27 [some (.ref x0), some (.int x1), some (.int x2)] [.int s3, .int s2, .int s1, .ref s0] (G, F, I, J) b post px ↔ ip_WP 22 0 [some (.int s1), some (.int s2), some (.int s3)] [] (G, F, I, J) (0, 0) (fun r h' => ip_WP 67 30 [some (.ref x0), some (.int x1), some (.int x2)] (r.toList ++ [.ref s0]) h' b post px) (fun _ _ => False) := ip_cl_iff ((ip_st_of f67_27).trans (rfl : _ = ip_cl 22 [some (.int s1), some (.int s2), some (.int s3)] [.ref s0] (0, 0) b))
theorem f67_30 : ip_fetch 67 30 = some (.ifCond .eq 7, 3) := by decide +kernel
theorem s67_30 {x0 : Nat} {x1 : Int32} {x2 : Int32} {s0 : Nat} {s1 : Int32} : ip_WP 67 30 [some (.ref x0), some (.int x1), some (.int x2)] [.int s1, .ref s0] (G, F, I, J) b post px ↔ if s1 = 0 then ip_WP 67 37 [some (.ref x0), some (.int x1), some (.int x2)] [.ref s0] (G, F, I, J) b post px else ip_WP 67 33 [some (.ref x0), some (.int x1), some (.int x2)] [.ref s0] (G, F, I, J) b post px := ip_s_if_eq f67_30 rfl
theorem f67_33 : ip_fetch 67 33 = some (.iconst 0, 1) := by decide +kernel
theorem s67_33 {x0 : Nat} {x1 : Int32} {x2 : Int32} {s0 : Nat} : ip_WP 67 33 [some (.ref x0), some (.int x1), some (.int x2)] [.ref s0] (G, F, I, J) b post px ↔ ip_WP 67 34 [some (.ref x0), some (.int x1), some (.int x2)] [.int 0, .ref s0] (G, F, I, J) b post px := ip_s_iconst f67_33 (by decide)
theorem f67_34 : ip_fetch 67 34 = some (.goto 4, 3) := by decide +kernel
theorem s67_34 {x0 : Nat} {x1 : Int32} {x2 : Int32} {s0 : Nat} {s1 : Int32} : ip_WP 67 34 [some (.ref x0), some (.int x1), some (.int x2)] [.int s1, .ref s0] (G, F, I, J) b post px ↔ ip_WP 67 38 [some (.ref x0), some (.int x1), some (.int x2)] [.int s1, .ref s0] (G, F, I, J) b post px := ip_nx_iff ((ip_st_of f67_34).trans rfl)
theorem f67_37 : ip_fetch 67 37 = some (.iconst 1, 1) := by decide +kernel
theorem s67_37 {x0 : Nat} {x1 : Int32} {x2 : Int32} {s0 : Nat} : ip_WP 67 37 [some (.ref x0), some (.int x1), some (.int x2)] [.ref s0] (G, F, I, J) b post px ↔ ip_WP 67 38 [some (.ref x0), some (.int x1), some (.int x2)] [.int 1, .ref s0] (G, F, I, J) b post px := ip_s_iconst f67_37 (by decide)
theorem f67_38 : ip_fetch 67 38 = some (.putfield 86, 3) := by decide +kernel
set_option maxRecDepth 100000 in
theorem s67_38 {x0 : Nat} {x1 : Int32} {x2 : Int32} {s0 : Nat} {s1 : Int32} : ip_WP 67 38 [some (.ref x0), some (.int x1), some (.int x2)] [.int s1, .ref s0] (G, F, I, J) b post px ↔ (ip_isO G s0 1 = true ∧ ip_WP 67 41 [some (.ref x0), some (.int x1), some (.int x2)] [] (G, ip_up F s0 1 (.int s1), I, J) b post px) := ip_s_put f67_38 (by decide +kernel) rfl
theorem f67_41 : ip_fetch 67 41 = some (.aload_n 0, 1) := by decide +kernel
theorem s67_41 {x0 : Nat} {x1 : Int32} {x2 : Int32} : ip_WP 67 41 [some (.ref x0), some (.int x1), some (.int x2)] [] (G, F, I, J) b post px ↔ ip_WP 67 42 [some (.ref x0), some (.int x1), some (.int x2)] [.ref x0] (G, F, I, J) b post px := ip_nx_iff ((ip_st_of f67_41).trans rfl)
theorem f67_42 : ip_fetch 67 42 = some (.getfield 86, 3) := by decide +kernel
set_option maxRecDepth 100000 in
theorem s67_42 {x0 : Nat} {x1 : Int32} {x2 : Int32} {s0 : Nat} : ip_WP 67 42 [some (.ref x0), some (.int x1), some (.int x2)] [.ref s0] (G, F, I, J) b post px ↔ (ip_isO G s0 1 = true ∧ ip_WP 67 45 [some (.ref x0), some (.int x1), some (.int x2)] [F s0 1] (G, F, I, J) b post px) := ip_s_getf f67_42 (by decide +kernel)
theorem f67_45 : ip_fetch 67 45 = some (.ifCond .ne 21, 3) := by decide +kernel
theorem s67_45 {x0 : Nat} {x1 : Int32} {x2 : Int32} {s0 : Int32} : ip_WP 67 45 [some (.ref x0), some (.int x1), some (.int x2)] [.int s0] (G, F, I, J) b post px ↔ if ¬ s0 = 0 then ip_WP 67 66 [some (.ref x0), some (.int x1), some (.int x2)] [] (G, F, I, J) b post px else ip_WP 67 48 [some (.ref x0), some (.int x1), some (.int x2)] [] (G, F, I, J) b post px := ip_s_if_ne f67_45 rfl
theorem f67_48 : ip_fetch 67 48 = some (.aload_n 0, 1) := by decide +kernel
theorem s67_48 {x0 : Nat} {x1 : Int32} {x2 : Int32} : ip_WP 67 48 [some (.ref x0), some (.int x1), some (.int x2)] [] (G, F, I, J) b post px ↔ ip_WP 67 49 [some (.ref x0), some (.int x1), some (.int x2)] [.ref x0] (G, F, I, J) b post px := ip_nx_iff ((ip_st_of f67_48).trans rfl)
theorem f67_49 : ip_fetch 67 49 = some (.getfield 68, 3) := by decide +kernel
set_option maxRecDepth 100000 in
theorem s67_49 {x0 : Nat} {x1 : Int32} {x2 : Int32} {s0 : Nat} : ip_WP 67 49 [some (.ref x0), some (.int x1), some (.int x2)] [.ref s0] (G, F, I, J) b post px ↔ (ip_isO G s0 1 = true ∧ ip_WP 67 52 [some (.ref x0), some (.int x1), some (.int x2)] [F s0 28] (G, F, I, J) b post px) := ip_s_getf f67_49 (by decide +kernel)
theorem f67_52 : ip_fetch 67 52 = some (.bipush 12, 2) := by decide +kernel
theorem s67_52 {x0 : Nat} {x1 : Int32} {x2 : Int32} {s0 : Nat} : ip_WP 67 52 [some (.ref x0), some (.int x1), some (.int x2)] [.ref s0] (G, F, I, J) b post px ↔ ip_WP 67 54 [some (.ref x0), some (.int x1), some (.int x2)] [.int 12, .ref s0] (G, F, I, J) b post px := ip_s_bipush f67_52 (by decide)
theorem f67_54 : ip_fetch 67 54 = some (.iload_n 1, 1) := by decide +kernel
theorem s67_54 {x0 : Nat} {x1 : Int32} {x2 : Int32} {s0 : Nat} {s1 : Int32} : ip_WP 67 54 [some (.ref x0), some (.int x1), some (.int x2)] [.int s1, .ref s0] (G, F, I, J) b post px ↔ ip_WP 67 55 [some (.ref x0), some (.int x1), some (.int x2)] [.int x1, .int s1, .ref s0] (G, F, I, J) b post px := ip_nx_iff ((ip_st_of f67_54).trans rfl)
theorem f67_55 : ip_fetch 67 55 = some (.imul, 1) := by decide +kernel
theorem s67_55 {x0 : Nat} {x1 : Int32} {x2 : Int32} {s0 : Nat} {s1 : Int32} {s2 : Int32} : ip_WP 67 55 [some (.ref x0), some (.int x1), some (.int x2)] [.int s2, .int s1, .ref s0] (G, F, I, J) b post px ↔ ip_WP 67 56 [some (.ref x0), some (.int x1), some (.int x2)] [.int (s1 * s2), .ref s0] (G, F, I, J) b post px := ip_nx_iff ((ip_st_of f67_55).trans rfl)
theorem f67_56 : ip_fetch 67 56 = some (.iload_n 2, 1) := by decide +kernel
theorem s67_56 {x0 : Nat} {x1 : Int32} {x2 : Int32} {s0 : Nat} {s1 : Int32} : ip_WP 67 56 [some (.ref x0), some (.int x1), some (.int x2)] [.int s1, .ref s0] (G, F, I, J) b post px ↔ ip_WP 67 57 [some (.ref x0), some (.int x1), some (.int x2)] [.int x2, .int s1, .ref s0] (G, F, I, J) b post px := ip_nx_iff ((ip_st_of f67_56).trans rfl)
theorem f67_57 : ip_fetch 67 57 = some (.iadd, 1) := by decide +kernel
theorem s67_57 {x0 : Nat} {x1 : Int32} {x2 : Int32} {s0 : Nat} {s1 : Int32} {s2 : Int32} : ip_WP 67 57 [some (.ref x0), some (.int x1), some (.int x2)] [.int s2, .int s1, .ref s0] (G, F, I, J) b post px ↔ ip_WP 67 58 [some (.ref x0), some (.int x1), some (.int x2)] [.int (s1 + s2), .ref s0] (G, F, I, J) b post px := ip_nx_iff ((ip_st_of f67_57).trans rfl)
theorem f67_58 : ip_fetch 67 58 = some (.baload, 1) := by decide +kernel
theorem s67_58 {x0 : Nat} {x1 : Int32} {x2 : Int32} {s0 : Nat} {s1 : Int32} : ip_WP 67 58 [some (.ref x0), some (.int x1), some (.int x2)] [.int s1, .ref s0] (G, F, I, J) b post px ↔ ((ip_inA G s0 1 s1 || ip_inA G s0 3 s1) = true ∧ ip_WP 67 59 [some (.ref x0), some (.int x1), some (.int x2)] [.int (I s0 s1.toNatClampNeg)] (G, F, I, J) b post px) := ip_ck_iff ((ip_st_of f67_58).trans rfl) ip_nx_iff
theorem f67_59 : ip_fetch 67 59 = some (.ifCond .eq 7, 3) := by decide +kernel
theorem s67_59 {x0 : Nat} {x1 : Int32} {x2 : Int32} {s0 : Int32} : ip_WP 67 59 [some (.ref x0), some (.int x1), some (.int x2)] [.int s0] (G, F, I, J) b post px ↔ if s0 = 0 then ip_WP 67 66 [some (.ref x0), some (.int x1), some (.int x2)] [] (G, F, I, J) b post px else ip_WP 67 62 [some (.ref x0), some (.int x1), some (.int x2)] [] (G, F, I, J) b post px := ip_s_if_eq f67_59 rfl
theorem f67_62 : ip_fetch 67 62 = some (.iconst 1, 1) := by decide +kernel
theorem s67_62 {x0 : Nat} {x1 : Int32} {x2 : Int32} : ip_WP 67 62 [some (.ref x0), some (.int x1), some (.int x2)] [] (G, F, I, J) b post px ↔ ip_WP 67 63 [some (.ref x0), some (.int x1), some (.int x2)] [.int 1] (G, F, I, J) b post px := ip_s_iconst f67_62 (by decide)
theorem f67_63 : ip_fetch 67 63 = some (.goto 4, 3) := by decide +kernel
theorem s67_63 {x0 : Nat} {x1 : Int32} {x2 : Int32} {s0 : Int32} : ip_WP 67 63 [some (.ref x0), some (.int x1), some (.int x2)] [.int s0] (G, F, I, J) b post px ↔ ip_WP 67 67 [some (.ref x0), some (.int x1), some (.int x2)] [.int s0] (G, F, I, J) b post px := ip_nx_iff ((ip_st_of f67_63).trans rfl)
theorem f67_66 : ip_fetch 67 66 = some (.iconst 0, 1) := by decide +kernel
theorem s67_66 {x0 : Nat} {x1 : Int32} {x2 : Int32} : ip_WP 67 66 [some (.ref x0), some (.int x1), some (.int x2)] [] (G, F, I, J) b post px ↔ ip_WP 67 67 [some (.ref x0), some (.int x1), some (.int x2)] [.int 0] (G, F, I, J) b post px := ip_s_iconst f67_66 (by decide)
theorem f67_67 : ip_fetch 67 67 = some (.ireturn, 1) := by decide +kernel
theorem s67_67 {x0 : Nat} {x1 : Int32} {x2 : Int32} {s0 : Int32} : ip_WP 67 67 [some (.ref x0), some (.int x1), some (.int x2)] [.int s0] (G, F, I, J) b post px ↔ ((s0 = 0 ∨ s0 = 1) ∧ post (some (.int s0)) (G, F, I, J)) := ip_s_zret ((ip_st_of f67_67).trans rfl)
theorem f68_0 : ip_fetch 68 0 = some (.aload_n 0, 1) := by decide +kernel
theorem s68_0 {x0 : Nat} : ip_WP 68 0 [some (.ref x0)] [] (G, F, I, J) b post px ↔ ip_WP 68 1 [some (.ref x0)] [.ref x0] (G, F, I, J) b post px := ip_nx_iff ((ip_st_of f68_0).trans rfl)
theorem f68_1 : ip_fetch 68 1 = some (.iconst 0, 1) := by decide +kernel
theorem s68_1 {x0 : Nat} {s0 : Nat} : ip_WP 68 1 [some (.ref x0)] [.ref s0] (G, F, I, J) b post px ↔ ip_WP 68 2 [some (.ref x0)] [.int 0, .ref s0] (G, F, I, J) b post px := ip_s_iconst f68_1 (by decide)
theorem f68_2 : ip_fetch 68 2 = some (.putfield 86, 3) := by decide +kernel
set_option maxRecDepth 100000 in
theorem s68_2 {x0 : Nat} {s0 : Nat} {s1 : Int32} : ip_WP 68 2 [some (.ref x0)] [.int s1, .ref s0] (G, F, I, J) b post px ↔ (ip_isO G s0 1 = true ∧ ip_WP 68 5 [some (.ref x0)] [] (G, ip_up F s0 1 (.int s1), I, J) b post px) := ip_s_put f68_2 (by decide +kernel) rfl
theorem f68_5 : ip_fetch 68 5 = some (.aload_n 0, 1) := by decide +kernel
theorem s68_5 {x0 : Nat} : ip_WP 68 5 [some (.ref x0)] [] (G, F, I, J) b post px ↔ ip_WP 68 6 [some (.ref x0)] [.ref x0] (G, F, I, J) b post px := ip_nx_iff ((ip_st_of f68_5).trans rfl)
theorem f68_6 : ip_fetch 68 6 = some (.getfield 228, 3) := by decide +kernel
set_option maxRecDepth 100000 in
theorem s68_6 {x0 : Nat} {s0 : Nat} : ip_WP 68 6 [some (.ref x0)] [.ref s0] (G, F, I, J) b post px ↔ (ip_isO G s0 1 = true ∧ ip_WP 68 9 [some (.ref x0)] [F s0 29] (G, F, I, J) b post px) := ip_s_getf f68_6 (by decide +kernel)
theorem f68_9 : ip_fetch 68 9 = some (.ireturn, 1) := by decide +kernel
theorem s68_9 {x0 : Nat} {s0 : Int32} : ip_WP 68 9 [some (.ref x0)] [.int s0] (G, F, I, J) b post px ↔ post (some (.int s0)) (G, F, I, J) := ip_rt_iff ((ip_st_of f68_9).trans rfl)
theorem f69_0 : ip_fetch 69 0 = some (.aload_n 0, 1) := by decide +kernel
theorem s69_0 {x0 : Nat} {x1 : Int32} {x2 : Int32} : ip_WP 69 0 [some (.ref x0), some (.int x1), some (.int x2)] [] (G, F, I, J) b post px ↔ ip_WP 69 1 [some (.ref x0), some (.int x1), some (.int x2)] [.ref x0] (G, F, I, J) b post px := ip_nx_iff ((ip_st_of f69_0).trans rfl)
theorem f69_1 : ip_fetch 69 1 = some (.iconst 0, 1) := by decide +kernel
theorem s69_1 {x0 : Nat} {x1 : Int32} {x2 : Int32} {s0 : Nat} : ip_WP 69 1 [some (.ref x0), some (.int x1), some (.int x2)] [.ref s0] (G, F, I, J) b post px ↔ ip_WP 69 2 [some (.ref x0), some (.int x1), some (.int x2)] [.int 0, .ref s0] (G, F, I, J) b post px := ip_s_iconst f69_1 (by decide)
theorem f69_2 : ip_fetch 69 2 = some (.putfield 86, 3) := by decide +kernel
set_option maxRecDepth 100000 in
theorem s69_2 {x0 : Nat} {x1 : Int32} {x2 : Int32} {s0 : Nat} {s1 : Int32} : ip_WP 69 2 [some (.ref x0), some (.int x1), some (.int x2)] [.int s1, .ref s0] (G, F, I, J) b post px ↔ (ip_isO G s0 1 = true ∧ ip_WP 69 5 [some (.ref x0), some (.int x1), some (.int x2)] [] (G, ip_up F s0 1 (.int s1), I, J) b post px) := ip_s_put f69_2 (by decide +kernel) rfl
theorem f69_5 : ip_fetch 69 5 = some (.iload_n 1, 1) := by decide +kernel
theorem s69_5 {x0 : Nat} {x1 : Int32} {x2 : Int32} : ip_WP 69 5 [some (.ref x0), some (.int x1), some (.int x2)] [] (G, F, I, J) b post px ↔ ip_WP 69 6 [some (.ref x0), some (.int x1), some (.int x2)] [.int x1] (G, F, I, J) b post px := ip_nx_iff ((ip_st_of f69_5).trans rfl)
theorem f69_6 : ip_fetch 69 6 = some (.iconst 0, 1) := by decide +kernel
theorem s69_6 {x0 : Nat} {x1 : Int32} {x2 : Int32} {s0 : Int32} : ip_WP 69 6 [some (.ref x0), some (.int x1), some (.int x2)] [.int s0] (G, F, I, J) b post px ↔ ip_WP 69 7 [some (.ref x0), some (.int x1), some (.int x2)] [.int 0, .int s0] (G, F, I, J) b post px := ip_s_iconst f69_6 (by decide)
theorem f69_7 : ip_fetch 69 7 = some (.aload_n 0, 1) := by decide +kernel
theorem s69_7 {x0 : Nat} {x1 : Int32} {x2 : Int32} {s0 : Int32} {s1 : Int32} : ip_WP 69 7 [some (.ref x0), some (.int x1), some (.int x2)] [.int s1, .int s0] (G, F, I, J) b post px ↔ ip_WP 69 8 [some (.ref x0), some (.int x1), some (.int x2)] [.ref x0, .int s1, .int s0] (G, F, I, J) b post px := ip_nx_iff ((ip_st_of f69_7).trans rfl)
theorem f69_8 : ip_fetch 69 8 = some (.getfield 228, 3) := by decide +kernel
set_option maxRecDepth 100000 in
theorem s69_8 {x0 : Nat} {x1 : Int32} {x2 : Int32} {s0 : Int32} {s1 : Int32} {s2 : Nat} : ip_WP 69 8 [some (.ref x0), some (.int x1), some (.int x2)] [.ref s2, .int s1, .int s0] (G, F, I, J) b post px ↔ (ip_isO G s2 1 = true ∧ ip_WP 69 11 [some (.ref x0), some (.int x1), some (.int x2)] [F s2 29, .int s1, .int s0] (G, F, I, J) b post px) := ip_s_getf f69_8 (by decide +kernel)
theorem f69_11 : ip_fetch 69 11 = some (.iconst 1, 1) := by decide +kernel
theorem s69_11 {x0 : Nat} {x1 : Int32} {x2 : Int32} {s0 : Int32} {s1 : Int32} {s2 : Int32} : ip_WP 69 11 [some (.ref x0), some (.int x1), some (.int x2)] [.int s2, .int s1, .int s0] (G, F, I, J) b post px ↔ ip_WP 69 12 [some (.ref x0), some (.int x1), some (.int x2)] [.int 1, .int s2, .int s1, .int s0] (G, F, I, J) b post px := ip_s_iconst f69_11 (by decide)
theorem f69_12 : ip_fetch 69 12 = some (.isub, 1) := by decide +kernel
theorem s69_12 {x0 : Nat} {x1 : Int32} {x2 : Int32} {s0 : Int32} {s1 : Int32} {s2 : Int32} {s3 : Int32} : ip_WP 69 12 [some (.ref x0), some (.int x1), some (.int x2)] [.int s3, .int s2, .int s1, .int s0] (G, F, I, J) b post px ↔ ip_WP 69 13 [some (.ref x0), some (.int x1), some (.int x2)] [.int (s2 - s3), .int s1, .int s0] (G, F, I, J) b post px := ip_nx_iff ((ip_st_of f69_12).trans rfl)
theorem f69_13 : ip_fetch 69 13 = some (.invokestatic 97, 3) := by decide +kernel
set_option maxRecDepth 100000 in
theorem s69_13 {x0 : Nat} {x1 : Int32} {x2 : Int32} {s0 : Int32} {s1 : Int32} {s2 : Int32} : ip_WP 69 13 [some (.ref x0), some (.int x1), some (.int x2)] [.int s2, .int s1, .int s0] (G, F, I, J) b post px ↔ ip_WP 22 0 [some (.int s0), some (.int s1), some (.int s2)] [] (G, F, I, J) (0, 0) (fun r h' => ip_WP 69 16 [some (.ref x0), some (.int x1), some (.int x2)] (r.toList ++ []) h' b post px) (fun _ _ => False) := ip_cl_iff ((ip_st_of f69_13).trans (rfl : _ = ip_cl 22 [some (.int s0), some (.int s1), some (.int s2)] [] (0, 0) b))
theorem f69_16 : ip_fetch 69 16 = some (.ifCond .eq 12, 3) := by decide +kernel
theorem s69_16 {x0 : Nat} {x1 : Int32} {x2 : Int32} {s0 : Int32} : ip_WP 69 16 [some (.ref x0), some (.int x1), some (.int x2)] [.int s0] (G, F, I, J) b post px ↔ if s0 = 0 then ip_WP 69 28 [some (.ref x0), some (.int x1), some (.int x2)] [] (G, F, I, J) b post px else ip_WP 69 19 [some (.ref x0), some (.int x1), some (.int x2)] [] (G, F, I, J) b post px := ip_s_if_eq f69_16 rfl
theorem f69_19 : ip_fetch 69 19 = some (.iload_n 2, 1) := by decide +kernel
theorem s69_19 {x0 : Nat} {x1 : Int32} {x2 : Int32} : ip_WP 69 19 [some (.ref x0), some (.int x1), some (.int x2)] [] (G, F, I, J) b post px ↔ ip_WP 69 20 [some (.ref x0), some (.int x1), some (.int x2)] [.int x2] (G, F, I, J) b post px := ip_nx_iff ((ip_st_of f69_19).trans rfl)
theorem f69_20 : ip_fetch 69 20 = some (.iconst 0, 1) := by decide +kernel
theorem s69_20 {x0 : Nat} {x1 : Int32} {x2 : Int32} {s0 : Int32} : ip_WP 69 20 [some (.ref x0), some (.int x1), some (.int x2)] [.int s0] (G, F, I, J) b post px ↔ ip_WP 69 21 [some (.ref x0), some (.int x1), some (.int x2)] [.int 0, .int s0] (G, F, I, J) b post px := ip_s_iconst f69_20 (by decide)
theorem f69_21 : ip_fetch 69 21 = some (.iconst 1, 1) := by decide +kernel
theorem s69_21 {x0 : Nat} {x1 : Int32} {x2 : Int32} {s0 : Int32} {s1 : Int32} : ip_WP 69 21 [some (.ref x0), some (.int x1), some (.int x2)] [.int s1, .int s0] (G, F, I, J) b post px ↔ ip_WP 69 22 [some (.ref x0), some (.int x1), some (.int x2)] [.int 1, .int s1, .int s0] (G, F, I, J) b post px := ip_s_iconst f69_21 (by decide)
theorem f69_22 : ip_fetch 69 22 = some (.invokestatic 97, 3) := by decide +kernel
set_option maxRecDepth 100000 in
theorem s69_22 {x0 : Nat} {x1 : Int32} {x2 : Int32} {s0 : Int32} {s1 : Int32} {s2 : Int32} : ip_WP 69 22 [some (.ref x0), some (.int x1), some (.int x2)] [.int s2, .int s1, .int s0] (G, F, I, J) b post px ↔ ip_WP 22 0 [some (.int s0), some (.int s1), some (.int s2)] [] (G, F, I, J) (0, 0) (fun r h' => ip_WP 69 25 [some (.ref x0), some (.int x1), some (.int x2)] (r.toList ++ []) h' b post px) (fun _ _ => False) := ip_cl_iff ((ip_st_of f69_22).trans (rfl : _ = ip_cl 22 [some (.int s0), some (.int s1), some (.int s2)] [] (0, 0) b))
theorem f69_25 : ip_fetch 69 25 = some (.ifCond .ne 9, 3) := by decide +kernel
theorem s69_25 {x0 : Nat} {x1 : Int32} {x2 : Int32} {s0 : Int32} : ip_WP 69 25 [some (.ref x0), some (.int x1), some (.int x2)] [.int s0] (G, F, I, J) b post px ↔ if ¬ s0 = 0 then ip_WP 69 34 [some (.ref x0), some (.int x1), some (.int x2)] [] (G, F, I, J) b post px else ip_WP 69 28 [some (.ref x0), some (.int x1), some (.int x2)] [] (G, F, I, J) b post px := ip_s_if_ne f69_25 rfl
theorem f69_28 : ip_fetch 69 28 = some (.aload_n 0, 1) := by decide +kernel
theorem s69_28 {x0 : Nat} {x1 : Int32} {x2 : Int32} : ip_WP 69 28 [some (.ref x0), some (.int x1), some (.int x2)] [] (G, F, I, J) b post px ↔ ip_WP 69 29 [some (.ref x0), some (.int x1), some (.int x2)] [.ref x0] (G, F, I, J) b post px := ip_nx_iff ((ip_st_of f69_28).trans rfl)
theorem f69_29 : ip_fetch 69 29 = some (.iconst 1, 1) := by decide +kernel
theorem s69_29 {x0 : Nat} {x1 : Int32} {x2 : Int32} {s0 : Nat} : ip_WP 69 29 [some (.ref x0), some (.int x1), some (.int x2)] [.ref s0] (G, F, I, J) b post px ↔ ip_WP 69 30 [some (.ref x0), some (.int x1), some (.int x2)] [.int 1, .ref s0] (G, F, I, J) b post px := ip_s_iconst f69_29 (by decide)
theorem f69_30 : ip_fetch 69 30 = some (.invokevirtual 93, 3) := by decide +kernel
set_option maxRecDepth 100000 in
theorem s69_30 {x0 : Nat} {x1 : Int32} {x2 : Int32} {s0 : Nat} {s1 : Int32} : ip_WP 69 30 [some (.ref x0), some (.int x1), some (.int x2)] [.int s1, .ref s0] (G, F, I, J) b post px ↔ (ip_isO G s0 1 = true ∧ ip_WP 21 0 [some (.ref s0), some (.int s1)] [] (G, F, I, J) (0, 0) (fun r h' => ip_WP 69 33 [some (.ref x0), some (.int x1), some (.int x2)] (r.toList ++ []) h' b post px) (fun _ _ => False)) := ip_ck_iff (x := ip_cl 21 [some (.ref s0), some (.int s1)] [] (0, 0) b) ((ip_st_of f69_30).trans rfl) (ip_cl_iff)
theorem f69_33 : ip_fetch 69 33 = some (.ireturn, 1) := by decide +kernel
theorem s69_33 {x0 : Nat} {x1 : Int32} {x2 : Int32} {s0 : Int32} : ip_WP 69 33 [some (.ref x0), some (.int x1), some (.int x2)] [.int s0] (G, F, I, J) b post px ↔ post (some (.int s0)) (G, F, I, J) := ip_rt_iff ((ip_st_of f69_33).trans rfl)
theorem f69_34 : ip_fetch 69 34 = some (.iload_n 2, 1) := by decide +kernel
theorem s69_34 {x0 : Nat} {x1 : Int32} {x2 : Int32} : ip_WP 69 34 [some (.ref x0), some (.int x1), some (.int x2)] [] (G, F, I, J) b post px ↔ ip_WP 69 35 [some (.ref x0), some (.int x1), some (.int x2)] [.int x2] (G, F, I, J) b post px := ip_nx_iff ((ip_st_of f69_34).trans rfl)
theorem f69_35 : ip_fetch 69 35 = some (.ifCond .ne 12, 3) := by decide +kernel
theorem s69_35 {x0 : Nat} {x1 : Int32} {x2 : Int32} {s0 : Int32} : ip_WP 69 35 [some (.ref x0), some (.int x1), some (.int x2)] [.int s0] (G, F, I, J) b post px ↔ if ¬ s0 = 0 then ip_WP 69 47 [some (.ref x0), some (.int x1), some (.int x2)] [] (G, F, I, J) b post px else ip_WP 69 38 [some (.ref x0), some (.int x1), some (.int x2)] [] (G, F, I, J) b post px := ip_s_if_ne f69_35 rfl
theorem f69_38 : ip_fetch 69 38 = some (.aload_n 0, 1) := by decide +kernel
theorem s69_38 {x0 : Nat} {x1 : Int32} {x2 : Int32} : ip_WP 69 38 [some (.ref x0), some (.int x1), some (.int x2)] [] (G, F, I, J) b post px ↔ ip_WP 69 39 [some (.ref x0), some (.int x1), some (.int x2)] [.ref x0] (G, F, I, J) b post px := ip_nx_iff ((ip_st_of f69_38).trans rfl)
theorem f69_39 : ip_fetch 69 39 = some (.getfield 71, 3) := by decide +kernel
set_option maxRecDepth 100000 in
theorem s69_39 {x0 : Nat} {x1 : Int32} {x2 : Int32} {s0 : Nat} : ip_WP 69 39 [some (.ref x0), some (.int x1), some (.int x2)] [.ref s0] (G, F, I, J) b post px ↔ (ip_isO G s0 1 = true ∧ ip_WP 69 42 [some (.ref x0), some (.int x1), some (.int x2)] [F s0 31] (G, F, I, J) b post px) := ip_s_getf f69_39 (by decide +kernel)
theorem f69_42 : ip_fetch 69 42 = some (.iload_n 1, 1) := by decide +kernel
theorem s69_42 {x0 : Nat} {x1 : Int32} {x2 : Int32} {s0 : Nat} : ip_WP 69 42 [some (.ref x0), some (.int x1), some (.int x2)] [.ref s0] (G, F, I, J) b post px ↔ ip_WP 69 43 [some (.ref x0), some (.int x1), some (.int x2)] [.int x1, .ref s0] (G, F, I, J) b post px := ip_nx_iff ((ip_st_of f69_42).trans rfl)
theorem f69_43 : ip_fetch 69 43 = some (.iaload, 1) := by decide +kernel
theorem s69_43 {x0 : Nat} {x1 : Int32} {x2 : Int32} {s0 : Nat} {s1 : Int32} : ip_WP 69 43 [some (.ref x0), some (.int x1), some (.int x2)] [.int s1, .ref s0] (G, F, I, J) b post px ↔ (ip_inA G s0 0 s1 = true ∧ ip_WP 69 44 [some (.ref x0), some (.int x1), some (.int x2)] [.int (I s0 s1.toNatClampNeg)] (G, F, I, J) b post px) := ip_ck_iff ((ip_st_of f69_43).trans rfl) ip_nx_iff
theorem f69_44 : ip_fetch 69 44 = some (.goto 9, 3) := by decide +kernel
theorem s69_44 {x0 : Nat} {x1 : Int32} {x2 : Int32} {s0 : Int32} : ip_WP 69 44 [some (.ref x0), some (.int x1), some (.int x2)] [.int s0] (G, F, I, J) b post px ↔ ip_WP 69 53 [some (.ref x0), some (.int x1), some (.int x2)] [.int s0] (G, F, I, J) b post px := ip_nx_iff ((ip_st_of f69_44).trans rfl)
theorem f69_47 : ip_fetch 69 47 = some (.aload_n 0, 1) := by decide +kernel
theorem s69_47 {x0 : Nat} {x1 : Int32} {x2 : Int32} : ip_WP 69 47 [some (.ref x0), some (.int x1), some (.int x2)] [] (G, F, I, J) b post px ↔ ip_WP 69 48 [some (.ref x0), some (.int x1), some (.int x2)] [.ref x0] (G, F, I, J) b post px := ip_nx_iff ((ip_st_of f69_47).trans rfl)
theorem f69_48 : ip_fetch 69 48 = some (.getfield 74, 3) := by decide +kernel
set_option maxRecDepth 100000 in
theorem s69_48 {x0 : Nat} {x1 : Int32} {x2 : Int32} {s0 : Nat} : ip_WP 69 48 [some (.ref x0), some (.int x1), some (.int x2)] [.ref s0] (G, F, I, J) b post px ↔ (ip_isO G s0 1 = true ∧ ip_WP 69 51 [some (.ref x0), some (.int x1), some (.int x2)] [F s0 32] (G, F, I, J) b post px) := ip_s_getf f69_48 (by decide +kernel)
theorem f69_51 : ip_fetch 69 51 = some (.iload_n 1, 1) := by decide +kernel
theorem s69_51 {x0 : Nat} {x1 : Int32} {x2 : Int32} {s0 : Nat} : ip_WP 69 51 [some (.ref x0), some (.int x1), some (.int x2)] [.ref s0] (G, F, I, J) b post px ↔ ip_WP 69 52 [some (.ref x0), some (.int x1), some (.int x2)] [.int x1, .ref s0] (G, F, I, J) b post px := ip_nx_iff ((ip_st_of f69_51).trans rfl)
theorem f69_52 : ip_fetch 69 52 = some (.iaload, 1) := by decide +kernel
theorem s69_52 {x0 : Nat} {x1 : Int32} {x2 : Int32} {s0 : Nat} {s1 : Int32} : ip_WP 69 52 [some (.ref x0), some (.int x1), some (.int x2)] [.int s1, .ref s0] (G, F, I, J) b post px ↔ (ip_inA G s0 0 s1 = true ∧ ip_WP 69 53 [some (.ref x0), some (.int x1), some (.int x2)] [.int (I s0 s1.toNatClampNeg)] (G, F, I, J) b post px) := ip_ck_iff ((ip_st_of f69_52).trans rfl) ip_nx_iff
theorem f69_53 : ip_fetch 69 53 = some (.ireturn, 1) := by decide +kernel
theorem s69_53 {x0 : Nat} {x1 : Int32} {x2 : Int32} {s0 : Int32} : ip_WP 69 53 [some (.ref x0), some (.int x1), some (.int x2)] [.int s0] (G, F, I, J) b post px ↔ post (some (.int s0)) (G, F, I, J) := ip_rt_iff ((ip_st_of f69_53).trans rfl)
theorem f70_0 : ip_fetch 70 0 = some (.aload_n 0, 1) := by decide +kernel
theorem s70_0 {x0 : Nat} {x1 : Int32} {x2 : Int32} : ip_WP 70 0 [some (.ref x0), some (.int x1), some (.int x2)] [] (G, F, I, J) b post px ↔ ip_WP 70 1 [some (.ref x0), some (.int x1), some (.int x2)] [.ref x0] (G, F, I, J) b post px := ip_nx_iff ((ip_st_of f70_0).trans rfl)
theorem f70_1 : ip_fetch 70 1 = some (.iconst 0, 1) := by decide +kernel
theorem s70_1 {x0 : Nat} {x1 : Int32} {x2 : Int32} {s0 : Nat} : ip_WP 70 1 [some (.ref x0), some (.int x1), some (.int x2)] [.ref s0] (G, F, I, J) b post px ↔ ip_WP 70 2 [some (.ref x0), some (.int x1), some (.int x2)] [.int 0, .ref s0] (G, F, I, J) b post px := ip_s_iconst f70_1 (by decide)
theorem f70_2 : ip_fetch 70 2 = some (.putfield 86, 3) := by decide +kernel
set_option maxRecDepth 100000 in
theorem s70_2 {x0 : Nat} {x1 : Int32} {x2 : Int32} {s0 : Nat} {s1 : Int32} : ip_WP 70 2 [some (.ref x0), some (.int x1), some (.int x2)] [.int s1, .ref s0] (G, F, I, J) b post px ↔ (ip_isO G s0 1 = true ∧ ip_WP 70 5 [some (.ref x0), some (.int x1), some (.int x2)] [] (G, ip_up F s0 1 (.int s1), I, J) b post px) := ip_s_put f70_2 (by decide +kernel) rfl
theorem f70_5 : ip_fetch 70 5 = some (.iload_n 1, 1) := by decide +kernel
theorem s70_5 {x0 : Nat} {x1 : Int32} {x2 : Int32} : ip_WP 70 5 [some (.ref x0), some (.int x1), some (.int x2)] [] (G, F, I, J) b post px ↔ ip_WP 70 6 [some (.ref x0), some (.int x1), some (.int x2)] [.int x1] (G, F, I, J) b post px := ip_nx_iff ((ip_st_of f70_5).trans rfl)
theorem f70_6 : ip_fetch 70 6 = some (.iconst 0, 1) := by decide +kernel
theorem s70_6 {x0 : Nat} {x1 : Int32} {x2 : Int32} {s0 : Int32} : ip_WP 70 6 [some (.ref x0), some (.int x1), some (.int x2)] [.int s0] (G, F, I, J) b post px ↔ ip_WP 70 7 [some (.ref x0), some (.int x1), some (.int x2)] [.int 0, .int s0] (G, F, I, J) b post px := ip_s_iconst f70_6 (by decide)
theorem f70_7 : ip_fetch 70 7 = some (.aload_n 0, 1) := by decide +kernel
theorem s70_7 {x0 : Nat} {x1 : Int32} {x2 : Int32} {s0 : Int32} {s1 : Int32} : ip_WP 70 7 [some (.ref x0), some (.int x1), some (.int x2)] [.int s1, .int s0] (G, F, I, J) b post px ↔ ip_WP 70 8 [some (.ref x0), some (.int x1), some (.int x2)] [.ref x0, .int s1, .int s0] (G, F, I, J) b post px := ip_nx_iff ((ip_st_of f70_7).trans rfl)
theorem f70_8 : ip_fetch 70 8 = some (.getfield 231, 3) := by decide +kernel
set_option maxRecDepth 100000 in
theorem s70_8 {x0 : Nat} {x1 : Int32} {x2 : Int32} {s0 : Int32} {s1 : Int32} {s2 : Nat} : ip_WP 70 8 [some (.ref x0), some (.int x1), some (.int x2)] [.ref s2, .int s1, .int s0] (G, F, I, J) b post px ↔ (ip_isO G s2 1 = true ∧ ip_WP 70 11 [some (.ref x0), some (.int x1), some (.int x2)] [F s2 30, .int s1, .int s0] (G, F, I, J) b post px) := ip_s_getf f70_8 (by decide +kernel)
theorem f70_11 : ip_fetch 70 11 = some (.iconst 1, 1) := by decide +kernel
theorem s70_11 {x0 : Nat} {x1 : Int32} {x2 : Int32} {s0 : Int32} {s1 : Int32} {s2 : Int32} : ip_WP 70 11 [some (.ref x0), some (.int x1), some (.int x2)] [.int s2, .int s1, .int s0] (G, F, I, J) b post px ↔ ip_WP 70 12 [some (.ref x0), some (.int x1), some (.int x2)] [.int 1, .int s2, .int s1, .int s0] (G, F, I, J) b post px := ip_s_iconst f70_11 (by decide)
theorem f70_12 : ip_fetch 70 12 = some (.isub, 1) := by decide +kernel
theorem s70_12 {x0 : Nat} {x1 : Int32} {x2 : Int32} {s0 : Int32} {s1 : Int32} {s2 : Int32} {s3 : Int32} : ip_WP 70 12 [some (.ref x0), some (.int x1), some (.int x2)] [.int s3, .int s2, .int s1, .int s0] (G, F, I, J) b post px ↔ ip_WP 70 13 [some (.ref x0), some (.int x1), some (.int x2)] [.int (s2 - s3), .int s1, .int s0] (G, F, I, J) b post px := ip_nx_iff ((ip_st_of f70_12).trans rfl)
theorem f70_13 : ip_fetch 70 13 = some (.invokestatic 97, 3) := by decide +kernel
set_option maxRecDepth 100000 in
theorem s70_13 {x0 : Nat} {x1 : Int32} {x2 : Int32} {s0 : Int32} {s1 : Int32} {s2 : Int32} : ip_WP 70 13 [some (.ref x0), some (.int x1), some (.int x2)] [.int s2, .int s1, .int s0] (G, F, I, J) b post px ↔ ip_WP 22 0 [some (.int s0), some (.int s1), some (.int s2)] [] (G, F, I, J) (0, 0) (fun r h' => ip_WP 70 16 [some (.ref x0), some (.int x1), some (.int x2)] (r.toList ++ []) h' b post px) (fun _ _ => False) := ip_cl_iff ((ip_st_of f70_13).trans (rfl : _ = ip_cl 22 [some (.int s0), some (.int s1), some (.int s2)] [] (0, 0) b))
theorem f70_16 : ip_fetch 70 16 = some (.ifCond .eq 12, 3) := by decide +kernel
theorem s70_16 {x0 : Nat} {x1 : Int32} {x2 : Int32} {s0 : Int32} : ip_WP 70 16 [some (.ref x0), some (.int x1), some (.int x2)] [.int s0] (G, F, I, J) b post px ↔ if s0 = 0 then ip_WP 70 28 [some (.ref x0), some (.int x1), some (.int x2)] [] (G, F, I, J) b post px else ip_WP 70 19 [some (.ref x0), some (.int x1), some (.int x2)] [] (G, F, I, J) b post px := ip_s_if_eq f70_16 rfl
theorem f70_19 : ip_fetch 70 19 = some (.iload_n 2, 1) := by decide +kernel
theorem s70_19 {x0 : Nat} {x1 : Int32} {x2 : Int32} : ip_WP 70 19 [some (.ref x0), some (.int x1), some (.int x2)] [] (G, F, I, J) b post px ↔ ip_WP 70 20 [some (.ref x0), some (.int x1), some (.int x2)] [.int x2] (G, F, I, J) b post px := ip_nx_iff ((ip_st_of f70_19).trans rfl)
theorem f70_20 : ip_fetch 70 20 = some (.iconst 0, 1) := by decide +kernel
theorem s70_20 {x0 : Nat} {x1 : Int32} {x2 : Int32} {s0 : Int32} : ip_WP 70 20 [some (.ref x0), some (.int x1), some (.int x2)] [.int s0] (G, F, I, J) b post px ↔ ip_WP 70 21 [some (.ref x0), some (.int x1), some (.int x2)] [.int 0, .int s0] (G, F, I, J) b post px := ip_s_iconst f70_20 (by decide)
theorem f70_21 : ip_fetch 70 21 = some (.iconst 1, 1) := by decide +kernel
theorem s70_21 {x0 : Nat} {x1 : Int32} {x2 : Int32} {s0 : Int32} {s1 : Int32} : ip_WP 70 21 [some (.ref x0), some (.int x1), some (.int x2)] [.int s1, .int s0] (G, F, I, J) b post px ↔ ip_WP 70 22 [some (.ref x0), some (.int x1), some (.int x2)] [.int 1, .int s1, .int s0] (G, F, I, J) b post px := ip_s_iconst f70_21 (by decide)
theorem f70_22 : ip_fetch 70 22 = some (.invokestatic 97, 3) := by decide +kernel
set_option maxRecDepth 100000 in
theorem s70_22 {x0 : Nat} {x1 : Int32} {x2 : Int32} {s0 : Int32} {s1 : Int32} {s2 : Int32} : ip_WP 70 22 [some (.ref x0), some (.int x1), some (.int x2)] [.int s2, .int s1, .int s0] (G, F, I, J) b post px ↔ ip_WP 22 0 [some (.int s0), some (.int s1), some (.int s2)] [] (G, F, I, J) (0, 0) (fun r h' => ip_WP 70 25 [some (.ref x0), some (.int x1), some (.int x2)] (r.toList ++ []) h' b post px) (fun _ _ => False) := ip_cl_iff ((ip_st_of f70_22).trans (rfl : _ = ip_cl 22 [some (.int s0), some (.int s1), some (.int s2)] [] (0, 0) b))
theorem f70_25 : ip_fetch 70 25 = some (.ifCond .ne 9, 3) := by decide +kernel
theorem s70_25 {x0 : Nat} {x1 : Int32} {x2 : Int32} {s0 : Int32} : ip_WP 70 25 [some (.ref x0), some (.int x1), some (.int x2)] [.int s0] (G, F, I, J) b post px ↔ if ¬ s0 = 0 then ip_WP 70 34 [some (.ref x0), some (.int x1), some (.int x2)] [] (G, F, I, J) b post px else ip_WP 70 28 [some (.ref x0), some (.int x1), some (.int x2)] [] (G, F, I, J) b post px := ip_s_if_ne f70_25 rfl
theorem f70_28 : ip_fetch 70 28 = some (.aload_n 0, 1) := by decide +kernel
theorem s70_28 {x0 : Nat} {x1 : Int32} {x2 : Int32} : ip_WP 70 28 [some (.ref x0), some (.int x1), some (.int x2)] [] (G, F, I, J) b post px ↔ ip_WP 70 29 [some (.ref x0), some (.int x1), some (.int x2)] [.ref x0] (G, F, I, J) b post px := ip_nx_iff ((ip_st_of f70_28).trans rfl)
theorem f70_29 : ip_fetch 70 29 = some (.iconst 1, 1) := by decide +kernel
theorem s70_29 {x0 : Nat} {x1 : Int32} {x2 : Int32} {s0 : Nat} : ip_WP 70 29 [some (.ref x0), some (.int x1), some (.int x2)] [.ref s0] (G, F, I, J) b post px ↔ ip_WP 70 30 [some (.ref x0), some (.int x1), some (.int x2)] [.int 1, .ref s0] (G, F, I, J) b post px := ip_s_iconst f70_29 (by decide)
theorem f70_30 : ip_fetch 70 30 = some (.invokevirtual 93, 3) := by decide +kernel
set_option maxRecDepth 100000 in
theorem s70_30 {x0 : Nat} {x1 : Int32} {x2 : Int32} {s0 : Nat} {s1 : Int32} : ip_WP 70 30 [some (.ref x0), some (.int x1), some (.int x2)] [.int s1, .ref s0] (G, F, I, J) b post px ↔ (ip_isO G s0 1 = true ∧ ip_WP 21 0 [some (.ref s0), some (.int s1)] [] (G, F, I, J) (0, 0) (fun r h' => ip_WP 70 33 [some (.ref x0), some (.int x1), some (.int x2)] (r.toList ++ []) h' b post px) (fun _ _ => False)) := ip_ck_iff (x := ip_cl 21 [some (.ref s0), some (.int s1)] [] (0, 0) b) ((ip_st_of f70_30).trans rfl) (ip_cl_iff)
theorem f70_33 : ip_fetch 70 33 = some (.ireturn, 1) := by decide +kernel
theorem s70_33 {x0 : Nat} {x1 : Int32} {x2 : Int32} {s0 : Int32} : ip_WP 70 33 [some (.ref x0), some (.int x1), some (.int x2)] [.int s0] (G, F, I, J) b post px ↔ post (some (.int s0)) (G, F, I, J) := ip_rt_iff ((ip_st_of f70_33).trans rfl)
theorem f70_34 : ip_fetch 70 34 = some (.iload_n 2, 1) := by decide +kernel
theorem s70_34 {x0 : Nat} {x1 : Int32} {x2 : Int32} : ip_WP 70 34 [some (.ref x0), some (.int x1), some (.int x2)] [] (G, F, I, J) b post px ↔ ip_WP 70 35 [some (.ref x0), some (.int x1), some (.int x2)] [.int x2] (G, F, I, J) b post px := ip_nx_iff ((ip_st_of f70_34).trans rfl)
theorem f70_35 : ip_fetch 70 35 = some (.ifCond .ne 12, 3) := by decide +kernel
theorem s70_35 {x0 : Nat} {x1 : Int32} {x2 : Int32} {s0 : Int32} : ip_WP 70 35 [some (.ref x0), some (.int x1), some (.int x2)] [.int s0] (G, F, I, J) b post px ↔ if ¬ s0 = 0 then ip_WP 70 47 [some (.ref x0), some (.int x1), some (.int x2)] [] (G, F, I, J) b post px else ip_WP 70 38 [some (.ref x0), some (.int x1), some (.int x2)] [] (G, F, I, J) b post px := ip_s_if_ne f70_35 rfl
theorem f70_38 : ip_fetch 70 38 = some (.aload_n 0, 1) := by decide +kernel
theorem s70_38 {x0 : Nat} {x1 : Int32} {x2 : Int32} : ip_WP 70 38 [some (.ref x0), some (.int x1), some (.int x2)] [] (G, F, I, J) b post px ↔ ip_WP 70 39 [some (.ref x0), some (.int x1), some (.int x2)] [.ref x0] (G, F, I, J) b post px := ip_nx_iff ((ip_st_of f70_38).trans rfl)
theorem f70_39 : ip_fetch 70 39 = some (.getfield 77, 3) := by decide +kernel
set_option maxRecDepth 100000 in
theorem s70_39 {x0 : Nat} {x1 : Int32} {x2 : Int32} {s0 : Nat} : ip_WP 70 39 [some (.ref x0), some (.int x1), some (.int x2)] [.ref s0] (G, F, I, J) b post px ↔ (ip_isO G s0 1 = true ∧ ip_WP 70 42 [some (.ref x0), some (.int x1), some (.int x2)] [F s0 33] (G, F, I, J) b post px) := ip_s_getf f70_39 (by decide +kernel)
theorem f70_42 : ip_fetch 70 42 = some (.iload_n 1, 1) := by decide +kernel
theorem s70_42 {x0 : Nat} {x1 : Int32} {x2 : Int32} {s0 : Nat} : ip_WP 70 42 [some (.ref x0), some (.int x1), some (.int x2)] [.ref s0] (G, F, I, J) b post px ↔ ip_WP 70 43 [some (.ref x0), some (.int x1), some (.int x2)] [.int x1, .ref s0] (G, F, I, J) b post px := ip_nx_iff ((ip_st_of f70_42).trans rfl)
theorem f70_43 : ip_fetch 70 43 = some (.iaload, 1) := by decide +kernel
theorem s70_43 {x0 : Nat} {x1 : Int32} {x2 : Int32} {s0 : Nat} {s1 : Int32} : ip_WP 70 43 [some (.ref x0), some (.int x1), some (.int x2)] [.int s1, .ref s0] (G, F, I, J) b post px ↔ (ip_inA G s0 0 s1 = true ∧ ip_WP 70 44 [some (.ref x0), some (.int x1), some (.int x2)] [.int (I s0 s1.toNatClampNeg)] (G, F, I, J) b post px) := ip_ck_iff ((ip_st_of f70_43).trans rfl) ip_nx_iff
theorem f70_44 : ip_fetch 70 44 = some (.goto 9, 3) := by decide +kernel
theorem s70_44 {x0 : Nat} {x1 : Int32} {x2 : Int32} {s0 : Int32} : ip_WP 70 44 [some (.ref x0), some (.int x1), some (.int x2)] [.int s0] (G, F, I, J) b post px ↔ ip_WP 70 53 [some (.ref x0), some (.int x1), some (.int x2)] [.int s0] (G, F, I, J) b post px := ip_nx_iff ((ip_st_of f70_44).trans rfl)
theorem f70_47 : ip_fetch 70 47 = some (.aload_n 0, 1) := by decide +kernel
theorem s70_47 {x0 : Nat} {x1 : Int32} {x2 : Int32} : ip_WP 70 47 [some (.ref x0), some (.int x1), some (.int x2)] [] (G, F, I, J) b post px ↔ ip_WP 70 48 [some (.ref x0), some (.int x1), some (.int x2)] [.ref x0] (G, F, I, J) b post px := ip_nx_iff ((ip_st_of f70_47).trans rfl)
theorem f70_48 : ip_fetch 70 48 = some (.getfield 80, 3) := by decide +kernel
set_option maxRecDepth 100000 in
theorem s70_48 {x0 : Nat} {x1 : Int32} {x2 : Int32} {s0 : Nat} : ip_WP 70 48 [some (.ref x0), some (.int x1), some (.int x2)] [.ref s0] (G, F, I, J) b post px ↔ (ip_isO G s0 1 = true ∧ ip_WP 70 51 [some (.ref x0), some (.int x1), some (.int x2)] [F s0 34] (G, F, I, J) b post px) := ip_s_getf f70_48 (by decide +kernel)
theorem f70_51 : ip_fetch 70 51 = some (.iload_n 1, 1) := by decide +kernel
theorem s70_51 {x0 : Nat} {x1 : Int32} {x2 : Int32} {s0 : Nat} : ip_WP 70 51 [some (.ref x0), some (.int x1), some (.int x2)] [.ref s0] (G, F, I, J) b post px ↔ ip_WP 70 52 [some (.ref x0), some (.int x1), some (.int x2)] [.int x1, .ref s0] (G, F, I, J) b post px := ip_nx_iff ((ip_st_of f70_51).trans rfl)
theorem f70_52 : ip_fetch 70 52 = some (.iaload, 1) := by decide +kernel
theorem s70_52 {x0 : Nat} {x1 : Int32} {x2 : Int32} {s0 : Nat} {s1 : Int32} : ip_WP 70 52 [some (.ref x0), some (.int x1), some (.int x2)] [.int s1, .ref s0] (G, F, I, J) b post px ↔ (ip_inA G s0 0 s1 = true ∧ ip_WP 70 53 [some (.ref x0), some (.int x1), some (.int x2)] [.int (I s0 s1.toNatClampNeg)] (G, F, I, J) b post px) := ip_ck_iff ((ip_st_of f70_52).trans rfl) ip_nx_iff
theorem f70_53 : ip_fetch 70 53 = some (.ireturn, 1) := by decide +kernel
theorem s70_53 {x0 : Nat} {x1 : Int32} {x2 : Int32} {s0 : Int32} : ip_WP 70 53 [some (.ref x0), some (.int x1), some (.int x2)] [.int s0] (G, F, I, J) b post px ↔ post (some (.int s0)) (G, F, I, J) := ip_rt_iff ((ip_st_of f70_53).trans rfl)
theorem f71_0 : ip_fetch 71 0 = some (.aload_n 0, 1) := by decide +kernel
theorem s71_0 {x0 : Nat} {x1 : Int32} : ip_WP 71 0 [some (.ref x0), some (.int x1)] [] (G, F, I, J) b post px ↔ ip_WP 71 1 [some (.ref x0), some (.int x1)] [.ref x0] (G, F, I, J) b post px := ip_nx_iff ((ip_st_of f71_0).trans rfl)
theorem f71_1 : ip_fetch 71 1 = some (.getfield 16, 3) := by decide +kernel
set_option maxRecDepth 100000 in
theorem s71_1 {x0 : Nat} {x1 : Int32} {s0 : Nat} : ip_WP 71 1 [some (.ref x0), some (.int x1)] [.ref s0] (G, F, I, J) b post px ↔ (ip_isO G s0 1 = true ∧ ip_WP 71 4 [some (.ref x0), some (.int x1)] [F s0 5] (G, F, I, J) b post px) := ip_s_getf f71_1 (by decide +kernel)
theorem f71_4 : ip_fetch 71 4 = some (.aload_n 0, 1) := by decide +kernel
theorem s71_4 {x0 : Nat} {x1 : Int32} {s0 : Nat} : ip_WP 71 4 [some (.ref x0), some (.int x1)] [.ref s0] (G, F, I, J) b post px ↔ ip_WP 71 5 [some (.ref x0), some (.int x1)] [.ref x0, .ref s0] (G, F, I, J) b post px := ip_nx_iff ((ip_st_of f71_4).trans rfl)
theorem f71_5 : ip_fetch 71 5 = some (.getfield 250, 3) := by decide +kernel
set_option maxRecDepth 100000 in
theorem s71_5 {x0 : Nat} {x1 : Int32} {s0 : Nat} {s1 : Nat} : ip_WP 71 5 [some (.ref x0), some (.int x1)] [.ref s1, .ref s0] (G, F, I, J) b post px ↔ (ip_isO G s1 1 = true ∧ ip_WP 71 8 [some (.ref x0), some (.int x1)] [F s1 4, .ref s0] (G, F, I, J) b post px) := ip_s_getf f71_5 (by decide +kernel)
theorem f71_8 : ip_fetch 71 8 = some (.iload_n 1, 1) := by decide +kernel
theorem s71_8 {x0 : Nat} {x1 : Int32} {s0 : Nat} {s1 : Int32} : ip_WP 71 8 [some (.ref x0), some (.int x1)] [.int s1, .ref s0] (G, F, I, J) b post px ↔ ip_WP 71 9 [some (.ref x0), some (.int x1)] [.int x1, .int s1, .ref s0] (G, F, I, J) b post px := ip_nx_iff ((ip_st_of f71_8).trans rfl)
theorem f71_9 : ip_fetch 71 9 = some (.iastore, 1) := by decide +kernel
theorem s71_9 {x0 : Nat} {x1 : Int32} {s0 : Nat} {s1 : Int32} {s2 : Int32} : ip_WP 71 9 [some (.ref x0), some (.int x1)] [.int s2, .int s1, .ref s0] (G, F, I, J) b post px ↔ (ip_inA G s0 0 s1 = true ∧ ip_WP 71 10 [some (.ref x0), some (.int x1)] [] (G, F, ip_up I s0 s1.toNatClampNeg s2, J) b post px) := ip_ck_iff ((ip_st_of f71_9).trans rfl) ip_nx_iff
theorem f71_10 : ip_fetch 71 10 = some (.aload_n 0, 1) := by decide +kernel
theorem s71_10 {x0 : Nat} {x1 : Int32} : ip_WP 71 10 [some (.ref x0), some (.int x1)] [] (G, F, I, J) b post px ↔ ip_WP 71 11 [some (.ref x0), some (.int x1)] [.ref x0] (G, F, I, J) b post px := ip_nx_iff ((ip_st_of f71_10).trans rfl)
theorem f71_11 : ip_fetch 71 11 = some (.dup, 1) := by decide +kernel
theorem s71_11 {x0 : Nat} {x1 : Int32} {s0 : Nat} : ip_WP 71 11 [some (.ref x0), some (.int x1)] [.ref s0] (G, F, I, J) b post px ↔ ip_WP 71 12 [some (.ref x0), some (.int x1)] [.ref s0, .ref s0] (G, F, I, J) b post px := ip_nx_iff ((ip_st_of f71_11).trans rfl)
theorem f71_12 : ip_fetch 71 12 = some (.getfield 250, 3) := by decide +kernel
set_option maxRecDepth 100000 in
theorem s71_12 {x0 : Nat} {x1 : Int32} {s0 : Nat} {s1 : Nat} : ip_WP 71 12 [some (.ref x0), some (.int x1)] [.ref s1, .ref s0] (G, F, I, J) b post px ↔ (ip_isO G s1 1 = true ∧ ip_WP 71 15 [some (.ref x0), some (.int x1)] [F s1 4, .ref s0] (G, F, I, J) b post px) := ip_s_getf f71_12 (by decide +kernel)
theorem f71_15 : ip_fetch 71 15 = some (.iconst 1, 1) := by decide +kernel
theorem s71_15 {x0 : Nat} {x1 : Int32} {s0 : Nat} {s1 : Int32} : ip_WP 71 15 [some (.ref x0), some (.int x1)] [.int s1, .ref s0] (G, F, I, J) b post px ↔ ip_WP 71 16 [some (.ref x0), some (.int x1)] [.int 1, .int s1, .ref s0] (G, F, I, J) b post px := ip_s_iconst f71_15 (by decide)
theorem f71_16 : ip_fetch 71 16 = some (.iadd, 1) := by decide +kernel
theorem s71_16 {x0 : Nat} {x1 : Int32} {s0 : Nat} {s1 : Int32} {s2 : Int32} : ip_WP 71 16 [some (.ref x0), some (.int x1)] [.int s2, .int s1, .ref s0] (G, F, I, J) b post px ↔ ip_WP 71 17 [some (.ref x0), some (.int x1)] [.int (s1 + s2), .ref s0] (G, F, I, J) b post px := ip_nx_iff ((ip_st_of f71_16).trans rfl)
theorem f71_17 : ip_fetch 71 17 = some (.putfield 250, 3) := by decide +kernel
set_option maxRecDepth 100000 in
theorem s71_17 {x0 : Nat} {x1 : Int32} {s0 : Nat} {s1 : Int32} : ip_WP 71 17 [some (.ref x0), some (.int x1)] [.int s1, .ref s0] (G, F, I, J) b post px ↔ (ip_isO G s0 1 = true ∧ ip_WP 71 20 [some (.ref x0), some (.int x1)] [] (G, ip_up F s0 4 (.int s1), I, J) b post px) := ip_s_put f71_17 (by decide +kernel) rfl
theorem f71_20 : ip_fetch 71 20 = some (.return_, 1) := by decide +kernel
theorem s71_20 {x0 : Nat} {x1 : Int32} : ip_WP 71 20 [some (.ref x0), some (.int x1)] [] (G, F, I, J) b post px ↔ post none (G, F, I, J) := ip_rt_iff ((ip_st_of f71_20).trans rfl)
theorem f72_0 : ip_fetch 72 0 = some (.iconst 0, 1) := by decide +kernel
theorem s72_0 {x0 : Nat} {x1 : Int32} {x2 : Option Value} {x3 : Option Value} : ip_WP 72 0 [some (.ref x0), some (.int x1), x2, x3] [] (G, F, I, J) b post px ↔ ip_WP 72 1 [some (.ref x0), some (.int x1), x2, x3] [.int 0] (G, F, I, J) b post px := ip_s_iconst f72_0 (by decide)
theorem f72_1 : ip_fetch 72 1 = some (.istore_n 2, 1) := by decide +kernel
theorem s72_1 {x0 : Nat} {x1 : Int32} {x2 : Option Value} {x3 : Option Value} {s0 : Int32} : ip_WP 72 1 [some (.ref x0), some (.int x1), x2, x3] [.int s0] (G, F, I, J) b post px ↔ ip_WP 72 2 [some (.ref x0), some (.int x1), some (.int s0), x3] [] (G, F, I, J) b post px := ip_nx_iff ((ip_st_of f72_1).trans rfl)
theorem f72_2 : ip_fetch 72 2 = some (.iconst 0, 1) := by decide +kernel
theorem s72_2 {x0 : Nat} {x1 : Int32} {x2 : Int32} {x3 : Option Value} : ip_WP 72 2 [some (.ref x0), some (.int x1), some (.int x2), x3] [] (G, F, I, J) b post px ↔ ip_WP 72 3 [some (.ref x0), some (.int x1), some (.int x2), x3] [.int 0] (G, F, I, J) b post px := ip_s_iconst f72_2 (by decide)
theorem f72_3 : ip_fetch 72 3 = some (.istore_n 3, 1) := by decide +kernel
theorem s72_3 {x0 : Nat} {x1 : Int32} {x2 : Int32} {x3 : Option Value} {s0 : Int32} : ip_WP 72 3 [some (.ref x0), some (.int x1), some (.int x2), x3] [.int s0] (G, F, I, J) b post px ↔ ip_WP 72 4 [some (.ref x0), some (.int x1), some (.int x2), some (.int s0)] [] (G, F, I, J) b post px := ip_nx_iff ((ip_st_of f72_3).trans rfl)
theorem f72_4 : ip_fetch 72 4 = some (.iload_n 3, 1) := by decide +kernel
theorem s72_4 {x0 : Nat} {x1 : Int32} {x2 : Int32} {x3 : Int32} : ip_WP 72 4 [some (.ref x0), some (.int x1), some (.int x2), some (.int x3)] [] (G, F, I, J) b post px ↔ ip_WP 72 5 [some (.ref x0), some (.int x1), some (.int x2), some (.int x3)] [.int x3] (G, F, I, J) b post px := ip_nx_iff ((ip_st_of f72_4).trans rfl)
theorem f72_5 : ip_fetch 72 5 = some (.iload_n 1, 1) := by decide +kernel
theorem s72_5 {x0 : Nat} {x1 : Int32} {x2 : Int32} {x3 : Int32} {s0 : Int32} : ip_WP 72 5 [some (.ref x0), some (.int x1), some (.int x2), some (.int x3)] [.int s0] (G, F, I, J) b post px ↔ ip_WP 72 6 [some (.ref x0), some (.int x1), some (.int x2), some (.int x3)] [.int x1, .int s0] (G, F, I, J) b post px := ip_nx_iff ((ip_st_of f72_5).trans rfl)
theorem f72_6 : ip_fetch 72 6 = some (.if_icmp .ge 27, 3) := by decide +kernel
theorem s72_6 {x0 : Nat} {x1 : Int32} {x2 : Int32} {x3 : Int32} {s0 : Int32} {s1 : Int32} : ip_WP 72 6 [some (.ref x0), some (.int x1), some (.int x2), some (.int x3)] [.int s1, .int s0] (G, F, I, J) b post px ↔ if s1 ≤ s0 then ip_WP 72 33 [some (.ref x0), some (.int x1), some (.int x2), some (.int x3)] [] (G, F, I, J) b post px else ip_WP 72 9 [some (.ref x0), some (.int x1), some (.int x2), some (.int x3)] [] (G, F, I, J) b post px := ip_s_ic_ge f72_6 rfl
theorem f72_9 : ip_fetch 72 9 = some (.aload_n 0, 1) := by decide +kernel
theorem s72_9 {x0 : Nat} {x1 : Int32} {x2 : Int32} {x3 : Int32} : ip_WP 72 9 [some (.ref x0), some (.int x1), some (.int x2), some (.int x3)] [] (G, F, I, J) b post px ↔ ip_WP 72 10 [some (.ref x0), some (.int x1), some (.int x2), some (.int x3)] [.ref x0] (G, F, I, J) b post px := ip_nx_iff ((ip_st_of f72_9).trans rfl)
theorem f72_10 : ip_fetch 72 10 = some (.getfield 7, 3) := by decide +kernel
set_option maxRecDepth 100000 in
theorem s72_10 {x0 : Nat} {x1 : Int32} {x2 : Int32} {x3 : Int32} {s0 : Nat} : ip_WP 72 10 [some (.ref x0), some (.int x1), some (.int x2), some (.int x3)] [.ref s0] (G, F, I, J) b post px ↔ (ip_isO G s0 1 = true ∧ ip_WP 72 13 [some (.ref x0), some (.int x1), some (.int x2), some (.int x3)] [F s0 0] (G, F, I, J) b post px) := ip_s_getf f72_10 (by decide +kernel)
theorem f72_13 : ip_fetch 72 13 = some (.iload_n 2, 1) := by decide +kernel
theorem s72_13 {x0 : Nat} {x1 : Int32} {x2 : Int32} {x3 : Int32} {s0 : Nat} : ip_WP 72 13 [some (.ref x0), some (.int x1), some (.int x2), some (.int x3)] [.ref s0] (G, F, I, J) b post px ↔ ip_WP 72 14 [some (.ref x0), some (.int x1), some (.int x2), some (.int x3)] [.int x2, .ref s0] (G, F, I, J) b post px := ip_nx_iff ((ip_st_of f72_13).trans rfl)
theorem f72_14 : ip_fetch 72 14 = some (.iaload, 1) := by decide +kernel
theorem s72_14 {x0 : Nat} {x1 : Int32} {x2 : Int32} {x3 : Int32} {s0 : Nat} {s1 : Int32} : ip_WP 72 14 [some (.ref x0), some (.int x1), some (.int x2), some (.int x3)] [.int s1, .ref s0] (G, F, I, J) b post px ↔ (ip_inA G s0 0 s1 = true ∧ ip_WP 72 15 [some (.ref x0), some (.int x1), some (.int x2), some (.int x3)] [.int (I s0 s1.toNatClampNeg)] (G, F, I, J) b post px) := ip_ck_iff ((ip_st_of f72_14).trans rfl) ip_nx_iff
theorem f72_15 : ip_fetch 72 15 = some (.ifCond .eq 9, 3) := by decide +kernel
theorem s72_15 {x0 : Nat} {x1 : Int32} {x2 : Int32} {x3 : Int32} {s0 : Int32} : ip_WP 72 15 [some (.ref x0), some (.int x1), some (.int x2), some (.int x3)] [.int s0] (G, F, I, J) b post px ↔ if s0 = 0 then ip_WP 72 24 [some (.ref x0), some (.int x1), some (.int x2), some (.int x3)] [] (G, F, I, J) b post px else ip_WP 72 18 [some (.ref x0), some (.int x1), some (.int x2), some (.int x3)] [] (G, F, I, J) b post px := ip_s_if_eq f72_15 rfl
theorem f72_18 : ip_fetch 72 18 = some (.iinc 2 1, 3) := by decide +kernel
theorem s72_18 {x0 : Nat} {x1 : Int32} {x2 : Int32} {x3 : Int32} : ip_WP 72 18 [some (.ref x0), some (.int x1), some (.int x2), some (.int x3)] [] (G, F, I, J) b post px ↔ ip_WP 72 21 [some (.ref x0), some (.int x1), some (.int (x2 + 1)), some (.int x3)] [] (G, F, I, J) b post px := ip_s_iinc f72_18 rfl (by decide)
theorem f72_21 : ip_fetch 72 21 = some (.goto (-12), 3) := by decide +kernel
theorem s72_21 {x0 : Nat} {x1 : Int32} {x2 : Int32} {x3 : Int32} : ip_WP 72 21 [some (.ref x0), some (.int x1), some (.int x2), some (.int x3)] [] (G, F, I, J) b post px ↔ ip_WP 72 9 [some (.ref x0), some (.int x1), some (.int x2), some (.int x3)] [] (G, F, I, J) b post px := ip_nx_iff ((ip_st_of f72_21).trans rfl)
theorem f72_24 : ip_fetch 72 24 = some (.iinc 2 1, 3) := by decide +kernel
theorem s72_24 {x0 : Nat} {x1 : Int32} {x2 : Int32} {x3 : Int32} : ip_WP 72 24 [some (.ref x0), some (.int x1), some (.int x2), some (.int x3)] [] (G, F, I, J) b post px ↔ ip_WP 72 27 [some (.ref x0), some (.int x1), some (.int (x2 + 1)), some (.int x3)] [] (G, F, I, J) b post px := ip_s_iinc f72_24 rfl (by decide)
theorem f72_27 : ip_fetch 72 27 = some (.iinc 3 1, 3) := by decide +kernel
theorem s72_27 {x0 : Nat} {x1 : Int32} {x2 : Int32} {x3 : Int32} : ip_WP 72 27 [some (.ref x0), some (.int x1), some (.int x2), some (.int x3)] [] (G, F, I, J) b post px ↔ ip_WP 72 30 [some (.ref x0), some (.int x1), some (.int x2), some (.int (x3 + 1))] [] (G, F, I, J) b post px := ip_s_iinc f72_27 rfl (by decide)
theorem f72_30 : ip_fetch 72 30 = some (.goto (-26), 3) := by decide +kernel
theorem s72_30 {x0 : Nat} {x1 : Int32} {x2 : Int32} {x3 : Int32} : ip_WP 72 30 [some (.ref x0), some (.int x1), some (.int x2), some (.int x3)] [] (G, F, I, J) b post px ↔ ip_WP 72 4 [some (.ref x0), some (.int x1), some (.int x2), some (.int x3)] [] (G, F, I, J) b post px := ip_nx_iff ((ip_st_of f72_30).trans rfl)
theorem f72_33 : ip_fetch 72 33 = some (.iload_n 2, 1) := by decide +kernel
theorem s72_33 {x0 : Nat} {x1 : Int32} {x2 : Int32} {x3 : Int32} : ip_WP 72 33 [some (.ref x0), some (.int x1), some (.int x2), some (.int x3)] [] (G, F, I, J) b post px ↔ ip_WP 72 34 [some (.ref x0), some (.int x1), some (.int x2), some (.int x3)] [.int x2] (G, F, I, J) b post px := ip_nx_iff ((ip_st_of f72_33).trans rfl)
theorem f72_34 : ip_fetch 72 34 = some (.istore_n 3, 1) := by decide +kernel
theorem s72_34 {x0 : Nat} {x1 : Int32} {x2 : Int32} {x3 : Int32} {s0 : Int32} : ip_WP 72 34 [some (.ref x0), some (.int x1), some (.int x2), some (.int x3)] [.int s0] (G, F, I, J) b post px ↔ ip_WP 72 35 [some (.ref x0), some (.int x1), some (.int x2), some (.int s0)] [] (G, F, I, J) b post px := ip_nx_iff ((ip_st_of f72_34).trans rfl)
theorem f72_35 : ip_fetch 72 35 = some (.aload_n 0, 1) := by decide +kernel
theorem s72_35 {x0 : Nat} {x1 : Int32} {x2 : Int32} {x3 : Int32} : ip_WP 72 35 [some (.ref x0), some (.int x1), some (.int x2), some (.int x3)] [] (G, F, I, J) b post px ↔ ip_WP 72 36 [some (.ref x0), some (.int x1), some (.int x2), some (.int x3)] [.ref x0] (G, F, I, J) b post px := ip_nx_iff ((ip_st_of f72_35).trans rfl)
theorem f72_36 : ip_fetch 72 36 = some (.getfield 7, 3) := by decide +kernel
set_option maxRecDepth 100000 in
theorem s72_36 {x0 : Nat} {x1 : Int32} {x2 : Int32} {x3 : Int32} {s0 : Nat} : ip_WP 72 36 [some (.ref x0), some (.int x1), some (.int x2), some (.int x3)] [.ref s0] (G, F, I, J) b post px ↔ (ip_isO G s0 1 = true ∧ ip_WP 72 39 [some (.ref x0), some (.int x1), some (.int x2), some (.int x3)] [F s0 0] (G, F, I, J) b post px) := ip_s_getf f72_36 (by decide +kernel)
theorem f72_39 : ip_fetch 72 39 = some (.iload_n 3, 1) := by decide +kernel
theorem s72_39 {x0 : Nat} {x1 : Int32} {x2 : Int32} {x3 : Int32} {s0 : Nat} : ip_WP 72 39 [some (.ref x0), some (.int x1), some (.int x2), some (.int x3)] [.ref s0] (G, F, I, J) b post px ↔ ip_WP 72 40 [some (.ref x0), some (.int x1), some (.int x2), some (.int x3)] [.int x3, .ref s0] (G, F, I, J) b post px := ip_nx_iff ((ip_st_of f72_39).trans rfl)
theorem f72_40 : ip_fetch 72 40 = some (.iaload, 1) := by decide +kernel
theorem s72_40 {x0 : Nat} {x1 : Int32} {x2 : Int32} {x3 : Int32} {s0 : Nat} {s1 : Int32} : ip_WP 72 40 [some (.ref x0), some (.int x1), some (.int x2), some (.int x3)] [.int s1, .ref s0] (G, F, I, J) b post px ↔ (ip_inA G s0 0 s1 = true ∧ ip_WP 72 41 [some (.ref x0), some (.int x1), some (.int x2), some (.int x3)] [.int (I s0 s1.toNatClampNeg)] (G, F, I, J) b post px) := ip_ck_iff ((ip_st_of f72_40).trans rfl) ip_nx_iff
theorem f72_41 : ip_fetch 72 41 = some (.ifCond .eq 19, 3) := by decide +kernel
theorem s72_41 {x0 : Nat} {x1 : Int32} {x2 : Int32} {x3 : Int32} {s0 : Int32} : ip_WP 72 41 [some (.ref x0), some (.int x1), some (.int x2), some (.int x3)] [.int s0] (G, F, I, J) b post px ↔ if s0 = 0 then ip_WP 72 60 [some (.ref x0), some (.int x1), some (.int x2), some (.int x3)] [] (G, F, I, J) b post px else ip_WP 72 44 [some (.ref x0), some (.int x1), some (.int x2), some (.int x3)] [] (G, F, I, J) b post px := ip_s_if_eq f72_41 rfl
theorem f72_44 : ip_fetch 72 44 = some (.aload_n 0, 1) := by decide +kernel
theorem s72_44 {x0 : Nat} {x1 : Int32} {x2 : Int32} {x3 : Int32} : ip_WP 72 44 [some (.ref x0), some (.int x1), some (.int x2), some (.int x3)] [] (G, F, I, J) b post px ↔ ip_WP 72 45 [some (.ref x0), some (.int x1), some (.int x2), some (.int x3)] [.ref x0] (G, F, I, J) b post px := ip_nx_iff ((ip_st_of f72_44).trans rfl)
theorem f72_45 : ip_fetch 72 45 = some (.aload_n 0, 1) := by decide +kernel
theorem s72_45 {x0 : Nat} {x1 : Int32} {x2 : Int32} {x3 : Int32} {s0 : Nat} : ip_WP 72 45 [some (.ref x0), some (.int x1), some (.int x2), some (.int x3)] [.ref s0] (G, F, I, J) b post px ↔ ip_WP 72 46 [some (.ref x0), some (.int x1), some (.int x2), some (.int x3)] [.ref x0, .ref s0] (G, F, I, J) b post px := ip_nx_iff ((ip_st_of f72_45).trans rfl)
theorem f72_46 : ip_fetch 72 46 = some (.getfield 7, 3) := by decide +kernel
set_option maxRecDepth 100000 in
theorem s72_46 {x0 : Nat} {x1 : Int32} {x2 : Int32} {x3 : Int32} {s0 : Nat} {s1 : Nat} : ip_WP 72 46 [some (.ref x0), some (.int x1), some (.int x2), some (.int x3)] [.ref s1, .ref s0] (G, F, I, J) b post px ↔ (ip_isO G s1 1 = true ∧ ip_WP 72 49 [some (.ref x0), some (.int x1), some (.int x2), some (.int x3)] [F s1 0, .ref s0] (G, F, I, J) b post px) := ip_s_getf f72_46 (by decide +kernel)
theorem f72_49 : ip_fetch 72 49 = some (.iload_n 3, 1) := by decide +kernel
theorem s72_49 {x0 : Nat} {x1 : Int32} {x2 : Int32} {x3 : Int32} {s0 : Nat} {s1 : Nat} : ip_WP 72 49 [some (.ref x0), some (.int x1), some (.int x2), some (.int x3)] [.ref s1, .ref s0] (G, F, I, J) b post px ↔ ip_WP 72 50 [some (.ref x0), some (.int x1), some (.int x2), some (.int x3)] [.int x3, .ref s1, .ref s0] (G, F, I, J) b post px := ip_nx_iff ((ip_st_of f72_49).trans rfl)
theorem f72_50 : ip_fetch 72 50 = some (.iaload, 1) := by decide +kernel
theorem s72_50 {x0 : Nat} {x1 : Int32} {x2 : Int32} {x3 : Int32} {s0 : Nat} {s1 : Nat} {s2 : Int32} : ip_WP 72 50 [some (.ref x0), some (.int x1), some (.int x2), some (.int x3)] [.int s2, .ref s1, .ref s0] (G, F, I, J) b post px ↔ (ip_inA G s1 0 s2 = true ∧ ip_WP 72 51 [some (.ref x0), some (.int x1), some (.int x2), some (.int x3)] [.int (I s1 s2.toNatClampNeg), .ref s0] (G, F, I, J) b post px) := ip_ck_iff ((ip_st_of f72_50).trans rfl) ip_nx_iff
theorem f72_51 : ip_fetch 72 51 = some (.invokevirtual 253, 3) := by decide +kernel
set_option maxRecDepth 100000 in
theorem s72_51 {x0 : Nat} {x1 : Int32} {x2 : Int32} {x3 : Int32} {s0 : Nat} {s1 : Int32} : ip_WP 72 51 [some (.ref x0), some (.int x1), some (.int x2), some (.int x3)] [.int s1, .ref s0] (G, F, I, J) b post px ↔ (ip_isO G s0 1 = true ∧ ip_WP 71 0 [some (.ref s0), some (.int s1)] [] (G, F, I, J) (0, 0) (fun r h' => ip_WP 72 54 [some (.ref x0), some (.int x1), some (.int x2), some (.int x3)] (r.toList ++ []) h' b post px) (fun _ _ => False)) := ip_ck_iff (x := ip_cl 71 [some (.ref s0), some (.int s1)] [] (0, 0) b) ((ip_st_of f72_51).trans rfl) (ip_cl_iff)
theorem f72_54 : ip_fetch 72 54 = some (.iinc 3 1, 3) := by decide +kernel
theorem s72_54 {x0 : Nat} {x1 : Int32} {x2 : Int32} {x3 : Int32} : ip_WP 72 54 [some (.ref x0), some (.int x1), some (.int x2), some (.int x3)] [] (G, F, I, J) b post px ↔ ip_WP 72 57 [some (.ref x0), some (.int x1), some (.int x2), some (.int (x3 + 1))] [] (G, F, I, J) b post px := ip_s_iinc f72_54 rfl (by decide)
theorem f72_57 : ip_fetch 72 57 = some (.goto (-22), 3) := by decide +kernel
theorem s72_57 {x0 : Nat} {x1 : Int32} {x2 : Int32} {x3 : Int32} : ip_WP 72 57 [some (.ref x0), some (.int x1), some (.int x2), some (.int x3)] [] (G, F, I, J) b post px ↔ ip_WP 72 35 [some (.ref x0), some (.int x1), some (.int x2), some (.int x3)] [] (G, F, I, J) b post px := ip_nx_iff ((ip_st_of f72_57).trans rfl)
theorem f72_60 : ip_fetch 72 60 = some (.aload_n 0, 1) := by decide +kernel
theorem s72_60 {x0 : Nat} {x1 : Int32} {x2 : Int32} {x3 : Int32} : ip_WP 72 60 [some (.ref x0), some (.int x1), some (.int x2), some (.int x3)] [] (G, F, I, J) b post px ↔ ip_WP 72 61 [some (.ref x0), some (.int x1), some (.int x2), some (.int x3)] [.ref x0] (G, F, I, J) b post px := ip_nx_iff ((ip_st_of f72_60).trans rfl)
theorem f72_61 : ip_fetch 72 61 = some (.bipush 32, 2) := by decide +kernel
theorem s72_61 {x0 : Nat} {x1 : Int32} {x2 : Int32} {x3 : Int32} {s0 : Nat} : ip_WP 72 61 [some (.ref x0), some (.int x1), some (.int x2), some (.int x3)] [.ref s0] (G, F, I, J) b post px ↔ ip_WP 72 63 [some (.ref x0), some (.int x1), some (.int x2), some (.int x3)] [.int 32, .ref s0] (G, F, I, J) b post px := ip_s_bipush f72_61 (by decide)
theorem f72_63 : ip_fetch 72 63 = some (.invokevirtual 253, 3) := by decide +kernel
set_option maxRecDepth 100000 in
theorem s72_63 {x0 : Nat} {x1 : Int32} {x2 : Int32} {x3 : Int32} {s0 : Nat} {s1 : Int32} : ip_WP 72 63 [some (.ref x0), some (.int x1), some (.int x2), some (.int x3)] [.int s1, .ref s0] (G, F, I, J) b post px ↔ (ip_isO G s0 1 = true ∧ ip_WP 71 0 [some (.ref s0), some (.int s1)] [] (G, F, I, J) (0, 0) (fun r h' => ip_WP 72 66 [some (.ref x0), some (.int x1), some (.int x2), some (.int x3)] (r.toList ++ []) h' b post px) (fun _ _ => False)) := ip_ck_iff (x := ip_cl 71 [some (.ref s0), some (.int s1)] [] (0, 0) b) ((ip_st_of f72_63).trans rfl) (ip_cl_iff)
theorem f72_66 : ip_fetch 72 66 = some (.return_, 1) := by decide +kernel
theorem s72_66 {x0 : Nat} {x1 : Int32} {x2 : Int32} {x3 : Int32} : ip_WP 72 66 [some (.ref x0), some (.int x1), some (.int x2), some (.int x3)] [] (G, F, I, J) b post px ↔ post none (G, F, I, J) := ip_rt_iff ((ip_st_of f72_66).trans rfl)
theorem f73_0 : ip_fetch 73 0 = some (.aload_n 0, 1) := by decide +kernel
theorem s73_0 {x0 : Nat} {x1 : Int32} {x2 : Int32} {x3 : Option Value} {x4 : Option Value} : ip_WP 73 0 [some (.ref x0), some (.int x1), some (.int x2), x3, x4] [] (G, F, I, J) b post px ↔ ip_WP 73 1 [some (.ref x0), some (.int x1), some (.int x2), x3, x4] [.ref x0] (G, F, I, J) b post px := ip_nx_iff ((ip_st_of f73_0).trans rfl)
theorem f73_1 : ip_fetch 73 1 = some (.getfield 37, 3) := by decide +kernel
set_option maxRecDepth 100000 in
theorem s73_1 {x0 : Nat} {x1 : Int32} {x2 : Int32} {x3 : Option Value} {x4 : Option Value} {s0 : Nat} : ip_WP 73 1 [some (.ref x0), some (.int x1), some (.int x2), x3, x4] [.ref s0] (G, F, I, J) b post px ↔ (ip_isO G s0 1 = true ∧ ip_WP 73 4 [some (.ref x0), some (.int x1), some (.int x2), x3, x4] [F s0 17] (G, F, I, J) b post px) := ip_s_getf f73_1 (by decide +kernel)
theorem f73_4 : ip_fetch 73 4 = some (.bipush 12, 2) := by decide +kernel
theorem s73_4 {x0 : Nat} {x1 : Int32} {x2 : Int32} {x3 : Option Value} {x4 : Option Value} {s0 : Nat} : ip_WP 73 4 [some (.ref x0), some (.int x1), some (.int x2), x3, x4] [.ref s0] (G, F, I, J) b post px ↔ ip_WP 73 6 [some (.ref x0), some (.int x1), some (.int x2), x3, x4] [.int 12, .ref s0] (G, F, I, J) b post px := ip_s_bipush f73_4 (by decide)
theorem f73_6 : ip_fetch 73 6 = some (.iload_n 1, 1) := by decide +kernel
theorem s73_6 {x0 : Nat} {x1 : Int32} {x2 : Int32} {x3 : Option Value} {x4 : Option Value} {s0 : Nat} {s1 : Int32} : ip_WP 73 6 [some (.ref x0), some (.int x1), some (.int x2), x3, x4] [.int s1, .ref s0] (G, F, I, J) b post px ↔ ip_WP 73 7 [some (.ref x0), some (.int x1), some (.int x2), x3, x4] [.int x1, .int s1, .ref s0] (G, F, I, J) b post px := ip_nx_iff ((ip_st_of f73_6).trans rfl)
theorem f73_7 : ip_fetch 73 7 = some (.imul, 1) := by decide +kernel
theorem s73_7 {x0 : Nat} {x1 : Int32} {x2 : Int32} {x3 : Option Value} {x4 : Option Value} {s0 : Nat} {s1 : Int32} {s2 : Int32} : ip_WP 73 7 [some (.ref x0), some (.int x1), some (.int x2), x3, x4] [.int s2, .int s1, .ref s0] (G, F, I, J) b post px ↔ ip_WP 73 8 [some (.ref x0), some (.int x1), some (.int x2), x3, x4] [.int (s1 * s2), .ref s0] (G, F, I, J) b post px := ip_nx_iff ((ip_st_of f73_7).trans rfl)
theorem f73_8 : ip_fetch 73 8 = some (.iload_n 2, 1) := by decide +kernel
theorem s73_8 {x0 : Nat} {x1 : Int32} {x2 : Int32} {x3 : Option Value} {x4 : Option Value} {s0 : Nat} {s1 : Int32} : ip_WP 73 8 [some (.ref x0), some (.int x1), some (.int x2), x3, x4] [.int s1, .ref s0] (G, F, I, J) b post px ↔ ip_WP 73 9 [some (.ref x0), some (.int x1), some (.int x2), x3, x4] [.int x2, .int s1, .ref s0] (G, F, I, J) b post px := ip_nx_iff ((ip_st_of f73_8).trans rfl)
theorem f73_9 : ip_fetch 73 9 = some (.iadd, 1) := by decide +kernel
theorem s73_9 {x0 : Nat} {x1 : Int32} {x2 : Int32} {x3 : Option Value} {x4 : Option Value} {s0 : Nat} {s1 : Int32} {s2 : Int32} : ip_WP 73 9 [some (.ref x0), some (.int x1), some (.int x2), x3, x4] [.int s2, .int s1, .ref s0] (G, F, I, J) b post px ↔ ip_WP 73 10 [some (.ref x0), some (.int x1), some (.int x2), x3, x4] [.int (s1 + s2), .ref s0] (G, F, I, J) b post px := ip_nx_iff ((ip_st_of f73_9).trans rfl)
theorem f73_10 : ip_fetch 73 10 = some (.iaload, 1) := by decide +kernel
theorem s73_10 {x0 : Nat} {x1 : Int32} {x2 : Int32} {x3 : Option Value} {x4 : Option Value} {s0 : Nat} {s1 : Int32} : ip_WP 73 10 [some (.ref x0), some (.int x1), some (.int x2), x3, x4] [.int s1, .ref s0] (G, F, I, J) b post px ↔ (ip_inA G s0 0 s1 = true ∧ ip_WP 73 11 [some (.ref x0), some (.int x1), some (.int x2), x3, x4] [.int (I s0 s1.toNatClampNeg)] (G, F, I, J) b post px) := ip_ck_iff ((ip_st_of f73_10).trans rfl) ip_nx_iff
theorem f73_11 : ip_fetch 73 11 = some (.istore_n 3, 1) := by decide +kernel
theorem s73_11 {x0 : Nat} {x1 : Int32} {x2 : Int32} {x3 : Option Value} {x4 : Option Value} {s0 : Int32} : ip_WP 73 11 [some (.ref x0), some (.int x1), some (.int x2), x3, x4] [.int s0] (G, F, I, J) b post px ↔ ip_WP 73 12 [some (.ref x0), some (.int x1), some (.int x2), some (.int s0), x4] [] (G, F, I, J) b post px := ip_nx_iff ((ip_st_of f73_11).trans rfl)
theorem f73_12 : ip_fetch 73 12 = some (.aload_n 0, 1) := by decide +kernel
theorem s73_12 {x0 : Nat} {x1 : Int32} {x2 : Int32} {x3 : Int32} {x4 : Option Value} : ip_WP 73 12 [some (.ref x0), some (.int x1), some (.int x2), some (.int x3), x4] [] (G, F, I, J) b post px ↔ ip_WP 73 13 [some (.ref x0), some (.int x1), some (.int x2), some (.int x3), x4] [.ref x0] (G, F, I, J) b post px := ip_nx_iff ((ip_st_of f73_12).trans rfl)
theorem f73_13 : ip_fetch 73 13 = some (.getfield 22, 3) := by decide +kernel
set_option maxRecDepth 100000 in
theorem s73_13 {x0 : Nat} {x1 : Int32} {x2 : Int32} {x3 : Int32} {x4 : Option Value} {s0 : Nat} : ip_WP 73 13 [some (.ref x0), some (.int x1), some (.int x2), some (.int x3), x4] [.ref s0] (G, F, I, J) b post px ↔ (ip_isO G s0 1 = true ∧ ip_WP 73 16 [some (.ref x0), some (.int x1), some (.int x2), some (.int x3), x4] [F s0 12] (G, F, I, J) b post px) := ip_s_getf f73_13 (by decide +kernel)
theorem f73_16 : ip_fetch 73 16 = some (.iload_n 3, 1) := by decide +kernel
theorem s73_16 {x0 : Nat} {x1 : Int32} {x2 : Int32} {x3 : Int32} {x4 : Option Value} {s0 : Nat} : ip_WP 73 16 [some (.ref x0), some (.int x1), some (.int x2), some (.int x3), x4] [.ref s0] (G, F, I, J) b post px ↔ ip_WP 73 17 [some (.ref x0), some (.int x1), some (.int x2), some (.int x3), x4] [.int x3, .ref s0] (G, F, I, J) b post px := ip_nx_iff ((ip_st_of f73_16).trans rfl)
theorem f73_17 : ip_fetch 73 17 = some (.iaload, 1) := by decide +kernel
theorem s73_17 {x0 : Nat} {x1 : Int32} {x2 : Int32} {x3 : Int32} {x4 : Option Value} {s0 : Nat} {s1 : Int32} : ip_WP 73 17 [some (.ref x0), some (.int x1), some (.int x2), some (.int x3), x4] [.int s1, .ref s0] (G, F, I, J) b post px ↔ (ip_inA G s0 0 s1 = true ∧ ip_WP 73 18 [some (.ref x0), some (.int x1), some (.int x2), some (.int x3), x4] [.int (I s0 s1.toNatClampNeg)] (G, F, I, J) b post px) := ip_ck_iff ((ip_st_of f73_17).trans rfl) ip_nx_iff
theorem f73_18 : ip_fetch 73 18 = some (.istore 4, 2) := by decide +kernel
theorem s73_18 {x0 : Nat} {x1 : Int32} {x2 : Int32} {x3 : Int32} {x4 : Option Value} {s0 : Int32} : ip_WP 73 18 [some (.ref x0), some (.int x1), some (.int x2), some (.int x3), x4] [.int s0] (G, F, I, J) b post px ↔ ip_WP 73 20 [some (.ref x0), some (.int x1), some (.int x2), some (.int x3), some (.int s0)] [] (G, F, I, J) b post px := ip_nx_iff ((ip_st_of f73_18).trans rfl)
theorem f73_20 : ip_fetch 73 20 = some (.iload 4, 2) := by decide +kernel
theorem s73_20 {x0 : Nat} {x1 : Int32} {x2 : Int32} {x3 : Int32} {x4 : Int32} : ip_WP 73 20 [some (.ref x0), some (.int x1), some (.int x2), some (.int x3), some (.int x4)] [] (G, F, I, J) b post px ↔ ip_WP 73 22 [some (.ref x0), some (.int x1), some (.int x2), some (.int x3), some (.int x4)] [.int x4] (G, F, I, J) b post px := ip_nx_iff ((ip_st_of f73_20).trans rfl)
theorem f73_22 : ip_fetch 73 22 = some (.aload_n 0, 1) := by decide +kernel
theorem s73_22 {x0 : Nat} {x1 : Int32} {x2 : Int32} {x3 : Int32} {x4 : Int32} {s0 : Int32} : ip_WP 73 22 [some (.ref x0), some (.int x1), some (.int x2), some (.int x3), some (.int x4)] [.int s0] (G, F, I, J) b post px ↔ ip_WP 73 23 [some (.ref x0), some (.int x1), some (.int x2), some (.int x3), some (.int x4)] [.ref x0, .int s0] (G, F, I, J) b post px := ip_nx_iff ((ip_st_of f73_22).trans rfl)
theorem f73_23 : ip_fetch 73 23 = some (.getfield 25, 3) := by decide +kernel
set_option maxRecDepth 100000 in
theorem s73_23 {x0 : Nat} {x1 : Int32} {x2 : Int32} {x3 : Int32} {x4 : Int32} {s0 : Int32} {s1 : Nat} : ip_WP 73 23 [some (.ref x0), some (.int x1), some (.int x2), some (.int x3), some (.int x4)] [.ref s1, .int s0] (G, F, I, J) b post px ↔ (ip_isO G s1 1 = true ∧ ip_WP 73 26 [some (.ref x0), some (.int x1), some (.int x2), some (.int x3), some (.int x4)] [F s1 13, .int s0] (G, F, I, J) b post px) := ip_s_getf f73_23 (by decide +kernel)
theorem f73_26 : ip_fetch 73 26 = some (.iload_n 3, 1) := by decide +kernel
theorem s73_26 {x0 : Nat} {x1 : Int32} {x2 : Int32} {x3 : Int32} {x4 : Int32} {s0 : Int32} {s1 : Nat} : ip_WP 73 26 [some (.ref x0), some (.int x1), some (.int x2), some (.int x3), some (.int x4)] [.ref s1, .int s0] (G, F, I, J) b post px ↔ ip_WP 73 27 [some (.ref x0), some (.int x1), some (.int x2), some (.int x3), some (.int x4)] [.int x3, .ref s1, .int s0] (G, F, I, J) b post px := ip_nx_iff ((ip_st_of f73_26).trans rfl)
theorem f73_27 : ip_fetch 73 27 = some (.iaload, 1) := by decide +kernel
theorem s73_27 {x0 : Nat} {x1 : Int32} {x2 : Int32} {x3 : Int32} {x4 : Int32} {s0 : Int32} {s1 : Nat} {s2 : Int32} : ip_WP 73 27 [some (.ref x0), some (.int x1), some (.int x2), some (.int x3), some (.int x4)] [.int s2, .ref s1, .int s0] (G, F, I, J) b post px ↔ (ip_inA G s1 0 s2 = true ∧ ip_WP 73 28 [some (.ref x0), some (.int x1), some (.int x2), some (.int x3), some (.int x4)] [.int (I s1 s2.toNatClampNeg), .int s0] (G, F, I, J) b post px) := ip_ck_iff ((ip_st_of f73_27).trans rfl) ip_nx_iff
theorem f73_28 : ip_fetch 73 28 = some (.if_icmp .ge 20, 3) := by decide +kernel
theorem s73_28 {x0 : Nat} {x1 : Int32} {x2 : Int32} {x3 : Int32} {x4 : Int32} {s0 : Int32} {s1 : Int32} : ip_WP 73 28 [some (.ref x0), some (.int x1), some (.int x2), some (.int x3), some (.int x4)] [.int s1, .int s0] (G, F, I, J) b post px ↔ if s1 ≤ s0 then ip_WP 73 48 [some (.ref x0), some (.int x1), some (.int x2), some (.int x3), some (.int x4)] [] (G, F, I, J) b post px else ip_WP 73 31 [some (.ref x0), some (.int x1), some (.int x2), some (.int x3), some (.int x4)] [] (G, F, I, J) b post px := ip_s_ic_ge f73_28 rfl
theorem f73_31 : ip_fetch 73 31 = some (.aload_n 0, 1) := by decide +kernel
theorem s73_31 {x0 : Nat} {x1 : Int32} {x2 : Int32} {x3 : Int32} {x4 : Int32} : ip_WP 73 31 [some (.ref x0), some (.int x1), some (.int x2), some (.int x3), some (.int x4)] [] (G, F, I, J) b post px ↔ ip_WP 73 32 [some (.ref x0), some (.int x1), some (.int x2), some (.int x3), some (.int x4)] [.ref x0] (G, F, I, J) b post px := ip_nx_iff ((ip_st_of f73_31).trans rfl)
theorem f73_32 : ip_fetch 73 32 = some (.aload_n 0, 1) := by decide +kernel
theorem s73_32 {x0 : Nat} {x1 : Int32} {x2 : Int32} {x3 : Int32} {x4 : Int32} {s0 : Nat} : ip_WP 73 32 [some (.ref x0), some (.int x1), some (.int x2), some (.int x3), some (.int x4)] [.ref s0] (G, F, I, J) b post px ↔ ip_WP 73 33 [some (.ref x0), some (.int x1), some (.int x2), some (.int x3), some (.int x4)] [.ref x0, .ref s0] (G, F, I, J) b post px := ip_nx_iff ((ip_st_of f73_32).trans rfl)
theorem f73_33 : ip_fetch 73 33 = some (.getfield 19, 3) := by decide +kernel
set_option maxRecDepth 100000 in
theorem s73_33 {x0 : Nat} {x1 : Int32} {x2 : Int32} {x3 : Int32} {x4 : Int32} {s0 : Nat} {s1 : Nat} : ip_WP 73 33 [some (.ref x0), some (.int x1), some (.int x2), some (.int x3), some (.int x4)] [.ref s1, .ref s0] (G, F, I, J) b post px ↔ (ip_isO G s1 1 = true ∧ ip_WP 73 36 [some (.ref x0), some (.int x1), some (.int x2), some (.int x3), some (.int x4)] [F s1 11, .ref s0] (G, F, I, J) b post px) := ip_s_getf f73_33 (by decide +kernel)
theorem f73_36 : ip_fetch 73 36 = some (.iload 4, 2) := by decide +kernel
theorem s73_36 {x0 : Nat} {x1 : Int32} {x2 : Int32} {x3 : Int32} {x4 : Int32} {s0 : Nat} {s1 : Nat} : ip_WP 73 36 [some (.ref x0), some (.int x1), some (.int x2), some (.int x3), some (.int x4)] [.ref s1, .ref s0] (G, F, I, J) b post px ↔ ip_WP 73 38 [some (.ref x0), some (.int x1), some (.int x2), some (.int x3), some (.int x4)] [.int x4, .ref s1, .ref s0] (G, F, I, J) b post px := ip_nx_iff ((ip_st_of f73_36).trans rfl)
theorem f73_38 : ip_fetch 73 38 = some (.iaload, 1) := by decide +kernel
theorem s73_38 {x0 : Nat} {x1 : Int32} {x2 : Int32} {x3 : Int32} {x4 : Int32} {s0 : Nat} {s1 : Nat} {s2 : Int32} : ip_WP 73 38 [some (.ref x0), some (.int x1), some (.int x2), some (.int x3), some (.int x4)] [.int s2, .ref s1, .ref s0] (G, F, I, J) b post px ↔ (ip_inA G s1 0 s2 = true ∧ ip_WP 73 39 [some (.ref x0), some (.int x1), some (.int x2), some (.int x3), some (.int x4)] [.int (I s1 s2.toNatClampNeg), .ref s0] (G, F, I, J) b post px) := ip_ck_iff ((ip_st_of f73_38).trans rfl) ip_nx_iff
theorem f73_39 : ip_fetch 73 39 = some (.invokevirtual 253, 3) := by decide +kernel
set_option maxRecDepth 100000 in
theorem s73_39 {x0 : Nat} {x1 : Int32} {x2 : Int32} {x3 : Int32} {x4 : Int32} {s0 : Nat} {s1 : Int32} : ip_WP 73 39 [some (.ref x0), some (.int x1), some (.int x2), some (.int x3), some (.int x4)] [.int s1, .ref s0] (G, F, I, J) b post px ↔ (ip_isO G s0 1 = true ∧ ip_WP 71 0 [some (.ref s0), some (.int s1)] [] (G, F, I, J) (0, 0) (fun r h' => ip_WP 73 42 [some (.ref x0), some (.int x1), some (.int x2), some (.int x3), some (.int x4)] (r.toList ++ []) h' b post px) (fun _ _ => False)) := ip_ck_iff (x := ip_cl 71 [some (.ref s0), some (.int s1)] [] (0, 0) b) ((ip_st_of f73_39).trans rfl) (ip_cl_iff)
theorem f73_42 : ip_fetch 73 42 = some (.iinc 4 1, 3) := by decide +kernel
theorem s73_42 {x0 : Nat} {x1 : Int32} {x2 : Int32} {x3 : Int32} {x4 : Int32} : ip_WP 73 42 [some (.ref x0), some (.int x1), some (.int x2), some (.int x3), some (.int x4)] [] (G, F, I, J) b post px ↔ ip_WP 73 45 [some (.ref x0), some (.int x1), some (.int x2), some (.int x3), some (.int (x4 + 1))] [] (G, F, I, J) b post px := ip_s_iinc f73_42 rfl (by decide)
theorem f73_45 : ip_fetch 73 45 = some (.goto (-25), 3) := by decide +kernel
theorem s73_45 {x0 : Nat} {x1 : Int32} {x2 : Int32} {x3 : Int32} {x4 : Int32} : ip_WP 73 45 [some (.ref x0), some (.int x1), some (.int x2), some (.int x3), some (.int x4)] [] (G, F, I, J) b post px ↔ ip_WP 73 20 [some (.ref x0), some (.int x1), some (.int x2), some (.int x3), some (.int x4)] [] (G, F, I, J) b post px := ip_nx_iff ((ip_st_of f73_45).trans rfl)
theorem f73_48 : ip_fetch 73 48 = some (.return_, 1) := by decide +kernel
theorem s73_48 {x0 : Nat} {x1 : Int32} {x2 : Int32} {x3 : Int32} {x4 : Int32} : ip_WP 73 48 [some (.ref x0), some (.int x1), some (.int x2), some (.int x3), some (.int x4)] [] (G, F, I, J) b post px ↔ post none (G, F, I, J) := ip_rt_iff ((ip_st_of f73_48).trans rfl)
theorem f74_0 : ip_fetch 74 0 = some (.aload_n 0, 1) := by decide +kernel
theorem s74_0 {x0 : Nat} {x1 : Int32} : ip_WP 74 0 [some (.ref x0), some (.int x1)] [] (G, F, I, J) b post px ↔ ip_WP 74 1 [some (.ref x0), some (.int x1)] [.ref x0] (G, F, I, J) b post px := ip_nx_iff ((ip_st_of f74_0).trans rfl)
theorem f74_1 : ip_fetch 74 1 = some (.bipush 32, 2) := by decide +kernel
theorem s74_1 {x0 : Nat} {x1 : Int32} {s0 : Nat} : ip_WP 74 1 [some (.ref x0), some (.int x1)] [.ref s0] (G, F, I, J) b post px ↔ ip_WP 74 3 [some (.ref x0), some (.int x1)] [.int 32, .ref s0] (G, F, I, J) b post px := ip_s_bipush f74_1 (by decide)
theorem f74_3 : ip_fetch 74 3 = some (.invokevirtual 253, 3) := by decide +kernel
set_option maxRecDepth 100000 in
theorem s74_3 {x0 : Nat} {x1 : Int32} {s0 : Nat} {s1 : Int32} : ip_WP 74 3 [some (.ref x0), some (.int x1)] [.int s1, .ref s0] (G, F, I, J) b post px ↔ (ip_isO G s0 1 = true ∧ ip_WP 71 0 [some (.ref s0), some (.int s1)] [] (G, F, I, J) (0, 0) (fun r h' => ip_WP 74 6 [some (.ref x0), some (.int x1)] (r.toList ++ []) h' b post px) (fun _ _ => False)) := ip_ck_iff (x := ip_cl 71 [some (.ref s0), some (.int s1)] [] (0, 0) b) ((ip_st_of f74_3).trans rfl) (ip_cl_iff)
theorem f74_6 : ip_fetch 74 6 = some (.aload_n 0, 1) := by decide +kernel
theorem s74_6 {x0 : Nat} {x1 : Int32} : ip_WP 74 6 [some (.ref x0), some (.int x1)] [] (G, F, I, J) b post px ↔ ip_WP 74 7 [some (.ref x0), some (.int x1)] [.ref x0] (G, F, I, J) b post px := ip_nx_iff ((ip_st_of f74_6).trans rfl)
theorem f74_7 : ip_fetch 74 7 = some (.iload_n 1, 1) := by decide +kernel
theorem s74_7 {x0 : Nat} {x1 : Int32} {s0 : Nat} : ip_WP 74 7 [some (.ref x0), some (.int x1)] [.ref s0] (G, F, I, J) b post px ↔ ip_WP 74 8 [some (.ref x0), some (.int x1)] [.int x1, .ref s0] (G, F, I, J) b post px := ip_nx_iff ((ip_st_of f74_7).trans rfl)
theorem f74_8 : ip_fetch 74 8 = some (.invokevirtual 253, 3) := by decide +kernel
set_option maxRecDepth 100000 in
theorem s74_8 {x0 : Nat} {x1 : Int32} {s0 : Nat} {s1 : Int32} : ip_WP 74 8 [some (.ref x0), some (.int x1)] [.int s1, .ref s0] (G, F, I, J) b post px ↔ (ip_isO G s0 1 = true ∧ ip_WP 71 0 [some (.ref s0), some (.int s1)] [] (G, F, I, J) (0, 0) (fun r h' => ip_WP 74 11 [some (.ref x0), some (.int x1)] (r.toList ++ []) h' b post px) (fun _ _ => False)) := ip_ck_iff (x := ip_cl 71 [some (.ref s0), some (.int s1)] [] (0, 0) b) ((ip_st_of f74_8).trans rfl) (ip_cl_iff)
theorem f74_11 : ip_fetch 74 11 = some (.aload_n 0, 1) := by decide +kernel
theorem s74_11 {x0 : Nat} {x1 : Int32} : ip_WP 74 11 [some (.ref x0), some (.int x1)] [] (G, F, I, J) b post px ↔ ip_WP 74 12 [some (.ref x0), some (.int x1)] [.ref x0] (G, F, I, J) b post px := ip_nx_iff ((ip_st_of f74_11).trans rfl)
theorem f74_12 : ip_fetch 74 12 = some (.bipush 32, 2) := by decide +kernel
theorem s74_12 {x0 : Nat} {x1 : Int32} {s0 : Nat} : ip_WP 74 12 [some (.ref x0), some (.int x1)] [.ref s0] (G, F, I, J) b post px ↔ ip_WP 74 14 [some (.ref x0), some (.int x1)] [.int 32, .ref s0] (G, F, I, J) b post px := ip_s_bipush f74_12 (by decide)
theorem f74_14 : ip_fetch 74 14 = some (.invokevirtual 253, 3) := by decide +kernel
set_option maxRecDepth 100000 in
theorem s74_14 {x0 : Nat} {x1 : Int32} {s0 : Nat} {s1 : Int32} : ip_WP 74 14 [some (.ref x0), some (.int x1)] [.int s1, .ref s0] (G, F, I, J) b post px ↔ (ip_isO G s0 1 = true ∧ ip_WP 71 0 [some (.ref s0), some (.int s1)] [] (G, F, I, J) (0, 0) (fun r h' => ip_WP 74 17 [some (.ref x0), some (.int x1)] (r.toList ++ []) h' b post px) (fun _ _ => False)) := ip_ck_iff (x := ip_cl 71 [some (.ref s0), some (.int s1)] [] (0, 0) b) ((ip_st_of f74_14).trans rfl) (ip_cl_iff)
theorem f74_17 : ip_fetch 74 17 = some (.return_, 1) := by decide +kernel
theorem s74_17 {x0 : Nat} {x1 : Int32} : ip_WP 74 17 [some (.ref x0), some (.int x1)] [] (G, F, I, J) b post px ↔ post none (G, F, I, J) := ip_rt_iff ((ip_st_of f74_17).trans rfl)
theorem f75_0 : ip_fetch 75 0 = some (.iload_n 1, 1) := by decide +kernel
theorem s75_0 {x0 : Nat} {x1 : Int32} : ip_WP 75 0 [some (.ref x0), some (.int x1)] [] (G, F, I, J) b post px ↔ ip_WP 75 1 [some (.ref x0), some (.int x1)] [.int x1] (G, F, I, J) b post px := ip_nx_iff ((ip_st_of f75_0).trans rfl)
theorem f75_1 : ip_fetch 75 1 = some (.ifCond .eq 4, 3) := by decide +kernel
theorem s75_1 {x0 : Nat} {x1 : Int32} {s0 : Int32} : ip_WP 75 1 [some (.ref x0), some (.int x1)] [.int s0] (G, F, I, J) b post px ↔ if s0 = 0 then ip_WP 75 5 [some (.ref x0), some (.int x1)] [] (G, F, I, J) b post px else ip_WP 75 4 [some (.ref x0), some (.int x1)] [] (G, F, I, J) b post px := ip_s_if_eq f75_1 rfl
theorem f75_4 : ip_fetch 75 4 = some (.return_, 1) := by decide +kernel
theorem s75_4 {x0 : Nat} {x1 : Int32} : ip_WP 75 4 [some (.ref x0), some (.int x1)] [] (G, F, I, J) b post px ↔ post none (G, F, I, J) := ip_rt_iff ((ip_st_of f75_4).trans rfl)
theorem f75_5 : ip_fetch 75 5 = some (.aload_n 0, 1) := by decide +kernel
theorem s75_5 {x0 : Nat} {x1 : Int32} : ip_WP 75 5 [some (.ref x0), some (.int x1)] [] (G, F, I, J) b post px ↔ ip_WP 75 6 [some (.ref x0), some (.int x1)] [.ref x0] (G, F, I, J) b post px := ip_nx_iff ((ip_st_of f75_5).trans rfl)
theorem f75_6 : ip_fetch 75 6 = some (.bipush 44, 2) := by decide +kernel
theorem s75_6 {x0 : Nat} {x1 : Int32} {s0 : Nat} : ip_WP 75 6 [some (.ref x0), some (.int x1)] [.ref s0] (G, F, I, J) b post px ↔ ip_WP 75 8 [some (.ref x0), some (.int x1)] [.int 44, .ref s0] (G, F, I, J) b post px := ip_s_bipush f75_6 (by decide)
theorem f75_8 : ip_fetch 75 8 = some (.invokevirtual 253, 3) := by decide +kernel
set_option maxRecDepth 100000 in
theorem s75_8 {x0 : Nat} {x1 : Int32} {s0 : Nat} {s1 : Int32} : ip_WP 75 8 [some (.ref x0), some (.int x1)] [.int s1, .ref s0] (G, F, I, J) b post px ↔ (ip_isO G s0 1 = true ∧ ip_WP 71 0 [some (.ref s0), some (.int s1)] [] (G, F, I, J) (0, 0) (fun r h' => ip_WP 75 11 [some (.ref x0), some (.int x1)] (r.toList ++ []) h' b post px) (fun _ _ => False)) := ip_ck_iff (x := ip_cl 71 [some (.ref s0), some (.int s1)] [] (0, 0) b) ((ip_st_of f75_8).trans rfl) (ip_cl_iff)
theorem f75_11 : ip_fetch 75 11 = some (.aload_n 0, 1) := by decide +kernel
theorem s75_11 {x0 : Nat} {x1 : Int32} : ip_WP 75 11 [some (.ref x0), some (.int x1)] [] (G, F, I, J) b post px ↔ ip_WP 75 12 [some (.ref x0), some (.int x1)] [.ref x0] (G, F, I, J) b post px := ip_nx_iff ((ip_st_of f75_11).trans rfl)
theorem f75_12 : ip_fetch 75 12 = some (.bipush 32, 2) := by decide +kernel
theorem s75_12 {x0 : Nat} {x1 : Int32} {s0 : Nat} : ip_WP 75 12 [some (.ref x0), some (.int x1)] [.ref s0] (G, F, I, J) b post px ↔ ip_WP 75 14 [some (.ref x0), some (.int x1)] [.int 32, .ref s0] (G, F, I, J) b post px := ip_s_bipush f75_12 (by decide)
theorem f75_14 : ip_fetch 75 14 = some (.invokevirtual 253, 3) := by decide +kernel
set_option maxRecDepth 100000 in
theorem s75_14 {x0 : Nat} {x1 : Int32} {s0 : Nat} {s1 : Int32} : ip_WP 75 14 [some (.ref x0), some (.int x1)] [.int s1, .ref s0] (G, F, I, J) b post px ↔ (ip_isO G s0 1 = true ∧ ip_WP 71 0 [some (.ref s0), some (.int s1)] [] (G, F, I, J) (0, 0) (fun r h' => ip_WP 75 17 [some (.ref x0), some (.int x1)] (r.toList ++ []) h' b post px) (fun _ _ => False)) := ip_ck_iff (x := ip_cl 71 [some (.ref s0), some (.int s1)] [] (0, 0) b) ((ip_st_of f75_14).trans rfl) (ip_cl_iff)
theorem f75_17 : ip_fetch 75 17 = some (.return_, 1) := by decide +kernel
theorem s75_17 {x0 : Nat} {x1 : Int32} : ip_WP 75 17 [some (.ref x0), some (.int x1)] [] (G, F, I, J) b post px ↔ post none (G, F, I, J) := ip_rt_iff ((ip_st_of f75_17).trans rfl)
theorem f76_0 : ip_fetch 76 0 = some (.iload_n 1, 1) := by decide +kernel
theorem s76_0 {x0 : Nat} {x1 : Int32} : ip_WP 76 0 [some (.ref x0), some (.int x1)] [] (G, F, I, J) b post px ↔ ip_WP 76 1 [some (.ref x0), some (.int x1)] [.int x1] (G, F, I, J) b post px := ip_nx_iff ((ip_st_of f76_0).trans rfl)
theorem f76_1 : ip_fetch 76 1 = some (.bipush 99, 2) := by decide +kernel
theorem s76_1 {x0 : Nat} {x1 : Int32} {s0 : Int32} : ip_WP 76 1 [some (.ref x0), some (.int x1)] [.int s0] (G, F, I, J) b post px ↔ ip_WP 76 3 [some (.ref x0), some (.int x1)] [.int 99, .int s0] (G, F, I, J) b post px := ip_s_bipush f76_1 (by decide)
theorem f76_3 : ip_fetch 76 3 = some (.if_icmp .le 14, 3) := by decide +kernel
theorem s76_3 {x0 : Nat} {x1 : Int32} {s0 : Int32} {s1 : Int32} : ip_WP 76 3 [some (.ref x0), some (.int x1)] [.int s1, .int s0] (G, F, I, J) b post px ↔ if s0 ≤ s1 then ip_WP 76 17 [some (.ref x0), some (.int x1)] [] (G, F, I, J) b post px else ip_WP 76 6 [some (.ref x0), some (.int x1)] [] (G, F, I, J) b post px := ip_s_ic_le f76_3 rfl
theorem f76_6 : ip_fetch 76 6 = some (.aload_n 0, 1) := by decide +kernel
theorem s76_6 {x0 : Nat} {x1 : Int32} : ip_WP 76 6 [some (.ref x0), some (.int x1)] [] (G, F, I, J) b post px ↔ ip_WP 76 7 [some (.ref x0), some (.int x1)] [.ref x0] (G, F, I, J) b post px := ip_nx_iff ((ip_st_of f76_6).trans rfl)
theorem f76_7 : ip_fetch 76 7 = some (.bipush 48, 2) := by decide +kernel
theorem s76_7 {x0 : Nat} {x1 : Int32} {s0 : Nat} : ip_WP 76 7 [some (.ref x0), some (.int x1)] [.ref s0] (G, F, I, J) b post px ↔ ip_WP 76 9 [some (.ref x0), some (.int x1)] [.int 48, .ref s0] (G, F, I, J) b post px := ip_s_bipush f76_7 (by decide)
theorem f76_9 : ip_fetch 76 9 = some (.iload_n 1, 1) := by decide +kernel
theorem s76_9 {x0 : Nat} {x1 : Int32} {s0 : Nat} {s1 : Int32} : ip_WP 76 9 [some (.ref x0), some (.int x1)] [.int s1, .ref s0] (G, F, I, J) b post px ↔ ip_WP 76 10 [some (.ref x0), some (.int x1)] [.int x1, .int s1, .ref s0] (G, F, I, J) b post px := ip_nx_iff ((ip_st_of f76_9).trans rfl)
theorem f76_10 : ip_fetch 76 10 = some (.bipush 100, 2) := by decide +kernel
theorem s76_10 {x0 : Nat} {x1 : Int32} {s0 : Nat} {s1 : Int32} {s2 : Int32} : ip_WP 76 10 [some (.ref x0), some (.int x1)] [.int s2, .int s1, .ref s0] (G, F, I, J) b post px ↔ ip_WP 76 12 [some (.ref x0), some (.int x1)] [.int 100, .int s2, .int s1, .ref s0] (G, F, I, J) b post px := ip_s_bipush f76_10 (by decide)
theorem f76_12 : ip_fetch 76 12 = some (.idiv, 1) := by decide +kernel
theorem s76_12 {x0 : Nat} {x1 : Int32} {s0 : Nat} {s1 : Int32} {s2 : Int32} {s3 : Int32} : ip_WP 76 12 [some (.ref x0), some (.int x1)] [.int s3, .int s2, .int s1, .ref s0] (G, F, I, J) b post px ↔ (¬ s3 = 0 ∧ ip_WP 76 13 [some (.ref x0), some (.int x1)] [.int (s2 / s3), .int s1, .ref s0] (G, F, I, J) b post px) := ip_s_div ((ip_st_of f76_12).trans rfl)
theorem f76_13 : ip_fetch 76 13 = some (.iadd, 1) := by decide +kernel
theorem s76_13 {x0 : Nat} {x1 : Int32} {s0 : Nat} {s1 : Int32} {s2 : Int32} : ip_WP 76 13 [some (.ref x0), some (.int x1)] [.int s2, .int s1, .ref s0] (G, F, I, J) b post px ↔ ip_WP 76 14 [some (.ref x0), some (.int x1)] [.int (s1 + s2), .ref s0] (G, F, I, J) b post px := ip_nx_iff ((ip_st_of f76_13).trans rfl)
theorem f76_14 : ip_fetch 76 14 = some (.invokevirtual 253, 3) := by decide +kernel
set_option maxRecDepth 100000 in
theorem s76_14 {x0 : Nat} {x1 : Int32} {s0 : Nat} {s1 : Int32} : ip_WP 76 14 [some (.ref x0), some (.int x1)] [.int s1, .ref s0] (G, F, I, J) b post px ↔ (ip_isO G s0 1 = true ∧ ip_WP 71 0 [some (.ref s0), some (.int s1)] [] (G, F, I, J) (0, 0) (fun r h' => ip_WP 76 17 [some (.ref x0), some (.int x1)] (r.toList ++ []) h' b post px) (fun _ _ => False)) := ip_ck_iff (x := ip_cl 71 [some (.ref s0), some (.int s1)] [] (0, 0) b) ((ip_st_of f76_14).trans rfl) (ip_cl_iff)
theorem f76_17 : ip_fetch 76 17 = some (.iload_n 1, 1) := by decide +kernel
theorem s76_17 {x0 : Nat} {x1 : Int32} : ip_WP 76 17 [some (.ref x0), some (.int x1)] [] (G, F, I, J) b post px ↔ ip_WP 76 18 [some (.ref x0), some (.int x1)] [.int x1] (G, F, I, J) b post px := ip_nx_iff ((ip_st_of f76_17).trans rfl)
theorem f76_18 : ip_fetch 76 18 = some (.bipush 9, 2) := by decide +kernel
theorem s76_18 {x0 : Nat} {x1 : Int32} {s0 : Int32} : ip_WP 76 18 [some (.ref x0), some (.int x1)] [.int s0] (G, F, I, J) b post px ↔ ip_WP 76 20 [some (.ref x0), some (.int x1)] [.int 9, .int s0] (G, F, I, J) b post px := ip_s_bipush f76_18 (by decide)
theorem f76_20 : ip_fetch 76 20 = some (.if_icmp .le 17, 3) := by decide +kernel
theorem s76_20 {x0 : Nat} {x1 : Int32} {s0 : Int32} {s1 : Int32} : ip_WP 76 20 [some (.ref x0), some (.int x1)] [.int s1, .int s0] (G, F, I, J) b post px ↔ if s0 ≤ s1 then ip_WP 76 37 [some (.ref x0), some (.int x1)] [] (G, F, I, J) b post px else ip_WP 76 23 [some (.ref x0), some (.int x1)] [] (G, F, I, J) b post px := ip_s_ic_le f76_20 rfl
theorem f76_23 : ip_fetch 76 23 = some (.aload_n 0, 1) := by decide +kernel
theorem s76_23 {x0 : Nat} {x1 : Int32} : ip_WP 76 23 [some (.ref x0), some (.int x1)] [] (G, F, I, J) b post px ↔ ip_WP 76 24 [some (.ref x0), some (.int x1)] [.ref x0] (G, F, I, J) b post px := ip_nx_iff ((ip_st_of f76_23).trans rfl)
theorem f76_24 : ip_fetch 76 24 = some (.bipush 48, 2) := by decide +kernel
theorem s76_24 {x0 : Nat} {x1 : Int32} {s0 : Nat} : ip_WP 76 24 [some (.ref x0), some (.int x1)] [.ref s0] (G, F, I, J) b post px ↔ ip_WP 76 26 [some (.ref x0), some (.int x1)] [.int 48, .ref s0] (G, F, I, J) b post px := ip_s_bipush f76_24 (by decide)
theorem f76_26 : ip_fetch 76 26 = some (.iload_n 1, 1) := by decide +kernel
theorem s76_26 {x0 : Nat} {x1 : Int32} {s0 : Nat} {s1 : Int32} : ip_WP 76 26 [some (.ref x0), some (.int x1)] [.int s1, .ref s0] (G, F, I, J) b post px ↔ ip_WP 76 27 [some (.ref x0), some (.int x1)] [.int x1, .int s1, .ref s0] (G, F, I, J) b post px := ip_nx_iff ((ip_st_of f76_26).trans rfl)
theorem f76_27 : ip_fetch 76 27 = some (.bipush 10, 2) := by decide +kernel
theorem s76_27 {x0 : Nat} {x1 : Int32} {s0 : Nat} {s1 : Int32} {s2 : Int32} : ip_WP 76 27 [some (.ref x0), some (.int x1)] [.int s2, .int s1, .ref s0] (G, F, I, J) b post px ↔ ip_WP 76 29 [some (.ref x0), some (.int x1)] [.int 10, .int s2, .int s1, .ref s0] (G, F, I, J) b post px := ip_s_bipush f76_27 (by decide)
theorem f76_29 : ip_fetch 76 29 = some (.idiv, 1) := by decide +kernel
theorem s76_29 {x0 : Nat} {x1 : Int32} {s0 : Nat} {s1 : Int32} {s2 : Int32} {s3 : Int32} : ip_WP 76 29 [some (.ref x0), some (.int x1)] [.int s3, .int s2, .int s1, .ref s0] (G, F, I, J) b post px ↔ (¬ s3 = 0 ∧ ip_WP 76 30 [some (.ref x0), some (.int x1)] [.int (s2 / s3), .int s1, .ref s0] (G, F, I, J) b post px) := ip_s_div ((ip_st_of f76_29).trans rfl)
theorem f76_30 : ip_fetch 76 30 = some (.bipush 10, 2) := by decide +kernel
theorem s76_30 {x0 : Nat} {x1 : Int32} {s0 : Nat} {s1 : Int32} {s2 : Int32} : ip_WP 76 30 [some (.ref x0), some (.int x1)] [.int s2, .int s1, .ref s0] (G, F, I, J) b post px ↔ ip_WP 76 32 [some (.ref x0), some (.int x1)] [.int 10, .int s2, .int s1, .ref s0] (G, F, I, J) b post px := ip_s_bipush f76_30 (by decide)
theorem f76_32 : ip_fetch 76 32 = some (.irem, 1) := by decide +kernel
theorem s76_32 {x0 : Nat} {x1 : Int32} {s0 : Nat} {s1 : Int32} {s2 : Int32} {s3 : Int32} : ip_WP 76 32 [some (.ref x0), some (.int x1)] [.int s3, .int s2, .int s1, .ref s0] (G, F, I, J) b post px ↔ (¬ s3 = 0 ∧ ip_WP 76 33 [some (.ref x0), some (.int x1)] [.int (s2 - s2 / s3 * s3), .int s1, .ref s0] (G, F, I, J) b post px) := ip_s_div ((ip_st_of f76_32).trans rfl)
theorem f76_33 : ip_fetch 76 33 = some (.iadd, 1) := by decide +kernel
theorem s76_33 {x0 : Nat} {x1 : Int32} {s0 : Nat} {s1 : Int32} {s2 : Int32} : ip_WP 76 33 [some (.ref x0), some (.int x1)] [.int s2, .int s1, .ref s0] (G, F, I, J) b post px ↔ ip_WP 76 34 [some (.ref x0), some (.int x1)] [.int (s1 + s2), .ref s0] (G, F, I, J) b post px := ip_nx_iff ((ip_st_of f76_33).trans rfl)
theorem f76_34 : ip_fetch 76 34 = some (.invokevirtual 253, 3) := by decide +kernel
set_option maxRecDepth 100000 in
theorem s76_34 {x0 : Nat} {x1 : Int32} {s0 : Nat} {s1 : Int32} : ip_WP 76 34 [some (.ref x0), some (.int x1)] [.int s1, .ref s0] (G, F, I, J) b post px ↔ (ip_isO G s0 1 = true ∧ ip_WP 71 0 [some (.ref s0), some (.int s1)] [] (G, F, I, J) (0, 0) (fun r h' => ip_WP 76 37 [some (.ref x0), some (.int x1)] (r.toList ++ []) h' b post px) (fun _ _ => False)) := ip_ck_iff (x := ip_cl 71 [some (.ref s0), some (.int s1)] [] (0, 0) b) ((ip_st_of f76_34).trans rfl) (ip_cl_iff)
theorem f76_37 : ip_fetch 76 37 = some (.aload_n 0, 1) := by decide +kernel
theorem s76_37 {x0 : Nat} {x1 : Int32} : ip_WP 76 37 [some (.ref x0), some (.int x1)] [] (G, F, I, J) b post px ↔ ip_WP 76 38 [some (.ref x0), some (.int x1)] [.ref x0] (G, F, I, J) b post px := ip_nx_iff ((ip_st_of f76_37).trans rfl)
theorem f76_38 : ip_fetch 76 38 = some (.bipush 48, 2) := by decide +kernel
theorem s76_38 {x0 : Nat} {x1 : Int32} {s0 : Nat} : ip_WP 76 38 [some (.ref x0), some (.int x1)] [.ref s0] (G, F, I, J) b post px ↔ ip_WP 76 40 [some (.ref x0), some (.int x1)] [.int 48, .ref s0] (G, F, I, J) b post px := ip_s_bipush f76_38 (by decide)
theorem f76_40 : ip_fetch 76 40 = some (.iload_n 1, 1) := by decide +kernel
theorem s76_40 {x0 : Nat} {x1 : Int32} {s0 : Nat} {s1 : Int32} : ip_WP 76 40 [some (.ref x0), some (.int x1)] [.int s1, .ref s0] (G, F, I, J) b post px ↔ ip_WP 76 41 [some (.ref x0), some (.int x1)] [.int x1, .int s1, .ref s0] (G, F, I, J) b post px := ip_nx_iff ((ip_st_of f76_40).trans rfl)
theorem f76_41 : ip_fetch 76 41 = some (.bipush 10, 2) := by decide +kernel
theorem s76_41 {x0 : Nat} {x1 : Int32} {s0 : Nat} {s1 : Int32} {s2 : Int32} : ip_WP 76 41 [some (.ref x0), some (.int x1)] [.int s2, .int s1, .ref s0] (G, F, I, J) b post px ↔ ip_WP 76 43 [some (.ref x0), some (.int x1)] [.int 10, .int s2, .int s1, .ref s0] (G, F, I, J) b post px := ip_s_bipush f76_41 (by decide)
theorem f76_43 : ip_fetch 76 43 = some (.irem, 1) := by decide +kernel
theorem s76_43 {x0 : Nat} {x1 : Int32} {s0 : Nat} {s1 : Int32} {s2 : Int32} {s3 : Int32} : ip_WP 76 43 [some (.ref x0), some (.int x1)] [.int s3, .int s2, .int s1, .ref s0] (G, F, I, J) b post px ↔ (¬ s3 = 0 ∧ ip_WP 76 44 [some (.ref x0), some (.int x1)] [.int (s2 - s2 / s3 * s3), .int s1, .ref s0] (G, F, I, J) b post px) := ip_s_div ((ip_st_of f76_43).trans rfl)
theorem f76_44 : ip_fetch 76 44 = some (.iadd, 1) := by decide +kernel
theorem s76_44 {x0 : Nat} {x1 : Int32} {s0 : Nat} {s1 : Int32} {s2 : Int32} : ip_WP 76 44 [some (.ref x0), some (.int x1)] [.int s2, .int s1, .ref s0] (G, F, I, J) b post px ↔ ip_WP 76 45 [some (.ref x0), some (.int x1)] [.int (s1 + s2), .ref s0] (G, F, I, J) b post px := ip_nx_iff ((ip_st_of f76_44).trans rfl)
theorem f76_45 : ip_fetch 76 45 = some (.invokevirtual 253, 3) := by decide +kernel
set_option maxRecDepth 100000 in
theorem s76_45 {x0 : Nat} {x1 : Int32} {s0 : Nat} {s1 : Int32} : ip_WP 76 45 [some (.ref x0), some (.int x1)] [.int s1, .ref s0] (G, F, I, J) b post px ↔ (ip_isO G s0 1 = true ∧ ip_WP 71 0 [some (.ref s0), some (.int s1)] [] (G, F, I, J) (0, 0) (fun r h' => ip_WP 76 48 [some (.ref x0), some (.int x1)] (r.toList ++ []) h' b post px) (fun _ _ => False)) := ip_ck_iff (x := ip_cl 71 [some (.ref s0), some (.int s1)] [] (0, 0) b) ((ip_st_of f76_45).trans rfl) (ip_cl_iff)
theorem f76_48 : ip_fetch 76 48 = some (.return_, 1) := by decide +kernel
theorem s76_48 {x0 : Nat} {x1 : Int32} : ip_WP 76 48 [some (.ref x0), some (.int x1)] [] (G, F, I, J) b post px ↔ post none (G, F, I, J) := ip_rt_iff ((ip_st_of f76_48).trans rfl)
theorem f77_0 : ip_fetch 77 0 = some (.aload_n 0, 1) := by decide +kernel
theorem s77_0 {x0 : Nat} : ip_WP 77 0 [some (.ref x0)] [] (G, F, I, J) b post px ↔ ip_WP 77 1 [some (.ref x0)] [.ref x0] (G, F, I, J) b post px := ip_nx_iff ((ip_st_of f77_0).trans rfl)
theorem f77_1 : ip_fetch 77 1 = some (.bipush 59, 2) := by decide +kernel
theorem s77_1 {x0 : Nat} {s0 : Nat} : ip_WP 77 1 [some (.ref x0)] [.ref s0] (G, F, I, J) b post px ↔ ip_WP 77 3 [some (.ref x0)] [.int 59, .ref s0] (G, F, I, J) b post px := ip_s_bipush f77_1 (by decide)
theorem f77_3 : ip_fetch 77 3 = some (.invokevirtual 253, 3) := by decide +kernel
set_option maxRecDepth 100000 in
theorem s77_3 {x0 : Nat} {s0 : Nat} {s1 : Int32} : ip_WP 77 3 [some (.ref x0)] [.int s1, .ref s0] (G, F, I, J) b post px ↔ (ip_isO G s0 1 = true ∧ ip_WP 71 0 [some (.ref s0), some (.int s1)] [] (G, F, I, J) (0, 0) (fun r h' => ip_WP 77 6 [some (.ref x0)] (r.toList ++ []) h' b post px) (fun _ _ => False)) := ip_ck_iff (x := ip_cl 71 [some (.ref s0), some (.int s1)] [] (0, 0) b) ((ip_st_of f77_3).trans rfl) (ip_cl_iff)
theorem f77_6 : ip_fetch 77 6 = some (.aload_n 0, 1) := by decide +kernel
theorem s77_6 {x0 : Nat} : ip_WP 77 6 [some (.ref x0)] [] (G, F, I, J) b post px ↔ ip_WP 77 7 [some (.ref x0)] [.ref x0] (G, F, I, J) b post px := ip_nx_iff ((ip_st_of f77_6).trans rfl)
theorem f77_7 : ip_fetch 77 7 = some (.bipush 10, 2) := by decide +kernel
theorem s77_7 {x0 : Nat} {s0 : Nat} : ip_WP 77 7 [some (.ref x0)] [.ref s0] (G, F, I, J) b post px ↔ ip_WP 77 9 [some (.ref x0)] [.int 10, .ref s0] (G, F, I, J) b post px := ip_s_bipush f77_7 (by decide)
theorem f77_9 : ip_fetch 77 9 = some (.invokevirtual 253, 3) := by decide +kernel
set_option maxRecDepth 100000 in
theorem s77_9 {x0 : Nat} {s0 : Nat} {s1 : Int32} : ip_WP 77 9 [some (.ref x0)] [.int s1, .ref s0] (G, F, I, J) b post px ↔ (ip_isO G s0 1 = true ∧ ip_WP 71 0 [some (.ref s0), some (.int s1)] [] (G, F, I, J) (0, 0) (fun r h' => ip_WP 77 12 [some (.ref x0)] (r.toList ++ []) h' b post px) (fun _ _ => False)) := ip_ck_iff (x := ip_cl 71 [some (.ref s0), some (.int s1)] [] (0, 0) b) ((ip_st_of f77_9).trans rfl) (ip_cl_iff)
theorem f77_12 : ip_fetch 77 12 = some (.return_, 1) := by decide +kernel
theorem s77_12 {x0 : Nat} : ip_WP 77 12 [some (.ref x0)] [] (G, F, I, J) b post px ↔ post none (G, F, I, J) := ip_rt_iff ((ip_st_of f77_12).trans rfl)
theorem f78_0 : ip_fetch 78 0 = some (.aload_n 0, 1) := by decide +kernel
theorem s78_0 {x0 : Nat} {x1 : Option Value} : ip_WP 78 0 [some (.ref x0), x1] [] (G, F, I, J) b post px ↔ ip_WP 78 1 [some (.ref x0), x1] [.ref x0] (G, F, I, J) b post px := ip_nx_iff ((ip_st_of f78_0).trans rfl)
theorem f78_1 : ip_fetch 78 1 = some (.getfield 34, 3) := by decide +kernel
set_option maxRecDepth 100000 in
theorem s78_1 {x0 : Nat} {x1 : Option Value} {s0 : Nat} : ip_WP 78 1 [some (.ref x0), x1] [.ref s0] (G, F, I, J) b post px ↔ (ip_isO G s0 1 = true ∧ ip_WP 78 4 [some (.ref x0), x1] [F s0 16] (G, F, I, J) b post px) := ip_s_getf f78_1 (by decide +kernel)
theorem f78_4 : ip_fetch 78 4 = some (.iconst 0, 1) := by decide +kernel
theorem s78_4 {x0 : Nat} {x1 : Option Value} {s0 : Nat} : ip_WP 78 4 [some (.ref x0), x1] [.ref s0] (G, F, I, J) b post px ↔ ip_WP 78 5 [some (.ref x0), x1] [.int 0, .ref s0] (G, F, I, J) b post px := ip_s_iconst f78_4 (by decide)
theorem f78_5 : ip_fetch 78 5 = some (.iaload, 1) := by decide +kernel
theorem s78_5 {x0 : Nat} {x1 : Option Value} {s0 : Nat} {s1 : Int32} : ip_WP 78 5 [some (.ref x0), x1] [.int s1, .ref s0] (G, F, I, J) b post px ↔ (ip_inA G s0 0 s1 = true ∧ ip_WP 78 6 [some (.ref x0), x1] [.int (I s0 s1.toNatClampNeg)] (G, F, I, J) b post px) := ip_ck_iff ((ip_st_of f78_5).trans rfl) ip_nx_iff
theorem f78_6 : ip_fetch 78 6 = some (.ifCond .ne 4, 3) := by decide +kernel
theorem s78_6 {x0 : Nat} {x1 : Option Value} {s0 : Int32} : ip_WP 78 6 [some (.ref x0), x1] [.int s0] (G, F, I, J) b post px ↔ if ¬ s0 = 0 then ip_WP 78 10 [some (.ref x0), x1] [] (G, F, I, J) b post px else ip_WP 78 9 [some (.ref x0), x1] [] (G, F, I, J) b post px := ip_s_if_ne f78_6 rfl
theorem f78_9 : ip_fetch 78 9 = some (.return_, 1) := by decide +kernel
theorem s78_9 {x0 : Nat} {x1 : Option Value} : ip_WP 78 9 [some (.ref x0), x1] [] (G, F, I, J) b post px ↔ post none (G, F, I, J) := ip_rt_iff ((ip_st_of f78_9).trans rfl)
theorem f78_10 : ip_fetch 78 10 = some (.aload_n 0, 1) := by decide +kernel
theorem s78_10 {x0 : Nat} {x1 : Option Value} : ip_WP 78 10 [some (.ref x0), x1] [] (G, F, I, J) b post px ↔ ip_WP 78 11 [some (.ref x0), x1] [.ref x0] (G, F, I, J) b post px := ip_nx_iff ((ip_st_of f78_10).trans rfl)
theorem f78_11 : ip_fetch 78 11 = some (.iconst 0, 1) := by decide +kernel
theorem s78_11 {x0 : Nat} {x1 : Option Value} {s0 : Nat} : ip_WP 78 11 [some (.ref x0), x1] [.ref s0] (G, F, I, J) b post px ↔ ip_WP 78 12 [some (.ref x0), x1] [.int 0, .ref s0] (G, F, I, J) b post px := ip_s_iconst f78_11 (by decide)
theorem f78_12 : ip_fetch 78 12 = some (.invokevirtual 256, 3) := by decide +kernel
set_option maxRecDepth 100000 in
theorem s78_12 {x0 : Nat} {x1 : Option Value} {s0 : Nat} {s1 : Int32} : ip_WP 78 12 [some (.ref x0), x1] [.int s1, .ref s0] (G, F, I, J) b post px ↔ (ip_isO G s0 1 = true ∧ ip_WP 72 0 [some (.ref s0), some (.int s1), none, none] [] (G, F, I, J) (0, 0) (fun r h' => ip_WP 78 15 [some (.ref x0), x1] (r.toList ++ []) h' b post px) (fun _ _ => False)) := ip_ck_iff (x := ip_cl 72 [some (.ref s0), some (.int s1), none, none] [] (0, 0) b) ((ip_st_of f78_12).trans rfl) (ip_cl_iff)
theorem f78_15 : ip_fetch 78 15 = some (.iconst 0, 1) := by decide +kernel
theorem s78_15 {x0 : Nat} {x1 : Option Value} : ip_WP 78 15 [some (.ref x0), x1] [] (G, F, I, J) b post px ↔ ip_WP 78 16 [some (.ref x0), x1] [.int 0] (G, F, I, J) b post px := ip_s_iconst f78_15 (by decide)
theorem f78_16 : ip_fetch 78 16 = some (.istore_n 1, 1) := by decide +kernel
theorem s78_16 {x0 : Nat} {x1 : Option Value} {s0 : Int32} : ip_WP 78 16 [some (.ref x0), x1] [.int s0] (G, F, I, J) b post px ↔ ip_WP 78 17 [some (.ref x0), some (.int s0)] [] (G, F, I, J) b post px := ip_nx_iff ((ip_st_of f78_16).trans rfl)
theorem f78_17 : ip_fetch 78 17 = some (.iload_n 1, 1) := by decide +kernel
theorem s78_17 {x0 : Nat} {x1 : Int32} : ip_WP 78 17 [some (.ref x0), some (.int x1)] [] (G, F, I, J) b post px ↔ ip_WP 78 18 [some (.ref x0), some (.int x1)] [.int x1] (G, F, I, J) b post px := ip_nx_iff ((ip_st_of f78_17).trans rfl)
theorem f78_18 : ip_fetch 78 18 = some (.aload_n 0, 1) := by decide +kernel
theorem s78_18 {x0 : Nat} {x1 : Int32} {s0 : Int32} : ip_WP 78 18 [some (.ref x0), some (.int x1)] [.int s0] (G, F, I, J) b post px ↔ ip_WP 78 19 [some (.ref x0), some (.int x1)] [.ref x0, .int s0] (G, F, I, J) b post px := ip_nx_iff ((ip_st_of f78_18).trans rfl)
theorem f78_19 : ip_fetch 78 19 = some (.getfield 34, 3) := by decide +kernel
set_option maxRecDepth 100000 in
theorem s78_19 {x0 : Nat} {x1 : Int32} {s0 : Int32} {s1 : Nat} : ip_WP 78 19 [some (.ref x0), some (.int x1)] [.ref s1, .int s0] (G, F, I, J) b post px ↔ (ip_isO G s1 1 = true ∧ ip_WP 78 22 [some (.ref x0), some (.int x1)] [F s1 16, .int s0] (G, F, I, J) b post px) := ip_s_getf f78_19 (by decide +kernel)
theorem f78_22 : ip_fetch 78 22 = some (.iconst 0, 1) := by decide +kernel
theorem s78_22 {x0 : Nat} {x1 : Int32} {s0 : Int32} {s1 : Nat} : ip_WP 78 22 [some (.ref x0), some (.int x1)] [.ref s1, .int s0] (G, F, I, J) b post px ↔ ip_WP 78 23 [some (.ref x0), some (.int x1)] [.int 0, .ref s1, .int s0] (G, F, I, J) b post px := ip_s_iconst f78_22 (by decide)
theorem f78_23 : ip_fetch 78 23 = some (.iaload, 1) := by decide +kernel
theorem s78_23 {x0 : Nat} {x1 : Int32} {s0 : Int32} {s1 : Nat} {s2 : Int32} : ip_WP 78 23 [some (.ref x0), some (.int x1)] [.int s2, .ref s1, .int s0] (G, F, I, J) b post px ↔ (ip_inA G s1 0 s2 = true ∧ ip_WP 78 24 [some (.ref x0), some (.int x1)] [.int (I s1 s2.toNatClampNeg), .int s0] (G, F, I, J) b post px) := ip_ck_iff ((ip_st_of f78_23).trans rfl) ip_nx_iff
theorem f78_24 : ip_fetch 78 24 = some (.if_icmp .ge 28, 3) := by decide +kernel
theorem s78_24 {x0 : Nat} {x1 : Int32} {s0 : Int32} {s1 : Int32} : ip_WP 78 24 [some (.ref x0), some (.int x1)] [.int s1, .int s0] (G, F, I, J) b post px ↔ if s1 ≤ s0 then ip_WP 78 52 [some (.ref x0), some (.int x1)] [] (G, F, I, J) b post px else ip_WP 78 27 [some (.ref x0), some (.int x1)] [] (G, F, I, J) b post px := ip_s_ic_ge f78_24 rfl
theorem f78_27 : ip_fetch 78 27 = some (.aload_n 0, 1) := by decide +kernel
theorem s78_27 {x0 : Nat} {x1 : Int32} : ip_WP 78 27 [some (.ref x0), some (.int x1)] [] (G, F, I, J) b post px ↔ ip_WP 78 28 [some (.ref x0), some (.int x1)] [.ref x0] (G, F, I, J) b post px := ip_nx_iff ((ip_st_of f78_27).trans rfl)
theorem f78_28 : ip_fetch 78 28 = some (.iload_n 1, 1) := by decide +kernel
theorem s78_28 {x0 : Nat} {x1 : Int32} {s0 : Nat} : ip_WP 78 28 [some (.ref x0), some (.int x1)] [.ref s0] (G, F, I, J) b post px ↔ ip_WP 78 29 [some (.ref x0), some (.int x1)] [.int x1, .ref s0] (G, F, I, J) b post px := ip_nx_iff ((ip_st_of f78_28).trans rfl)
theorem f78_29 : ip_fetch 78 29 = some (.ifCond .ne 7, 3) := by decide +kernel
theorem s78_29 {x0 : Nat} {x1 : Int32} {s0 : Nat} {s1 : Int32} : ip_WP 78 29 [some (.ref x0), some (.int x1)] [.int s1, .ref s0] (G, F, I, J) b post px ↔ if ¬ s1 = 0 then ip_WP 78 36 [some (.ref x0), some (.int x1)] [.ref s0] (G, F, I, J) b post px else ip_WP 78 32 [some (.ref x0), some (.int x1)] [.ref s0] (G, F, I, J) b post px := ip_s_if_ne f78_29 rfl
theorem f78_32 : ip_fetch 78 32 = some (.iconst 1, 1) := by decide +kernel
theorem s78_32 {x0 : Nat} {x1 : Int32} {s0 : Nat} : ip_WP 78 32 [some (.ref x0), some (.int x1)] [.ref s0] (G, F, I, J) b post px ↔ ip_WP 78 33 [some (.ref x0), some (.int x1)] [.int 1, .ref s0] (G, F, I, J) b post px := ip_s_iconst f78_32 (by decide)
theorem f78_33 : ip_fetch 78 33 = some (.goto 4, 3) := by decide +kernel
theorem s78_33 {x0 : Nat} {x1 : Int32} {s0 : Nat} {s1 : Int32} : ip_WP 78 33 [some (.ref x0), some (.int x1)] [.int s1, .ref s0] (G, F, I, J) b post px ↔ ip_WP 78 37 [some (.ref x0), some (.int x1)] [.int s1, .ref s0] (G, F, I, J) b post px := ip_nx_iff ((ip_st_of f78_33).trans rfl)
theorem f78_36 : ip_fetch 78 36 = some (.iconst 0, 1) := by decide +kernel
theorem s78_36 {x0 : Nat} {x1 : Int32} {s0 : Nat} : ip_WP 78 36 [some (.ref x0), some (.int x1)] [.ref s0] (G, F, I, J) b post px ↔ ip_WP 78 37 [some (.ref x0), some (.int x1)] [.int 0, .ref s0] (G, F, I, J) b post px := ip_s_iconst f78_36 (by decide)
theorem f78_37 : ip_fetch 78 37 = some (.invokevirtual 259, 3) := by decide +kernel
set_option maxRecDepth 100000 in
theorem s78_37 {x0 : Nat} {x1 : Int32} {s0 : Nat} {s1 : Int32} : ip_WP 78 37 [some (.ref x0), some (.int x1)] [.int s1, .ref s0] (G, F, I, J) b post px ↔ (ip_isO G s0 1 = true ∧ ip_WP 75 0 [some (.ref s0), some (.int s1)] [] (G, F, I, J) (0, 0) (fun r h' => ip_WP 78 40 [some (.ref x0), some (.int x1)] (r.toList ++ []) h' b post px) (fun _ _ => False)) := ip_ck_iff (x := ip_cl 75 [some (.ref s0), some (.int s1)] [] (0, 0) b) ((ip_st_of f78_37).trans rfl) (ip_cl_iff)
theorem f78_40 : ip_fetch 78 40 = some (.aload_n 0, 1) := by decide +kernel
theorem s78_40 {x0 : Nat} {x1 : Int32} : ip_WP 78 40 [some (.ref x0), some (.int x1)] [] (G, F, I, J) b post px ↔ ip_WP 78 41 [some (.ref x0), some (.int x1)] [.ref x0] (G, F, I, J) b post px := ip_nx_iff ((ip_st_of f78_40).trans rfl)
theorem f78_41 : ip_fetch 78 41 = some (.iconst 0, 1) := by decide +kernel
theorem s78_41 {x0 : Nat} {x1 : Int32} {s0 : Nat} : ip_WP 78 41 [some (.ref x0), some (.int x1)] [.ref s0] (G, F, I, J) b post px ↔ ip_WP 78 42 [some (.ref x0), some (.int x1)] [.int 0, .ref s0] (G, F, I, J) b post px := ip_s_iconst f78_41 (by decide)
theorem f78_42 : ip_fetch 78 42 = some (.iload_n 1, 1) := by decide +kernel
theorem s78_42 {x0 : Nat} {x1 : Int32} {s0 : Nat} {s1 : Int32} : ip_WP 78 42 [some (.ref x0), some (.int x1)] [.int s1, .ref s0] (G, F, I, J) b post px ↔ ip_WP 78 43 [some (.ref x0), some (.int x1)] [.int x1, .int s1, .ref s0] (G, F, I, J) b post px := ip_nx_iff ((ip_st_of f78_42).trans rfl)
theorem f78_43 : ip_fetch 78 43 = some (.invokevirtual 263, 3) := by decide +kernel
set_option maxRecDepth 100000 in
theorem s78_43 {x0 : Nat} {x1 : Int32} {s0 : Nat} {s1 : Int32} {s2 : Int32} : ip_WP 78 43 [some (.ref x0), some (.int x1)] [.int s2, .int s1, .ref s0] (G, F, I, J) b post px ↔ (ip_isO G s0 1 = true ∧ ip_WP 73 0 [some (.ref s0), some (.int s1), some (.int s2), none, none] [] (G, F, I, J) (0, 0) (fun r h' => ip_WP 78 46 [some (.ref x0), some (.int x1)] (r.toList ++ []) h' b post px) (fun _ _ => False)) := ip_ck_iff (x := ip_cl 73 [some (.ref s0), some (.int s1), some (.int s2), none, none] [] (0, 0) b) ((ip_st_of f78_43).trans rfl) (ip_cl_iff)
theorem f78_46 : ip_fetch 78 46 = some (.iinc 1 1, 3) := by decide +kernel
theorem s78_46 {x0 : Nat} {x1 : Int32} : ip_WP 78 46 [some (.ref x0), some (.int x1)] [] (G, F, I, J) b post px ↔ ip_WP 78 49 [some (.ref x0), some (.int (x1 + 1))] [] (G, F, I, J) b post px := ip_s_iinc f78_46 rfl (by decide)
theorem f78_49 : ip_fetch 78 49 = some (.goto (-32), 3) := by decide +kernel
theorem s78_49 {x0 : Nat} {x1 : Int32} : ip_WP 78 49 [some (.ref x0), some (.int x1)] [] (G, F, I, J) b post px ↔ ip_WP 78 17 [some (.ref x0), some (.int x1)] [] (G, F, I, J) b post px := ip_nx_iff ((ip_st_of f78_49).trans rfl)
theorem f78_52 : ip_fetch 78 52 = some (.aload_n 0, 1) := by decide +kernel
theorem s78_52 {x0 : Nat} {x1 : Int32} : ip_WP 78 52 [some (.ref x0), some (.int x1)] [] (G, F, I, J) b post px ↔ ip_WP 78 53 [some (.ref x0), some (.int x1)] [.ref x0] (G, F, I, J) b post px := ip_nx_iff ((ip_st_of f78_52).trans rfl)
theorem f78_53 : ip_fetch 78 53 = some (.invokevirtual 266, 3) := by decide +kernel
set_option maxRecDepth 100000 in
theorem s78_53 {x0 : Nat} {x1 : Int32} {s0 : Nat} : ip_WP 78 53 [some (.ref x0), some (.int x1)] [.ref s0] (G, F, I, J) b post px ↔ (ip_isO G s0 1 = true ∧ ip_WP 77 0 [some (.ref s0)] [] (G, F, I, J) (0, 0) (fun r h' => ip_WP 78 56 [some (.ref x0), some (.int x1)] (r.toList ++ []) h' b post px) (fun _ _ => False)) := ip_ck_iff (x := ip_cl 77 [some (.ref s0)] [] (0, 0) b) ((ip_st_of f78_53).trans rfl) (ip_cl_iff)
theorem f78_56 : ip_fetch 78 56 = some (.return_, 1) := by decide +kernel
theorem s78_56 {x0 : Nat} {x1 : Int32} : ip_WP 78 56 [some (.ref x0), some (.int x1)] [] (G, F, I, J) b post px ↔ post none (G, F, I, J) := ip_rt_iff ((ip_st_of f78_56).trans rfl)
theorem f79_0 : ip_fetch 79 0 = some (.aload_n 0, 1) := by decide +kernel
theorem s79_0 {x0 : Nat} {x1 : Int32} {x2 : Option Value} {x3 : Option Value} : ip_WP 79 0 [some (.ref x0), some (.int x1), x2, x3] [] (G, F, I, J) b post px ↔ ip_WP 79 1 [some (.ref x0), some (.int x1), x2, x3] [.ref x0] (G, F, I, J) b post px := ip_nx_iff ((ip_st_of f79_0).trans rfl)
theorem f79_1 : ip_fetch 79 1 = some (.iconst 1, 1) := by decide +kernel
theorem s79_1 {x0 : Nat} {x1 : Int32} {x2 : Option Value} {x3 : Option Value} {s0 : Nat} : ip_WP 79 1 [some (.ref x0), some (.int x1), x2, x3] [.ref s0] (G, F, I, J) b post px ↔ ip_WP 79 2 [some (.ref x0), some (.int x1), x2, x3] [.int 1, .ref s0] (G, F, I, J) b post px := ip_s_iconst f79_1 (by decide)
theorem f79_2 : ip_fetch 79 2 = some (.invokevirtual 256, 3) := by decide +kernel
set_option maxRecDepth 100000 in
theorem s79_2 {x0 : Nat} {x1 : Int32} {x2 : Option Value} {x3 : Option Value} {s0 : Nat} {s1 : Int32} : ip_WP 79 2 [some (.ref x0), some (.int x1), x2, x3] [.int s1, .ref s0] (G, F, I, J) b post px ↔ (ip_isO G s0 1 = true ∧ ip_WP 72 0 [some (.ref s0), some (.int s1), none, none] [] (G, F, I, J) (0, 0) (fun r h' => ip_WP 79 5 [some (.ref x0), some (.int x1), x2, x3] (r.toList ++ []) h' b post px) (fun _ _ => False)) := ip_ck_iff (x := ip_cl 72 [some (.ref s0), some (.int s1), none, none] [] (0, 0) b) ((ip_st_of f79_2).trans rfl) (ip_cl_iff)
theorem f79_5 : ip_fetch 79 5 = some (.aload_n 0, 1) := by decide +kernel
theorem s79_5 {x0 : Nat} {x1 : Int32} {x2 : Option Value} {x3 : Option Value} : ip_WP 79 5 [some (.ref x0), some (.int x1), x2, x3] [] (G, F, I, J) b post px ↔ ip_WP 79 6 [some (.ref x0), some (.int x1), x2, x3] [.ref x0] (G, F, I, J) b post px := ip_nx_iff ((ip_st_of f79_5).trans rfl)
theorem f79_6 : ip_fetch 79 6 = some (.iconst 1, 1) := by decide +kernel
theorem s79_6 {x0 : Nat} {x1 : Int32} {x2 : Option Value} {x3 : Option Value} {s0 : Nat} : ip_WP 79 6 [some (.ref x0), some (.int x1), x2, x3] [.ref s0] (G, F, I, J) b post px ↔ ip_WP 79 7 [some (.ref x0), some (.int x1), x2, x3] [.int 1, .ref s0] (G, F, I, J) b post px := ip_s_iconst f79_6 (by decide)
theorem f79_7 : ip_fetch 79 7 = some (.iload_n 1, 1) := by decide +kernel
theorem s79_7 {x0 : Nat} {x1 : Int32} {x2 : Option Value} {x3 : Option Value} {s0 : Nat} {s1 : Int32} : ip_WP 79 7 [some (.ref x0), some (.int x1), x2, x3] [.int s1, .ref s0] (G, F, I, J) b post px ↔ ip_WP 79 8 [some (.ref x0), some (.int x1), x2, x3] [.int x1, .int s1, .ref s0] (G, F, I, J) b post px := ip_nx_iff ((ip_st_of f79_7).trans rfl)
theorem f79_8 : ip_fetch 79 8 = some (.invokevirtual 263, 3) := by decide +kernel
set_option maxRecDepth 100000 in
theorem s79_8 {x0 : Nat} {x1 : Int32} {x2 : Option Value} {x3 : Option Value} {s0 : Nat} {s1 : Int32} {s2 : Int32} : ip_WP 79 8 [some (.ref x0), some (.int x1), x2, x3] [.int s2, .int s1, .ref s0] (G, F, I, J) b post px ↔ (ip_isO G s0 1 = true ∧ ip_WP 73 0 [some (.ref s0), some (.int s1), some (.int s2), none, none] [] (G, F, I, J) (0, 0) (fun r h' => ip_WP 79 11 [some (.ref x0), some (.int x1), x2, x3] (r.toList ++ []) h' b post px) (fun _ _ => False)) := ip_ck_iff (x := ip_cl 73 [some (.ref s0), some (.int s1), some (.int s2), none, none] [] (0, 0) b) ((ip_st_of f79_8).trans rfl) (ip_cl_iff)
theorem f79_11 : ip_fetch 79 11 = some (.iconst 1, 1) := by decide +kernel
theorem s79_11 {x0 : Nat} {x1 : Int32} {x2 : Option Value} {x3 : Option Value} : ip_WP 79 11 [some (.ref x0), some (.int x1), x2, x3] [] (G, F, I, J) b post px ↔ ip_WP 79 12 [some (.ref x0), some (.int x1), x2, x3] [.int 1] (G, F, I, J) b post px := ip_s_iconst f79_11 (by decide)
theorem f79_12 : ip_fetch 79 12 = some (.istore_n 2, 1) := by decide +kernel
theorem s79_12 {x0 : Nat} {x1 : Int32} {x2 : Option Value} {x3 : Option Value} {s0 : Int32} : ip_WP 79 12 [some (.ref x0), some (.int x1), x2, x3] [.int s0] (G, F, I, J) b post px ↔ ip_WP 79 13 [some (.ref x0), some (.int x1), some (.int s0), x3] [] (G, F, I, J) b post px := ip_nx_iff ((ip_st_of f79_12).trans rfl)
theorem f79_13 : ip_fetch 79 13 = some (.iconst 0, 1) := by decide +kernel
theorem s79_13 {x0 : Nat} {x1 : Int32} {x2 : Int32} {x3 : Option Value} : ip_WP 79 13 [some (.ref x0), some (.int x1), some (.int x2), x3] [] (G, F, I, J) b post px ↔ ip_WP 79 14 [some (.ref x0), some (.int x1), some (.int x2), x3] [.int 0] (G, F, I, J) b post px := ip_s_iconst f79_13 (by decide)
theorem f79_14 : ip_fetch 79 14 = some (.istore_n 3, 1) := by decide +kernel
theorem s79_14 {x0 : Nat} {x1 : Int32} {x2 : Int32} {x3 : Option Value} {s0 : Int32} : ip_WP 79 14 [some (.ref x0), some (.int x1), some (.int x2), x3] [.int s0] (G, F, I, J) b post px ↔ ip_WP 79 15 [some (.ref x0), some (.int x1), some (.int x2), some (.int s0)] [] (G, F, I, J) b post px := ip_nx_iff ((ip_st_of f79_14).trans rfl)
theorem f79_15 : ip_fetch 79 15 = some (.iload_n 3, 1) := by decide +kernel
theorem s79_15 {x0 : Nat} {x1 : Int32} {x2 : Int32} {x3 : Int32} : ip_WP 79 15 [some (.ref x0), some (.int x1), some (.int x2), some (.int x3)] [] (G, F, I, J) b post px ↔ ip_WP 79 16 [some (.ref x0), some (.int x1), some (.int x2), some (.int x3)] [.int x3] (G, F, I, J) b post px := ip_nx_iff ((ip_st_of f79_15).trans rfl)
theorem f79_16 : ip_fetch 79 16 = some (.bipush 7, 2) := by decide +kernel
theorem s79_16 {x0 : Nat} {x1 : Int32} {x2 : Int32} {x3 : Int32} {s0 : Int32} : ip_WP 79 16 [some (.ref x0), some (.int x1), some (.int x2), some (.int x3)] [.int s0] (G, F, I, J) b post px ↔ ip_WP 79 18 [some (.ref x0), some (.int x1), some (.int x2), some (.int x3)] [.int 7, .int s0] (G, F, I, J) b post px := ip_s_bipush f79_16 (by decide)
theorem f79_18 : ip_fetch 79 18 = some (.if_icmp .ge 59, 3) := by decide +kernel
theorem s79_18 {x0 : Nat} {x1 : Int32} {x2 : Int32} {x3 : Int32} {s0 : Int32} {s1 : Int32} : ip_WP 79 18 [some (.ref x0), some (.int x1), some (.int x2), some (.int x3)] [.int s1, .int s0] (G, F, I, J) b post px ↔ if s1 ≤ s0 then ip_WP 79 77 [some (.ref x0), some (.int x1), some (.int x2), some (.int x3)] [] (G, F, I, J) b post px else ip_WP 79 21 [some (.ref x0), some (.int x1), some (.int x2), some (.int x3)] [] (G, F, I, J) b post px := ip_s_ic_ge f79_18 rfl
theorem f79_21 : ip_fetch 79 21 = some (.aload_n 0, 1) := by decide +kernel
theorem s79_21 {x0 : Nat} {x1 : Int32} {x2 : Int32} {x3 : Int32} : ip_WP 79 21 [some (.ref x0), some (.int x1), some (.int x2), some (.int x3)] [] (G, F, I, J) b post px ↔ ip_WP 79 22 [some (.ref x0), some (.int x1), some (.int x2), some (.int x3)] [.ref x0] (G, F, I, J) b post px := ip_nx_iff ((ip_st_of f79_21).trans rfl)
theorem f79_22 : ip_fetch 79 22 = some (.getfield 53, 3) := by decide +kernel
set_option maxRecDepth 100000 in
theorem s79_22 {x0 : Nat} {x1 : Int32} {x2 : Int32} {x3 : Int32} {s0 : Nat} : ip_WP 79 22 [some (.ref x0), some (.int x1), some (.int x2), some (.int x3)] [.ref s0] (G, F, I, J) b post px ↔ (ip_isO G s0 1 = true ∧ ip_WP 79 25 [some (.ref x0), some (.int x1), some (.int x2), some (.int x3)] [F s0 22] (G, F, I, J) b post px) := ip_s_getf f79_22 (by decide +kernel)
theorem f79_25 : ip_fetch 79 25 = some (.iload_n 3, 1) := by decide +kernel
theorem s79_25 {x0 : Nat} {x1 : Int32} {x2 : Int32} {x3 : Int32} {s0 : Nat} : ip_WP 79 25 [some (.ref x0), some (.int x1), some (.int x2), some (.int x3)] [.ref s0] (G, F, I, J) b post px ↔ ip_WP 79 26 [some (.ref x0), some (.int x1), some (.int x2), some (.int x3)] [.int x3, .ref s0] (G, F, I, J) b post px := ip_nx_iff ((ip_st_of f79_25).trans rfl)
theorem f79_26 : ip_fetch 79 26 = some (.iaload, 1) := by decide +kernel
theorem s79_26 {x0 : Nat} {x1 : Int32} {x2 : Int32} {x3 : Int32} {s0 : Nat} {s1 : Int32} : ip_WP 79 26 [some (.ref x0), some (.int x1), some (.int x2), some (.int x3)] [.int s1, .ref s0] (G, F, I, J) b post px ↔ (ip_inA G s0 0 s1 = true ∧ ip_WP 79 27 [some (.ref x0), some (.int x1), some (.int x2), some (.int x3)] [.int (I s0 s1.toNatClampNeg)] (G, F, I, J) b post px) := ip_ck_iff ((ip_st_of f79_26).trans rfl) ip_nx_iff
theorem f79_27 : ip_fetch 79 27 = some (.iload_n 1, 1) := by decide +kernel
theorem s79_27 {x0 : Nat} {x1 : Int32} {x2 : Int32} {x3 : Int32} {s0 : Int32} : ip_WP 79 27 [some (.ref x0), some (.int x1), some (.int x2), some (.int x3)] [.int s0] (G, F, I, J) b post px ↔ ip_WP 79 28 [some (.ref x0), some (.int x1), some (.int x2), some (.int x3)] [.int x1, .int s0] (G, F, I, J) b post px := ip_nx_iff ((ip_st_of f79_27).trans rfl)
theorem f79_28 : ip_fetch 79 28 = some (.if_icmp .ne 43, 3) := by decide +kernel
theorem s79_28 {x0 : Nat} {x1 : Int32} {x2 : Int32} {x3 : Int32} {s0 : Int32} {s1 : Int32} : ip_WP 79 28 [some (.ref x0), some (.int x1), some (.int x2), some (.int x3)] [.int s1, .int s0] (G, F, I, J) b post px ↔ if ¬ s0 = s1 then ip_WP 79 71 [some (.ref x0), some (.int x1), some (.int x2), some (.int x3)] [] (G, F, I, J) b post px else ip_WP 79 31 [some (.ref x0), some (.int x1), some (.int x2), some (.int x3)] [] (G, F, I, J) b post px := ip_s_ic_ne f79_28 rfl
theorem f79_31 : ip_fetch 79 31 = some (.iload_n 2, 1) := by decide +kernel
theorem s79_31 {x0 : Nat} {x1 : Int32} {x2 : Int32} {x3 : Int32} : ip_WP 79 31 [some (.ref x0), some (.int x1), some (.int x2), some (.int x3)] [] (G, F, I, J) b post px ↔ ip_WP 79 32 [some (.ref x0), some (.int x1), some (.int x2), some (.int x3)] [.int x2] (G, F, I, J) b post px := ip_nx_iff ((ip_st_of f79_31).trans rfl)
theorem f79_32 : ip_fetch 79 32 = some (.ifCond .eq 14, 3) := by decide +kernel
theorem s79_32 {x0 : Nat} {x1 : Int32} {x2 : Int32} {x3 : Int32} {s0 : Int32} : ip_WP 79 32 [some (.ref x0), some (.int x1), some (.int x2), some (.int x3)] [.int s0] (G, F, I, J) b post px ↔ if s0 = 0 then ip_WP 79 46 [some (.ref x0), some (.int x1), some (.int x2), some (.int x3)] [] (G, F, I, J) b post px else ip_WP 79 35 [some (.ref x0), some (.int x1), some (.int x2), some (.int x3)] [] (G, F, I, J) b post px := ip_s_if_eq f79_32 rfl
theorem f79_35 : ip_fetch 79 35 = some (.aload_n 0, 1) := by decide +kernel
theorem s79_35 {x0 : Nat} {x1 : Int32} {x2 : Int32} {x3 : Int32} : ip_WP 79 35 [some (.ref x0), some (.int x1), some (.int x2), some (.int x3)] [] (G, F, I, J) b post px ↔ ip_WP 79 36 [some (.ref x0), some (.int x1), some (.int x2), some (.int x3)] [.ref x0] (G, F, I, J) b post px := ip_nx_iff ((ip_st_of f79_35).trans rfl)
theorem f79_36 : ip_fetch 79 36 = some (.bipush 32, 2) := by decide +kernel
theorem s79_36 {x0 : Nat} {x1 : Int32} {x2 : Int32} {x3 : Int32} {s0 : Nat} : ip_WP 79 36 [some (.ref x0), some (.int x1), some (.int x2), some (.int x3)] [.ref s0] (G, F, I, J) b post px ↔ ip_WP 79 38 [some (.ref x0), some (.int x1), some (.int x2), some (.int x3)] [.int 32, .ref s0] (G, F, I, J) b post px := ip_s_bipush f79_36 (by decide)
theorem f79_38 : ip_fetch 79 38 = some (.invokevirtual 253, 3) := by decide +kernel
set_option maxRecDepth 100000 in
theorem s79_38 {x0 : Nat} {x1 : Int32} {x2 : Int32} {x3 : Int32} {s0 : Nat} {s1 : Int32} : ip_WP 79 38 [some (.ref x0), some (.int x1), some (.int x2), some (.int x3)] [.int s1, .ref s0] (G, F, I, J) b post px ↔ (ip_isO G s0 1 = true ∧ ip_WP 71 0 [some (.ref s0), some (.int s1)] [] (G, F, I, J) (0, 0) (fun r h' => ip_WP 79 41 [some (.ref x0), some (.int x1), some (.int x2), some (.int x3)] (r.toList ++ []) h' b post px) (fun _ _ => False)) := ip_ck_iff (x := ip_cl 71 [some (.ref s0), some (.int s1)] [] (0, 0) b) ((ip_st_of f79_38).trans rfl) (ip_cl_iff)
theorem f79_41 : ip_fetch 79 41 = some (.aload_n 0, 1) := by decide +kernel
theorem s79_41 {x0 : Nat} {x1 : Int32} {x2 : Int32} {x3 : Int32} : ip_WP 79 41 [some (.ref x0), some (.int x1), some (.int x2), some (.int x3)] [] (G, F, I, J) b post px ↔ ip_WP 79 42 [some (.ref x0), some (.int x1), some (.int x2), some (.int x3)] [.ref x0] (G, F, I, J) b post px := ip_nx_iff ((ip_st_of f79_41).trans rfl)
theorem f79_42 : ip_fetch 79 42 = some (.iconst 2, 1) := by decide +kernel
theorem s79_42 {x0 : Nat} {x1 : Int32} {x2 : Int32} {x3 : Int32} {s0 : Nat} : ip_WP 79 42 [some (.ref x0), some (.int x1), some (.int x2), some (.int x3)] [.ref s0] (G, F, I, J) b post px ↔ ip_WP 79 43 [some (.ref x0), some (.int x1), some (.int x2), some (.int x3)] [.int 2, .ref s0] (G, F, I, J) b post px := ip_s_iconst f79_42 (by decide)
theorem f79_43 : ip_fetch 79 43 = some (.invokevirtual 256, 3) := by decide +kernel
set_option maxRecDepth 100000 in
theorem s79_43 {x0 : Nat} {x1 : Int32} {x2 : Int32} {x3 : Int32} {s0 : Nat} {s1 : Int32} : ip_WP 79 43 [some (.ref x0), some (.int x1), some (.int x2), some (.int x3)] [.int s1, .ref s0] (G, F, I, J) b post px ↔ (ip_isO G s0 1 = true ∧ ip_WP 72 0 [some (.ref s0), some (.int s1), none, none] [] (G, F, I, J) (0, 0) (fun r h' => ip_WP 79 46 [some (.ref x0), some (.int x1), some (.int x2), some (.int x3)] (r.toList ++ []) h' b post px) (fun _ _ => False)) := ip_ck_iff (x := ip_cl 72 [some (.ref s0), some (.int s1), none, none] [] (0, 0) b) ((ip_st_of f79_43).trans rfl) (ip_cl_iff)
theorem f79_46 : ip_fetch 79 46 = some (.aload_n 0, 1) := by decide +kernel
theorem s79_46 {x0 : Nat} {x1 : Int32} {x2 : Int32} {x3 : Int32} : ip_WP 79 46 [some (.ref x0), some (.int x1), some (.int x2), some (.int x3)] [] (G, F, I, J) b post px ↔ ip_WP 79 47 [some (.ref x0), some (.int x1), some (.int x2), some (.int x3)] [.ref x0] (G, F, I, J) b post px := ip_nx_iff ((ip_st_of f79_46).trans rfl)
theorem f79_47 : ip_fetch 79 47 = some (.iload_n 2, 1) := by decide +kernel
theorem s79_47 {x0 : Nat} {x1 : Int32} {x2 : Int32} {x3 : Int32} {s0 : Nat} : ip_WP 79 47 [some (.ref x0), some (.int x1), some (.int x2), some (.int x3)] [.ref s0] (G, F, I, J) b post px ↔ ip_WP 79 48 [some (.ref x0), some (.int x1), some (.int x2), some (.int x3)] [.int x2, .ref s0] (G, F, I, J) b post px := ip_nx_iff ((ip_st_of f79_47).trans rfl)
theorem f79_48 : ip_fetch 79 48 = some (.invokevirtual 259, 3) := by decide +kernel
set_option maxRecDepth 100000 in
theorem s79_48 {x0 : Nat} {x1 : Int32} {x2 : Int32} {x3 : Int32} {s0 : Nat} {s1 : Int32} : ip_WP 79 48 [some (.ref x0), some (.int x1), some (.int x2), some (.int x3)] [.int s1, .ref s0] (G, F, I, J) b post px ↔ (ip_isO G s0 1 = true ∧ ip_WP 75 0 [some (.ref s0), some (.int s1)] [] (G, F, I, J) (0, 0) (fun r h' => ip_WP 79 51 [some (.ref x0), some (.int x1), some (.int x2), some (.int x3)] (r.toList ++ []) h' b post px) (fun _ _ => False)) := ip_ck_iff (x := ip_cl 75 [some (.ref s0), some (.int s1)] [] (0, 0) b) ((ip_st_of f79_48).trans rfl) (ip_cl_iff)
theorem f79_51 : ip_fetch 79 51 = some (.aload_n 0, 1) := by decide +kernel
theorem s79_51 {x0 : Nat} {x1 : Int32} {x2 : Int32} {x3 : Int32} : ip_WP 79 51 [some (.ref x0), some (.int x1), some (.int x2), some (.int x3)] [] (G, F, I, J) b post px ↔ ip_WP 79 52 [some (.ref x0), some (.int x1), some (.int x2), some (.int x3)] [.ref x0] (G, F, I, J) b post px := ip_nx_iff ((ip_st_of f79_51).trans rfl)
theorem f79_52 : ip_fetch 79 52 = some (.bipush 10, 2) := by decide +kernel
theorem s79_52 {x0 : Nat} {x1 : Int32} {x2 : Int32} {x3 : Int32} {s0 : Nat} : ip_WP 79 52 [some (.ref x0), some (.int x1), some (.int x2), some (.int x3)] [.ref s0] (G, F, I, J) b post px ↔ ip_WP 79 54 [some (.ref x0), some (.int x1), some (.int x2), some (.int x3)] [.int 10, .ref s0] (G, F, I, J) b post px := ip_s_bipush f79_52 (by decide)
theorem f79_54 : ip_fetch 79 54 = some (.iload_n 3, 1) := by decide +kernel
theorem s79_54 {x0 : Nat} {x1 : Int32} {x2 : Int32} {x3 : Int32} {s0 : Nat} {s1 : Int32} : ip_WP 79 54 [some (.ref x0), some (.int x1), some (.int x2), some (.int x3)] [.int s1, .ref s0] (G, F, I, J) b post px ↔ ip_WP 79 55 [some (.ref x0), some (.int x1), some (.int x2), some (.int x3)] [.int x3, .int s1, .ref s0] (G, F, I, J) b post px := ip_nx_iff ((ip_st_of f79_54).trans rfl)
theorem f79_55 : ip_fetch 79 55 = some (.iadd, 1) := by decide +kernel
theorem s79_55 {x0 : Nat} {x1 : Int32} {x2 : Int32} {x3 : Int32} {s0 : Nat} {s1 : Int32} {s2 : Int32} : ip_WP 79 55 [some (.ref x0), some (.int x1), some (.int x2), some (.int x3)] [.int s2, .int s1, .ref s0] (G, F, I, J) b post px ↔ ip_WP 79 56 [some (.ref x0), some (.int x1), some (.int x2), some (.int x3)] [.int (s1 + s2), .ref s0] (G, F, I, J) b post px := ip_nx_iff ((ip_st_of f79_55).trans rfl)
theorem f79_56 : ip_fetch 79 56 = some (.invokevirtual 256, 3) := by decide +kernel
set_option maxRecDepth 100000 in
theorem s79_56 {x0 : Nat} {x1 : Int32} {x2 : Int32} {x3 : Int32} {s0 : Nat} {s1 : Int32} : ip_WP 79 56 [some (.ref x0), some (.int x1), some (.int x2), some (.int x3)] [.int s1, .ref s0] (G, F, I, J) b post px ↔ (ip_isO G s0 1 = true ∧ ip_WP 72 0 [some (.ref s0), some (.int s1), none, none] [] (G, F, I, J) (0, 0) (fun r h' => ip_WP 79 59 [some (.ref x0), some (.int x1), some (.int x2), some (.int x3)] (r.toList ++ []) h' b post px) (fun _ _ => False)) := ip_ck_iff (x := ip_cl 72 [some (.ref s0), some (.int s1), none, none] [] (0, 0) b) ((ip_st_of f79_56).trans rfl) (ip_cl_iff)
theorem f79_59 : ip_fetch 79 59 = some (.aload_n 0, 1) := by decide +kernel
theorem s79_59 {x0 : Nat} {x1 : Int32} {x2 : Int32} {x3 : Int32} : ip_WP 79 59 [some (.ref x0), some (.int x1), some (.int x2), some (.int x3)] [] (G, F, I, J) b post px ↔ ip_WP 79 60 [some (.ref x0), some (.int x1), some (.int x2), some (.int x3)] [.ref x0] (G, F, I, J) b post px := ip_nx_iff ((ip_st_of f79_59).trans rfl)
theorem f79_60 : ip_fetch 79 60 = some (.dup, 1) := by decide +kernel
theorem s79_60 {x0 : Nat} {x1 : Int32} {x2 : Int32} {x3 : Int32} {s0 : Nat} : ip_WP 79 60 [some (.ref x0), some (.int x1), some (.int x2), some (.int x3)] [.ref s0] (G, F, I, J) b post px ↔ ip_WP 79 61 [some (.ref x0), some (.int x1), some (.int x2), some (.int x3)] [.ref s0, .ref s0] (G, F, I, J) b post px := ip_nx_iff ((ip_st_of f79_60).trans rfl)
theorem f79_61 : ip_fetch 79 61 = some (.getfield 250, 3) := by decide +kernel
set_option maxRecDepth 100000 in
theorem s79_61 {x0 : Nat} {x1 : Int32} {x2 : Int32} {x3 : Int32} {s0 : Nat} {s1 : Nat} : ip_WP 79 61 [some (.ref x0), some (.int x1), some (.int x2), some (.int x3)] [.ref s1, .ref s0] (G, F, I, J) b post px ↔ (ip_isO G s1 1 = true ∧ ip_WP 79 64 [some (.ref x0), some (.int x1), some (.int x2), some (.int x3)] [F s1 4, .ref s0] (G, F, I, J) b post px) := ip_s_getf f79_61 (by decide +kernel)
theorem f79_64 : ip_fetch 79 64 = some (.iconst 1, 1) := by decide +kernel
theorem s79_64 {x0 : Nat} {x1 : Int32} {x2 : Int32} {x3 : Int32} {s0 : Nat} {s1 : Int32} : ip_WP 79 64 [some (.ref x0), some (.int x1), some (.int x2), some (.int x3)] [.int s1, .ref s0] (G, F, I, J) b post px ↔ ip_WP 79 65 [some (.ref x0), some (.int x1), some (.int x2), some (.int x3)] [.int 1, .int s1, .ref s0] (G, F, I, J) b post px := ip_s_iconst f79_64 (by decide)
theorem f79_65 : ip_fetch 79 65 = some (.isub, 1) := by decide +kernel
theorem s79_65 {x0 : Nat} {x1 : Int32} {x2 : Int32} {x3 : Int32} {s0 : Nat} {s1 : Int32} {s2 : Int32} : ip_WP 79 65 [some (.ref x0), some (.int x1), some (.int x2), some (.int x3)] [.int s2, .int s1, .ref s0] (G, F, I, J) b post px ↔ ip_WP 79 66 [some (.ref x0), some (.int x1), some (.int x2), some (.int x3)] [.int (s1 - s2), .ref s0] (G, F, I, J) b post px := ip_nx_iff ((ip_st_of f79_65).trans rfl)
theorem f79_66 : ip_fetch 79 66 = some (.putfield 250, 3) := by decide +kernel
set_option maxRecDepth 100000 in
theorem s79_66 {x0 : Nat} {x1 : Int32} {x2 : Int32} {x3 : Int32} {s0 : Nat} {s1 : Int32} : ip_WP 79 66 [some (.ref x0), some (.int x1), some (.int x2), some (.int x3)] [.int s1, .ref s0] (G, F, I, J) b post px ↔ (ip_isO G s0 1 = true ∧ ip_WP 79 69 [some (.ref x0), some (.int x1), some (.int x2), some (.int x3)] [] (G, ip_up F s0 4 (.int s1), I, J) b post px) := ip_s_put f79_66 (by decide +kernel) rfl
theorem f79_69 : ip_fetch 79 69 = some (.iconst 0, 1) := by decide +kernel
theorem s79_69 {x0 : Nat} {x1 : Int32} {x2 : Int32} {x3 : Int32} : ip_WP 79 69 [some (.ref x0), some (.int x1), some (.int x2), some (.int x3)] [] (G, F, I, J) b post px ↔ ip_WP 79 70 [some (.ref x0), some (.int x1), some (.int x2), some (.int x3)] [.int 0] (G, F, I, J) b post px := ip_s_iconst f79_69 (by decide)
theorem f79_70 : ip_fetch 79 70 = some (.istore_n 2, 1) := by decide +kernel
theorem s79_70 {x0 : Nat} {x1 : Int32} {x2 : Int32} {x3 : Int32} {s0 : Int32} : ip_WP 79 70 [some (.ref x0), some (.int x1), some (.int x2), some (.int x3)] [.int s0] (G, F, I, J) b post px ↔ ip_WP 79 71 [some (.ref x0), some (.int x1), some (.int s0), some (.int x3)] [] (G, F, I, J) b post px := ip_nx_iff ((ip_st_of f79_70).trans rfl)
theorem f79_71 : ip_fetch 79 71 = some (.iinc 3 1, 3) := by decide +kernel
theorem s79_71 {x0 : Nat} {x1 : Int32} {x2 : Int32} {x3 : Int32} : ip_WP 79 71 [some (.ref x0), some (.int x1), some (.int x2), some (.int x3)] [] (G, F, I, J) b post px ↔ ip_WP 79 74 [some (.ref x0), some (.int x1), some (.int x2), some (.int (x3 + 1))] [] (G, F, I, J) b post px := ip_s_iinc f79_71 rfl (by decide)
theorem f79_74 : ip_fetch 79 74 = some (.goto (-59), 3) := by decide +kernel
theorem s79_74 {x0 : Nat} {x1 : Int32} {x2 : Int32} {x3 : Int32} : ip_WP 79 74 [some (.ref x0), some (.int x1), some (.int x2), some (.int x3)] [] (G, F, I, J) b post px ↔ ip_WP 79 15 [some (.ref x0), some (.int x1), some (.int x2), some (.int x3)] [] (G, F, I, J) b post px := ip_nx_iff ((ip_st_of f79_74).trans rfl)
theorem f79_77 : ip_fetch 79 77 = some (.aload_n 0, 1) := by decide +kernel
theorem s79_77 {x0 : Nat} {x1 : Int32} {x2 : Int32} {x3 : Int32} : ip_WP 79 77 [some (.ref x0), some (.int x1), some (.int x2), some (.int x3)] [] (G, F, I, J) b post px ↔ ip_WP 79 78 [some (.ref x0), some (.int x1), some (.int x2), some (.int x3)] [.ref x0] (G, F, I, J) b post px := ip_nx_iff ((ip_st_of f79_77).trans rfl)
theorem f79_78 : ip_fetch 79 78 = some (.invokevirtual 266, 3) := by decide +kernel
set_option maxRecDepth 100000 in
theorem s79_78 {x0 : Nat} {x1 : Int32} {x2 : Int32} {x3 : Int32} {s0 : Nat} : ip_WP 79 78 [some (.ref x0), some (.int x1), some (.int x2), some (.int x3)] [.ref s0] (G, F, I, J) b post px ↔ (ip_isO G s0 1 = true ∧ ip_WP 77 0 [some (.ref s0)] [] (G, F, I, J) (0, 0) (fun r h' => ip_WP 79 81 [some (.ref x0), some (.int x1), some (.int x2), some (.int x3)] (r.toList ++ []) h' b post px) (fun _ _ => False)) := ip_ck_iff (x := ip_cl 77 [some (.ref s0)] [] (0, 0) b) ((ip_st_of f79_78).trans rfl) (ip_cl_iff)
theorem f79_81 : ip_fetch 79 81 = some (.return_, 1) := by decide +kernel
theorem s79_81 {x0 : Nat} {x1 : Int32} {x2 : Int32} {x3 : Int32} : ip_WP 79 81 [some (.ref x0), some (.int x1), some (.int x2), some (.int x3)] [] (G, F, I, J) b post px ↔ post none (G, F, I, J) := ip_rt_iff ((ip_st_of f79_81).trans rfl)
theorem f80_0 : ip_fetch 80 0 = some (.aload_n 0, 1) := by decide +kernel
theorem s80_0 {x0 : Nat} {x1 : Int32} : ip_WP 80 0 [some (.ref x0), some (.int x1)] [] (G, F, I, J) b post px ↔ ip_WP 80 1 [some (.ref x0), some (.int x1)] [.ref x0] (G, F, I, J) b post px := ip_nx_iff ((ip_st_of f80_0).trans rfl)
theorem f80_1 : ip_fetch 80 1 = some (.iconst 3, 1) := by decide +kernel
theorem s80_1 {x0 : Nat} {x1 : Int32} {s0 : Nat} : ip_WP 80 1 [some (.ref x0), some (.int x1)] [.ref s0] (G, F, I, J) b post px ↔ ip_WP 80 2 [some (.ref x0), some (.int x1)] [.int 3, .ref s0] (G, F, I, J) b post px := ip_s_iconst f80_1 (by decide)
theorem f80_2 : ip_fetch 80 2 = some (.invokevirtual 256, 3) := by decide +kernel
set_option maxRecDepth 100000 in
theorem s80_2 {x0 : Nat} {x1 : Int32} {s0 : Nat} {s1 : Int32} : ip_WP 80 2 [some (.ref x0), some (.int x1)] [.int s1, .ref s0] (G, F, I, J) b post px ↔ (ip_isO G s0 1 = true ∧ ip_WP 72 0 [some (.ref s0), some (.int s1), none, none] [] (G, F, I, J) (0, 0) (fun r h' => ip_WP 80 5 [some (.ref x0), some (.int x1)] (r.toList ++ []) h' b post px) (fun _ _ => False)) := ip_ck_iff (x := ip_cl 72 [some (.ref s0), some (.int s1), none, none] [] (0, 0) b) ((ip_st_of f80_2).trans rfl) (ip_cl_iff)
theorem f80_5 : ip_fetch 80 5 = some (.aload_n 0, 1) := by decide +kernel
theorem s80_5 {x0 : Nat} {x1 : Int32} : ip_WP 80 5 [some (.ref x0), some (.int x1)] [] (G, F, I, J) b post px ↔ ip_WP 80 6 [some (.ref x0), some (.int x1)] [.ref x0] (G, F, I, J) b post px := ip_nx_iff ((ip_st_of f80_5).trans rfl)
theorem f80_6 : ip_fetch 80 6 = some (.iconst 0, 1) := by decide +kernel
theorem s80_6 {x0 : Nat} {x1 : Int32} {s0 : Nat} : ip_WP 80 6 [some (.ref x0), some (.int x1)] [.ref s0] (G, F, I, J) b post px ↔ ip_WP 80 7 [some (.ref x0), some (.int x1)] [.int 0, .ref s0] (G, F, I, J) b post px := ip_s_iconst f80_6 (by decide)
theorem f80_7 : ip_fetch 80 7 = some (.iload_n 1, 1) := by decide +kernel
theorem s80_7 {x0 : Nat} {x1 : Int32} {s0 : Nat} {s1 : Int32} : ip_WP 80 7 [some (.ref x0), some (.int x1)] [.int s1, .ref s0] (G, F, I, J) b post px ↔ ip_WP 80 8 [some (.ref x0), some (.int x1)] [.int x1, .int s1, .ref s0] (G, F, I, J) b post px := ip_nx_iff ((ip_st_of f80_7).trans rfl)
theorem f80_8 : ip_fetch 80 8 = some (.invokevirtual 263, 3) := by decide +kernel
set_option maxRecDepth 100000 in
theorem s80_8 {x0 : Nat} {x1 : Int32} {s0 : Nat} {s1 : Int32} {s2 : Int32} : ip_WP 80 8 [some (.ref x0), some (.int x1)] [.int s2, .int s1, .ref s0] (G, F, I, J) b post px ↔ (ip_isO G s0 1 = true ∧ ip_WP 73 0 [some (.ref s0), some (.int s1), some (.int s2), none, none] [] (G, F, I, J) (0, 0) (fun r h' => ip_WP 80 11 [some (.ref x0), some (.int x1)] (r.toList ++ []) h' b post px) (fun _ _ => False)) := ip_ck_iff (x := ip_cl 73 [some (.ref s0), some (.int s1), some (.int s2), none, none] [] (0, 0) b) ((ip_st_of f80_8).trans rfl) (ip_cl_iff)
theorem f80_11 : ip_fetch 80 11 = some (.aload_n 0, 1) := by decide +kernel
theorem s80_11 {x0 : Nat} {x1 : Int32} : ip_WP 80 11 [some (.ref x0), some (.int x1)] [] (G, F, I, J) b post px ↔ ip_WP 80 12 [some (.ref x0), some (.int x1)] [.ref x0] (G, F, I, J) b post px := ip_nx_iff ((ip_st_of f80_11).trans rfl)
theorem f80_12 : ip_fetch 80 12 = some (.bipush 61, 2) := by decide +kernel
theorem s80_12 {x0 : Nat} {x1 : Int32} {s0 : Nat} : ip_WP 80 12 [some (.ref x0), some (.int x1)] [.ref s0] (G, F, I, J) b post px ↔ ip_WP 80 14 [some (.ref x0), some (.int x1)] [.int 61, .ref s0] (G, F, I, J) b post px := ip_s_bipush f80_12 (by decide)
theorem f80_14 : ip_fetch 80 14 = some (.invokevirtual 269, 3) := by decide +kernel
set_option maxRecDepth 100000 in
theorem s80_14 {x0 : Nat} {x1 : Int32} {s0 : Nat} {s1 : Int32} : ip_WP 80 14 [some (.ref x0), some (.int x1)] [.int s1, .ref s0] (G, F, I, J) b post px ↔ (ip_isO G s0 1 = true ∧ ip_WP 74 0 [some (.ref s0), some (.int s1)] [] (G, F, I, J) (0, 0) (fun r h' => ip_WP 80 17 [some (.ref x0), some (.int x1)] (r.toList ++ []) h' b post px) (fun _ _ => False)) := ip_ck_iff (x := ip_cl 74 [some (.ref s0), some (.int s1)] [] (0, 0) b) ((ip_st_of f80_14).trans rfl) (ip_cl_iff)
theorem f80_17 : ip_fetch 80 17 = some (.aload_n 0, 1) := by decide +kernel
theorem s80_17 {x0 : Nat} {x1 : Int32} : ip_WP 80 17 [some (.ref x0), some (.int x1)] [] (G, F, I, J) b post px ↔ ip_WP 80 18 [some (.ref x0), some (.int x1)] [.ref x0] (G, F, I, J) b post px := ip_nx_iff ((ip_st_of f80_17).trans rfl)
theorem f80_18 : ip_fetch 80 18 = some (.aload_n 0, 1) := by decide +kernel
theorem s80_18 {x0 : Nat} {x1 : Int32} {s0 : Nat} : ip_WP 80 18 [some (.ref x0), some (.int x1)] [.ref s0] (G, F, I, J) b post px ↔ ip_WP 80 19 [some (.ref x0), some (.int x1)] [.ref x0, .ref s0] (G, F, I, J) b post px := ip_nx_iff ((ip_st_of f80_18).trans rfl)
theorem f80_19 : ip_fetch 80 19 = some (.getfield 40, 3) := by decide +kernel
set_option maxRecDepth 100000 in
theorem s80_19 {x0 : Nat} {x1 : Int32} {s0 : Nat} {s1 : Nat} : ip_WP 80 19 [some (.ref x0), some (.int x1)] [.ref s1, .ref s0] (G, F, I, J) b post px ↔ (ip_isO G s1 1 = true ∧ ip_WP 80 22 [some (.ref x0), some (.int x1)] [F s1 18, .ref s0] (G, F, I, J) b post px) := ip_s_getf f80_19 (by decide +kernel)
theorem f80_22 : ip_fetch 80 22 = some (.iload_n 1, 1) := by decide +kernel
theorem s80_22 {x0 : Nat} {x1 : Int32} {s0 : Nat} {s1 : Nat} : ip_WP 80 22 [some (.ref x0), some (.int x1)] [.ref s1, .ref s0] (G, F, I, J) b post px ↔ ip_WP 80 23 [some (.ref x0), some (.int x1)] [.int x1, .ref s1, .ref s0] (G, F, I, J) b post px := ip_nx_iff ((ip_st_of f80_22).trans rfl)
theorem f80_23 : ip_fetch 80 23 = some (.iaload, 1) := by decide +kernel
theorem s80_23 {x0 : Nat} {x1 : Int32} {s0 : Nat} {s1 : Nat} {s2 : Int32} : ip_WP 80 23 [some (.ref x0), some (.int x1)] [.int s2, .ref s1, .ref s0] (G, F, I, J) b post px ↔ (ip_inA G s1 0 s2 = true ∧ ip_WP 80 24 [some (.ref x0), some (.int x1)] [.int (I s1 s2.toNatClampNeg), .ref s0] (G, F, I, J) b post px) := ip_ck_iff ((ip_st_of f80_23).trans rfl) ip_nx_iff
theorem f80_24 : ip_fetch 80 24 = some (.invokevirtual 272, 3) := by decide +kernel
set_option maxRecDepth 100000 in
theorem s80_24 {x0 : Nat} {x1 : Int32} {s0 : Nat} {s1 : Int32} : ip_WP 80 24 [some (.ref x0), some (.int x1)] [.int s1, .ref s0] (G, F, I, J) b post px ↔ (ip_isO G s0 1 = true ∧ ip_WP 76 0 [some (.ref s0), some (.int s1)] [] (G, F, I, J) (0, 0) (fun r h' => ip_WP 80 27 [some (.ref x0), some (.int x1)] (r.toList ++ []) h' b post px) (fun _ _ => False)) := ip_ck_iff (x := ip_cl 76 [some (.ref s0), some (.int s1)] [] (0, 0) b) ((ip_st_of f80_24).trans rfl) (ip_cl_iff)
theorem f80_27 : ip_fetch 80 27 = some (.aload_n 0, 1) := by decide +kernel
theorem s80_27 {x0 : Nat} {x1 : Int32} : ip_WP 80 27 [some (.ref x0), some (.int x1)] [] (G, F, I, J) b post px ↔ ip_WP 80 28 [some (.ref x0), some (.int x1)] [.ref x0] (G, F, I, J) b post px := ip_nx_iff ((ip_st_of f80_27).trans rfl)
theorem f80_28 : ip_fetch 80 28 = some (.invokevirtual 266, 3) := by decide +kernel
set_option maxRecDepth 100000 in
theorem s80_28 {x0 : Nat} {x1 : Int32} {s0 : Nat} : ip_WP 80 28 [some (.ref x0), some (.int x1)] [.ref s0] (G, F, I, J) b post px ↔ (ip_isO G s0 1 = true ∧ ip_WP 77 0 [some (.ref s0)] [] (G, F, I, J) (0, 0) (fun r h' => ip_WP 80 31 [some (.ref x0), some (.int x1)] (r.toList ++ []) h' b post px) (fun _ _ => False)) := ip_ck_iff (x := ip_cl 77 [some (.ref s0)] [] (0, 0) b) ((ip_st_of f80_28).trans rfl) (ip_cl_iff)
theorem f80_31 : ip_fetch 80 31 = some (.aload_n 0, 1) := by decide +kernel
theorem s80_31 {x0 : Nat} {x1 : Int32} : ip_WP 80 31 [some (.ref x0), some (.int x1)] [] (G, F, I, J) b post px ↔ ip_WP 80 32 [some (.ref x0), some (.int x1)] [.ref x0] (G, F, I, J) b post px := ip_nx_iff ((ip_st_of f80_31).trans rfl)
theorem f80_32 : ip_fetch 80 32 = some (.getfield 47, 3) := by decide +kernel
set_option maxRecDepth 100000 in
theorem s80_32 {x0 : Nat} {x1 : Int32} {s0 : Nat} : ip_WP 80 32 [some (.ref x0), some (.int x1)] [.ref s0] (G, F, I, J) b post px ↔ (ip_isO G s0 1 = true ∧ ip_WP 80 35 [some (.ref x0), some (.int x1)] [F s0 20] (G, F, I, J) b post px) := ip_s_getf f80_32 (by decide +kernel)
theorem f80_35 : ip_fetch 80 35 = some (.iload_n 1, 1) := by decide +kernel
theorem s80_35 {x0 : Nat} {x1 : Int32} {s0 : Nat} : ip_WP 80 35 [some (.ref x0), some (.int x1)] [.ref s0] (G, F, I, J) b post px ↔ ip_WP 80 36 [some (.ref x0), some (.int x1)] [.int x1, .ref s0] (G, F, I, J) b post px := ip_nx_iff ((ip_st_of f80_35).trans rfl)
theorem f80_36 : ip_fetch 80 36 = some (.iaload, 1) := by decide +kernel
theorem s80_36 {x0 : Nat} {x1 : Int32} {s0 : Nat} {s1 : Int32} : ip_WP 80 36 [some (.ref x0), some (.int x1)] [.int s1, .ref s0] (G, F, I, J) b post px ↔ (ip_inA G s0 0 s1 = true ∧ ip_WP 80 37 [some (.ref x0), some (.int x1)] [.int (I s0 s1.toNatClampNeg)] (G, F, I, J) b post px) := ip_ck_iff ((ip_st_of f80_36).trans rfl) ip_nx_iff
theorem f80_37 : ip_fetch 80 37 = some (.ifCond .lt 35, 3) := by decide +kernel
theorem s80_37 {x0 : Nat} {x1 : Int32} {s0 : Int32} : ip_WP 80 37 [some (.ref x0), some (.int x1)] [.int s0] (G, F, I, J) b post px ↔ if s0 < 0 then ip_WP 80 72 [some (.ref x0), some (.int x1)] [] (G, F, I, J) b post px else ip_WP 80 40 [some (.ref x0), some (.int x1)] [] (G, F, I, J) b post px := ip_s_if_lt f80_37 rfl
theorem f80_40 : ip_fetch 80 40 = some (.aload_n 0, 1) := by decide +kernel
theorem s80_40 {x0 : Nat} {x1 : Int32} : ip_WP 80 40 [some (.ref x0), some (.int x1)] [] (G, F, I, J) b post px ↔ ip_WP 80 41 [some (.ref x0), some (.int x1)] [.ref x0] (G, F, I, J) b post px := ip_nx_iff ((ip_st_of f80_40).trans rfl)
theorem f80_41 : ip_fetch 80 41 = some (.iconst 4, 1) := by decide +kernel
theorem s80_41 {x0 : Nat} {x1 : Int32} {s0 : Nat} : ip_WP 80 41 [some (.ref x0), some (.int x1)] [.ref s0] (G, F, I, J) b post px ↔ ip_WP 80 42 [some (.ref x0), some (.int x1)] [.int 4, .ref s0] (G, F, I, J) b post px := ip_s_iconst f80_41 (by decide)
theorem f80_42 : ip_fetch 80 42 = some (.invokevirtual 256, 3) := by decide +kernel
set_option maxRecDepth 100000 in
theorem s80_42 {x0 : Nat} {x1 : Int32} {s0 : Nat} {s1 : Int32} : ip_WP 80 42 [some (.ref x0), some (.int x1)] [.int s1, .ref s0] (G, F, I, J) b post px ↔ (ip_isO G s0 1 = true ∧ ip_WP 72 0 [some (.ref s0), some (.int s1), none, none] [] (G, F, I, J) (0, 0) (fun r h' => ip_WP 80 45 [some (.ref x0), some (.int x1)] (r.toList ++ []) h' b post px) (fun _ _ => False)) := ip_ck_iff (x := ip_cl 72 [some (.ref s0), some (.int s1), none, none] [] (0, 0) b) ((ip_st_of f80_42).trans rfl) (ip_cl_iff)
theorem f80_45 : ip_fetch 80 45 = some (.aload_n 0, 1) := by decide +kernel
theorem s80_45 {x0 : Nat} {x1 : Int32} : ip_WP 80 45 [some (.ref x0), some (.int x1)] [] (G, F, I, J) b post px ↔ ip_WP 80 46 [some (.ref x0), some (.int x1)] [.ref x0] (G, F, I, J) b post px := ip_nx_iff ((ip_st_of f80_45).trans rfl)
theorem f80_46 : ip_fetch 80 46 = some (.iconst 0, 1) := by decide +kernel
theorem s80_46 {x0 : Nat} {x1 : Int32} {s0 : Nat} : ip_WP 80 46 [some (.ref x0), some (.int x1)] [.ref s0] (G, F, I, J) b post px ↔ ip_WP 80 47 [some (.ref x0), some (.int x1)] [.int 0, .ref s0] (G, F, I, J) b post px := ip_s_iconst f80_46 (by decide)
theorem f80_47 : ip_fetch 80 47 = some (.iload_n 1, 1) := by decide +kernel
theorem s80_47 {x0 : Nat} {x1 : Int32} {s0 : Nat} {s1 : Int32} : ip_WP 80 47 [some (.ref x0), some (.int x1)] [.int s1, .ref s0] (G, F, I, J) b post px ↔ ip_WP 80 48 [some (.ref x0), some (.int x1)] [.int x1, .int s1, .ref s0] (G, F, I, J) b post px := ip_nx_iff ((ip_st_of f80_47).trans rfl)
theorem f80_48 : ip_fetch 80 48 = some (.invokevirtual 263, 3) := by decide +kernel
set_option maxRecDepth 100000 in
theorem s80_48 {x0 : Nat} {x1 : Int32} {s0 : Nat} {s1 : Int32} {s2 : Int32} : ip_WP 80 48 [some (.ref x0), some (.int x1)] [.int s2, .int s1, .ref s0] (G, F, I, J) b post px ↔ (ip_isO G s0 1 = true ∧ ip_WP 73 0 [some (.ref s0), some (.int s1), some (.int s2), none, none] [] (G, F, I, J) (0, 0) (fun r h' => ip_WP 80 51 [some (.ref x0), some (.int x1)] (r.toList ++ []) h' b post px) (fun _ _ => False)) := ip_ck_iff (x := ip_cl 73 [some (.ref s0), some (.int s1), some (.int s2), none, none] [] (0, 0) b) ((ip_st_of f80_48).trans rfl) (ip_cl_iff)
theorem f80_51 : ip_fetch 80 51 = some (.aload_n 0, 1) := by decide +kernel
theorem s80_51 {x0 : Nat} {x1 : Int32} : ip_WP 80 51 [some (.ref x0), some (.int x1)] [] (G, F, I, J) b post px ↔ ip_WP 80 52 [some (.ref x0), some (.int x1)] [.ref x0] (G, F, I, J) b post px := ip_nx_iff ((ip_st_of f80_51).trans rfl)
theorem f80_52 : ip_fetch 80 52 = some (.bipush 62, 2) := by decide +kernel
theorem s80_52 {x0 : Nat} {x1 : Int32} {s0 : Nat} : ip_WP 80 52 [some (.ref x0), some (.int x1)] [.ref s0] (G, F, I, J) b post px ↔ ip_WP 80 54 [some (.ref x0), some (.int x1)] [.int 62, .ref s0] (G, F, I, J) b post px := ip_s_bipush f80_52 (by decide)
theorem f80_54 : ip_fetch 80 54 = some (.invokevirtual 269, 3) := by decide +kernel
set_option maxRecDepth 100000 in
theorem s80_54 {x0 : Nat} {x1 : Int32} {s0 : Nat} {s1 : Int32} : ip_WP 80 54 [some (.ref x0), some (.int x1)] [.int s1, .ref s0] (G, F, I, J) b post px ↔ (ip_isO G s0 1 = true ∧ ip_WP 74 0 [some (.ref s0), some (.int s1)] [] (G, F, I, J) (0, 0) (fun r h' => ip_WP 80 57 [some (.ref x0), some (.int x1)] (r.toList ++ []) h' b post px) (fun _ _ => False)) := ip_ck_iff (x := ip_cl 74 [some (.ref s0), some (.int s1)] [] (0, 0) b) ((ip_st_of f80_54).trans rfl) (ip_cl_iff)
theorem f80_57 : ip_fetch 80 57 = some (.aload_n 0, 1) := by decide +kernel
theorem s80_57 {x0 : Nat} {x1 : Int32} : ip_WP 80 57 [some (.ref x0), some (.int x1)] [] (G, F, I, J) b post px ↔ ip_WP 80 58 [some (.ref x0), some (.int x1)] [.ref x0] (G, F, I, J) b post px := ip_nx_iff ((ip_st_of f80_57).trans rfl)
theorem f80_58 : ip_fetch 80 58 = some (.iconst 1, 1) := by decide +kernel
theorem s80_58 {x0 : Nat} {x1 : Int32} {s0 : Nat} : ip_WP 80 58 [some (.ref x0), some (.int x1)] [.ref s0] (G, F, I, J) b post px ↔ ip_WP 80 59 [some (.ref x0), some (.int x1)] [.int 1, .ref s0] (G, F, I, J) b post px := ip_s_iconst f80_58 (by decide)
theorem f80_59 : ip_fetch 80 59 = some (.aload_n 0, 1) := by decide +kernel
theorem s80_59 {x0 : Nat} {x1 : Int32} {s0 : Nat} {s1 : Int32} : ip_WP 80 59 [some (.ref x0), some (.int x1)] [.int s1, .ref s0] (G, F, I, J) b post px ↔ ip_WP 80 60 [some (.ref x0), some (.int x1)] [.ref x0, .int s1, .ref s0] (G, F, I, J) b post px := ip_nx_iff ((ip_st_of f80_59).trans rfl)
theorem f80_60 : ip_fetch 80 60 = some (.getfield 47, 3) := by decide +kernel
set_option maxRecDepth 100000 in
theorem s80_60 {x0 : Nat} {x1 : Int32} {s0 : Nat} {s1 : Int32} {s2 : Nat} : ip_WP 80 60 [some (.ref x0), some (.int x1)] [.ref s2, .int s1, .ref s0] (G, F, I, J) b post px ↔ (ip_isO G s2 1 = true ∧ ip_WP 80 63 [some (.ref x0), some (.int x1)] [F s2 20, .int s1, .ref s0] (G, F, I, J) b post px) := ip_s_getf f80_60 (by decide +kernel)
theorem f80_63 : ip_fetch 80 63 = some (.iload_n 1, 1) := by decide +kernel
theorem s80_63 {x0 : Nat} {x1 : Int32} {s0 : Nat} {s1 : Int32} {s2 : Nat} : ip_WP 80 63 [some (.ref x0), some (.int x1)] [.ref s2, .int s1, .ref s0] (G, F, I, J) b post px ↔ ip_WP 80 64 [some (.ref x0), some (.int x1)] [.int x1, .ref s2, .int s1, .ref s0] (G, F, I, J) b post px := ip_nx_iff ((ip_st_of f80_63).trans rfl)
theorem f80_64 : ip_fetch 80 64 = some (.iaload, 1) := by decide +kernel
theorem s80_64 {x0 : Nat} {x1 : Int32} {s0 : Nat} {s1 : Int32} {s2 : Nat} {s3 : Int32} : ip_WP 80 64 [some (.ref x0), some (.int x1)] [.int s3, .ref s2, .int s1, .ref s0] (G, F, I, J) b post px ↔ (ip_inA G s2 0 s3 = true ∧ ip_WP 80 65 [some (.ref x0), some (.int x1)] [.int (I s2 s3.toNatClampNeg), .int s1, .ref s0] (G, F, I, J) b post px) := ip_ck_iff ((ip_st_of f80_64).trans rfl) ip_nx_iff
theorem f80_65 : ip_fetch 80 65 = some (.invokevirtual 263, 3) := by decide +kernel
set_option maxRecDepth 100000 in
theorem s80_65 {x0 : Nat} {x1 : Int32} {s0 : Nat} {s1 : Int32} {s2 : Int32} : ip_WP 80 65 [some (.ref x0), some (.int x1)] [.int s2, .int s1, .ref s0] (G, F, I, J) b post px ↔ (ip_isO G s0 1 = true ∧ ip_WP 73 0 [some (.ref s0), some (.int s1), some (.int s2), none, none] [] (G, F, I, J) (0, 0) (fun r h' => ip_WP 80 68 [some (.ref x0), some (.int x1)] (r.toList ++ []) h' b post px) (fun _ _ => False)) := ip_ck_iff (x := ip_cl 73 [some (.ref s0), some (.int s1), some (.int s2), none, none] [] (0, 0) b) ((ip_st_of f80_65).trans rfl) (ip_cl_iff)
theorem f80_68 : ip_fetch 80 68 = some (.aload_n 0, 1) := by decide +kernel
theorem s80_68 {x0 : Nat} {x1 : Int32} : ip_WP 80 68 [some (.ref x0), some (.int x1)] [] (G, F, I, J) b post px ↔ ip_WP 80 69 [some (.ref x0), some (.int x1)] [.ref x0] (G, F, I, J) b post px := ip_nx_iff ((ip_st_of f80_68).trans rfl)
theorem f80_69 : ip_fetch 80 69 = some (.invokevirtual 266, 3) := by decide +kernel
set_option maxRecDepth 100000 in
theorem s80_69 {x0 : Nat} {x1 : Int32} {s0 : Nat} : ip_WP 80 69 [some (.ref x0), some (.int x1)] [.ref s0] (G, F, I, J) b post px ↔ (ip_isO G s0 1 = true ∧ ip_WP 77 0 [some (.ref s0)] [] (G, F, I, J) (0, 0) (fun r h' => ip_WP 80 72 [some (.ref x0), some (.int x1)] (r.toList ++ []) h' b post px) (fun _ _ => False)) := ip_ck_iff (x := ip_cl 77 [some (.ref s0)] [] (0, 0) b) ((ip_st_of f80_69).trans rfl) (ip_cl_iff)
theorem f80_72 : ip_fetch 80 72 = some (.aload_n 0, 1) := by decide +kernel
theorem s80_72 {x0 : Nat} {x1 : Int32} : ip_WP 80 72 [some (.ref x0), some (.int x1)] [] (G, F, I, J) b post px ↔ ip_WP 80 73 [some (.ref x0), some (.int x1)] [.ref x0] (G, F, I, J) b post px := ip_nx_iff ((ip_st_of f80_72).trans rfl)
theorem f80_73 : ip_fetch 80 73 = some (.getfield 50, 3) := by decide +kernel
set_option maxRecDepth 100000 in
theorem s80_73 {x0 : Nat} {x1 : Int32} {s0 : Nat} : ip_WP 80 73 [some (.ref x0), some (.int x1)] [.ref s0] (G, F, I, J) b post px ↔ (ip_isO G s0 1 = true ∧ ip_WP 80 76 [some (.ref x0), some (.int x1)] [F s0 21] (G, F, I, J) b post px) := ip_s_getf f80_73 (by decide +kernel)
theorem f80_76 : ip_fetch 80 76 = some (.iload_n 1, 1) := by decide +kernel
theorem s80_76 {x0 : Nat} {x1 : Int32} {s0 : Nat} : ip_WP 80 76 [some (.ref x0), some (.int x1)] [.ref s0] (G, F, I, J) b post px ↔ ip_WP 80 77 [some (.ref x0), some (.int x1)] [.int x1, .ref s0] (G, F, I, J) b post px := ip_nx_iff ((ip_st_of f80_76).trans rfl)
theorem f80_77 : ip_fetch 80 77 = some (.baload, 1) := by decide +kernel
theorem s80_77 {x0 : Nat} {x1 : Int32} {s0 : Nat} {s1 : Int32} : ip_WP 80 77 [some (.ref x0), some (.int x1)] [.int s1, .ref s0] (G, F, I, J) b post px ↔ ((ip_inA G s0 1 s1 || ip_inA G s0 3 s1) = true ∧ ip_WP 80 78 [some (.ref x0), some (.int x1)] [.int (I s0 s1.toNatClampNeg)] (G, F, I, J) b post px) := ip_ck_iff ((ip_st_of f80_77).trans rfl) ip_nx_iff
theorem f80_78 : ip_fetch 80 78 = some (.ifCond .eq 19, 3) := by decide +kernel
theorem s80_78 {x0 : Nat} {x1 : Int32} {s0 : Int32} : ip_WP 80 78 [some (.ref x0), some (.int x1)] [.int s0] (G, F, I, J) b post px ↔ if s0 = 0 then ip_WP 80 97 [some (.ref x0), some (.int x1)] [] (G, F, I, J) b post px else ip_WP 80 81 [some (.ref x0), some (.int x1)] [] (G, F, I, J) b post px := ip_s_if_eq f80_78 rfl
theorem f80_81 : ip_fetch 80 81 = some (.aload_n 0, 1) := by decide +kernel
theorem s80_81 {x0 : Nat} {x1 : Int32} : ip_WP 80 81 [some (.ref x0), some (.int x1)] [] (G, F, I, J) b post px ↔ ip_WP 80 82 [some (.ref x0), some (.int x1)] [.ref x0] (G, F, I, J) b post px := ip_nx_iff ((ip_st_of f80_81).trans rfl)
theorem f80_82 : ip_fetch 80 82 = some (.bipush 6, 2) := by decide +kernel
theorem s80_82 {x0 : Nat} {x1 : Int32} {s0 : Nat} : ip_WP 80 82 [some (.ref x0), some (.int x1)] [.ref s0] (G, F, I, J) b post px ↔ ip_WP 80 84 [some (.ref x0), some (.int x1)] [.int 6, .ref s0] (G, F, I, J) b post px := ip_s_bipush f80_82 (by decide)
theorem f80_84 : ip_fetch 80 84 = some (.invokevirtual 256, 3) := by decide +kernel
set_option maxRecDepth 100000 in
theorem s80_84 {x0 : Nat} {x1 : Int32} {s0 : Nat} {s1 : Int32} : ip_WP 80 84 [some (.ref x0), some (.int x1)] [.int s1, .ref s0] (G, F, I, J) b post px ↔ (ip_isO G s0 1 = true ∧ ip_WP 72 0 [some (.ref s0), some (.int s1), none, none] [] (G, F, I, J) (0, 0) (fun r h' => ip_WP 80 87 [some (.ref x0), some (.int x1)] (r.toList ++ []) h' b post px) (fun _ _ => False)) := ip_ck_iff (x := ip_cl 72 [some (.ref s0), some (.int s1), none, none] [] (0, 0) b) ((ip_st_of f80_84).trans rfl) (ip_cl_iff)
theorem f80_87 : ip_fetch 80 87 = some (.aload_n 0, 1) := by decide +kernel
theorem s80_87 {x0 : Nat} {x1 : Int32} : ip_WP 80 87 [some (.ref x0), some (.int x1)] [] (G, F, I, J) b post px ↔ ip_WP 80 88 [some (.ref x0), some (.int x1)] [.ref x0] (G, F, I, J) b post px := ip_nx_iff ((ip_st_of f80_87).trans rfl)
theorem f80_88 : ip_fetch 80 88 = some (.iconst 0, 1) := by decide +kernel
theorem s80_88 {x0 : Nat} {x1 : Int32} {s0 : Nat} : ip_WP 80 88 [some (.ref x0), some (.int x1)] [.ref s0] (G, F, I, J) b post px ↔ ip_WP 80 89 [some (.ref x0), some (.int x1)] [.int 0, .ref s0] (G, F, I, J) b post px := ip_s_iconst f80_88 (by decide)
theorem f80_89 : ip_fetch 80 89 = some (.iload_n 1, 1) := by decide +kernel
theorem s80_89 {x0 : Nat} {x1 : Int32} {s0 : Nat} {s1 : Int32} : ip_WP 80 89 [some (.ref x0), some (.int x1)] [.int s1, .ref s0] (G, F, I, J) b post px ↔ ip_WP 80 90 [some (.ref x0), some (.int x1)] [.int x1, .int s1, .ref s0] (G, F, I, J) b post px := ip_nx_iff ((ip_st_of f80_89).trans rfl)
theorem f80_90 : ip_fetch 80 90 = some (.invokevirtual 263, 3) := by decide +kernel
set_option maxRecDepth 100000 in
theorem s80_90 {x0 : Nat} {x1 : Int32} {s0 : Nat} {s1 : Int32} {s2 : Int32} : ip_WP 80 90 [some (.ref x0), some (.int x1)] [.int s2, .int s1, .ref s0] (G, F, I, J) b post px ↔ (ip_isO G s0 1 = true ∧ ip_WP 73 0 [some (.ref s0), some (.int s1), some (.int s2), none, none] [] (G, F, I, J) (0, 0) (fun r h' => ip_WP 80 93 [some (.ref x0), some (.int x1)] (r.toList ++ []) h' b post px) (fun _ _ => False)) := ip_ck_iff (x := ip_cl 73 [some (.ref s0), some (.int s1), some (.int s2), none, none] [] (0, 0) b) ((ip_st_of f80_90).trans rfl) (ip_cl_iff)
theorem f80_93 : ip_fetch 80 93 = some (.aload_n 0, 1) := by decide +kernel
theorem s80_93 {x0 : Nat} {x1 : Int32} : ip_WP 80 93 [some (.ref x0), some (.int x1)] [] (G, F, I, J) b post px ↔ ip_WP 80 94 [some (.ref x0), some (.int x1)] [.ref x0] (G, F, I, J) b post px := ip_nx_iff ((ip_st_of f80_93).trans rfl)
theorem f80_94 : ip_fetch 80 94 = some (.invokevirtual 266, 3) := by decide +kernel
set_option maxRecDepth 100000 in
theorem s80_94 {x0 : Nat} {x1 : Int32} {s0 : Nat} : ip_WP 80 94 [some (.ref x0), some (.int x1)] [.ref s0] (G, F, I, J) b post px ↔ (ip_isO G s0 1 = true ∧ ip_WP 77 0 [some (.ref s0)] [] (G, F, I, J) (0, 0) (fun r h' => ip_WP 80 97 [some (.ref x0), some (.int x1)] (r.toList ++ []) h' b post px) (fun _ _ => False)) := ip_ck_iff (x := ip_cl 77 [some (.ref s0)] [] (0, 0) b) ((ip_st_of f80_94).trans rfl) (ip_cl_iff)
theorem f80_97 : ip_fetch 80 97 = some (.return_, 1) := by decide +kernel
theorem s80_97 {x0 : Nat} {x1 : Int32} : ip_WP 80 97 [some (.ref x0), some (.int x1)] [] (G, F, I, J) b post px ↔ post none (G, F, I, J) := ip_rt_iff ((ip_st_of f80_97).trans rfl)
theorem f81_0 : ip_fetch 81 0 = some (.aload_n 0, 1) := by decide +kernel
theorem s81_0 {x0 : Nat} {x1 : Int32} : ip_WP 81 0 [some (.ref x0), some (.int x1)] [] (G, F, I, J) b post px ↔ ip_WP 81 1 [some (.ref x0), some (.int x1)] [.ref x0] (G, F, I, J) b post px := ip_nx_iff ((ip_st_of f81_0).trans rfl)
theorem f81_1 : ip_fetch 81 1 = some (.bipush 7, 2) := by decide +kernel
theorem s81_1 {x0 : Nat} {x1 : Int32} {s0 : Nat} : ip_WP 81 1 [some (.ref x0), some (.int x1)] [.ref s0] (G, F, I, J) b post px ↔ ip_WP 81 3 [some (.ref x0), some (.int x1)] [.int 7, .ref s0] (G, F, I, J) b post px := ip_s_bipush f81_1 (by decide)
theorem f81_3 : ip_fetch 81 3 = some (.invokevirtual 256, 3) := by decide +kernel
set_option maxRecDepth 100000 in
theorem s81_3 {x0 : Nat} {x1 : Int32} {s0 : Nat} {s1 : Int32} : ip_WP 81 3 [some (.ref x0), some (.int x1)] [.int s1, .ref s0] (G, F, I, J) b post px ↔ (ip_isO G s0 1 = true ∧ ip_WP 72 0 [some (.ref s0), some (.int s1), none, none] [] (G, F, I, J) (0, 0) (fun r h' => ip_WP 81 6 [some (.ref x0), some (.int x1)] (r.toList ++ []) h' b post px) (fun _ _ => False)) := ip_ck_iff (x := ip_cl 72 [some (.ref s0), some (.int s1), none, none] [] (0, 0) b) ((ip_st_of f81_3).trans rfl) (ip_cl_iff)
theorem f81_6 : ip_fetch 81 6 = some (.aload_n 0, 1) := by decide +kernel
theorem s81_6 {x0 : Nat} {x1 : Int32} : ip_WP 81 6 [some (.ref x0), some (.int x1)] [] (G, F, I, J) b post px ↔ ip_WP 81 7 [some (.ref x0), some (.int x1)] [.ref x0] (G, F, I, J) b post px := ip_nx_iff ((ip_st_of f81_6).trans rfl)
theorem f81_7 : ip_fetch 81 7 = some (.iconst 2, 1) := by decide +kernel
theorem s81_7 {x0 : Nat} {x1 : Int32} {s0 : Nat} : ip_WP 81 7 [some (.ref x0), some (.int x1)] [.ref s0] (G, F, I, J) b post px ↔ ip_WP 81 8 [some (.ref x0), some (.int x1)] [.int 2, .ref s0] (G, F, I, J) b post px := ip_s_iconst f81_7 (by decide)
theorem f81_8 : ip_fetch 81 8 = some (.iload_n 1, 1) := by decide +kernel
theorem s81_8 {x0 : Nat} {x1 : Int32} {s0 : Nat} {s1 : Int32} : ip_WP 81 8 [some (.ref x0), some (.int x1)] [.int s1, .ref s0] (G, F, I, J) b post px ↔ ip_WP 81 9 [some (.ref x0), some (.int x1)] [.int x1, .int s1, .ref s0] (G, F, I, J) b post px := ip_nx_iff ((ip_st_of f81_8).trans rfl)
theorem f81_9 : ip_fetch 81 9 = some (.invokevirtual 263, 3) := by decide +kernel
set_option maxRecDepth 100000 in
theorem s81_9 {x0 : Nat} {x1 : Int32} {s0 : Nat} {s1 : Int32} {s2 : Int32} : ip_WP 81 9 [some (.ref x0), some (.int x1)] [.int s2, .int s1, .ref s0] (G, F, I, J) b post px ↔ (ip_isO G s0 1 = true ∧ ip_WP 73 0 [some (.ref s0), some (.int s1), some (.int s2), none, none] [] (G, F, I, J) (0, 0) (fun r h' => ip_WP 81 12 [some (.ref x0), some (.int x1)] (r.toList ++ []) h' b post px) (fun _ _ => False)) := ip_ck_iff (x := ip_cl 73 [some (.ref s0), some (.int s1), some (.int s2), none, none] [] (0, 0) b) ((ip_st_of f81_9).trans rfl) (ip_cl_iff)
theorem f81_12 : ip_fetch 81 12 = some (.aload_n 0, 1) := by decide +kernel
theorem s81_12 {x0 : Nat} {x1 : Int32} : ip_WP 81 12 [some (.ref x0), some (.int x1)] [] (G, F, I, J) b post px ↔ ip_WP 81 13 [some (.ref x0), some (.int x1)] [.ref x0] (G, F, I, J) b post px := ip_nx_iff ((ip_st_of f81_12).trans rfl)
theorem f81_13 : ip_fetch 81 13 = some (.bipush 61, 2) := by decide +kernel
theorem s81_13 {x0 : Nat} {x1 : Int32} {s0 : Nat} : ip_WP 81 13 [some (.ref x0), some (.int x1)] [.ref s0] (G, F, I, J) b post px ↔ ip_WP 81 15 [some (.ref x0), some (.int x1)] [.int 61, .ref s0] (G, F, I, J) b post px := ip_s_bipush f81_13 (by decide)
theorem f81_15 : ip_fetch 81 15 = some (.invokevirtual 269, 3) := by decide +kernel
set_option maxRecDepth 100000 in
theorem s81_15 {x0 : Nat} {x1 : Int32} {s0 : Nat} {s1 : Int32} : ip_WP 81 15 [some (.ref x0), some (.int x1)] [.int s1, .ref s0] (G, F, I, J) b post px ↔ (ip_isO G s0 1 = true ∧ ip_WP 74 0 [some (.ref s0), some (.int s1)] [] (G, F, I, J) (0, 0) (fun r h' => ip_WP 81 18 [some (.ref x0), some (.int x1)] (r.toList ++ []) h' b post px) (fun _ _ => False)) := ip_ck_iff (x := ip_cl 74 [some (.ref s0), some (.int s1)] [] (0, 0) b) ((ip_st_of f81_15).trans rfl) (ip_cl_iff)
theorem f81_18 : ip_fetch 81 18 = some (.aload_n 0, 1) := by decide +kernel
theorem s81_18 {x0 : Nat} {x1 : Int32} : ip_WP 81 18 [some (.ref x0), some (.int x1)] [] (G, F, I, J) b post px ↔ ip_WP 81 19 [some (.ref x0), some (.int x1)] [.ref x0] (G, F, I, J) b post px := ip_nx_iff ((ip_st_of f81_18).trans rfl)
theorem f81_19 : ip_fetch 81 19 = some (.aload_n 0, 1) := by decide +kernel
theorem s81_19 {x0 : Nat} {x1 : Int32} {s0 : Nat} : ip_WP 81 19 [some (.ref x0), some (.int x1)] [.ref s0] (G, F, I, J) b post px ↔ ip_WP 81 20 [some (.ref x0), some (.int x1)] [.ref x0, .ref s0] (G, F, I, J) b post px := ip_nx_iff ((ip_st_of f81_19).trans rfl)
theorem f81_20 : ip_fetch 81 20 = some (.getfield 62, 3) := by decide +kernel
set_option maxRecDepth 100000 in
theorem s81_20 {x0 : Nat} {x1 : Int32} {s0 : Nat} {s1 : Nat} : ip_WP 81 20 [some (.ref x0), some (.int x1)] [.ref s1, .ref s0] (G, F, I, J) b post px ↔ (ip_isO G s1 1 = true ∧ ip_WP 81 23 [some (.ref x0), some (.int x1)] [F s1 26, .ref s0] (G, F, I, J) b post px) := ip_s_getf f81_20 (by decide +kernel)
theorem f81_23 : ip_fetch 81 23 = some (.iload_n 1, 1) := by decide +kernel
theorem s81_23 {x0 : Nat} {x1 : Int32} {s0 : Nat} {s1 : Nat} : ip_WP 81 23 [some (.ref x0), some (.int x1)] [.ref s1, .ref s0] (G, F, I, J) b post px ↔ ip_WP 81 24 [some (.ref x0), some (.int x1)] [.int x1, .ref s1, .ref s0] (G, F, I, J) b post px := ip_nx_iff ((ip_st_of f81_23).trans rfl)
theorem f81_24 : ip_fetch 81 24 = some (.iaload, 1) := by decide +kernel
theorem s81_24 {x0 : Nat} {x1 : Int32} {s0 : Nat} {s1 : Nat} {s2 : Int32} : ip_WP 81 24 [some (.ref x0), some (.int x1)] [.int s2, .ref s1, .ref s0] (G, F, I, J) b post px ↔ (ip_inA G s1 0 s2 = true ∧ ip_WP 81 25 [some (.ref x0), some (.int x1)] [.int (I s1 s2.toNatClampNeg), .ref s0] (G, F, I, J) b post px) := ip_ck_iff ((ip_st_of f81_24).trans rfl) ip_nx_iff
theorem f81_25 : ip_fetch 81 25 = some (.invokevirtual 272, 3) := by decide +kernel
set_option maxRecDepth 100000 in
theorem s81_25 {x0 : Nat} {x1 : Int32} {s0 : Nat} {s1 : Int32} : ip_WP 81 25 [some (.ref x0), some (.int x1)] [.int s1, .ref s0] (G, F, I, J) b post px ↔ (ip_isO G s0 1 = true ∧ ip_WP 76 0 [some (.ref s0), some (.int s1)] [] (G, F, I, J) (0, 0) (fun r h' => ip_WP 81 28 [some (.ref x0), some (.int x1)] (r.toList ++ []) h' b post px) (fun _ _ => False)) := ip_ck_iff (x := ip_cl 76 [some (.ref s0), some (.int s1)] [] (0, 0) b) ((ip_st_of f81_25).trans rfl) (ip_cl_iff)
theorem f81_28 : ip_fetch 81 28 = some (.aload_n 0, 1) := by decide +kernel
theorem s81_28 {x0 : Nat} {x1 : Int32} : ip_WP 81 28 [some (.ref x0), some (.int x1)] [] (G, F, I, J) b post px ↔ ip_WP 81 29 [some (.ref x0), some (.int x1)] [.ref x0] (G, F, I, J) b post px := ip_nx_iff ((ip_st_of f81_28).trans rfl)
theorem f81_29 : ip_fetch 81 29 = some (.getfield 65, 3) := by decide +kernel
set_option maxRecDepth 100000 in
theorem s81_29 {x0 : Nat} {x1 : Int32} {s0 : Nat} : ip_WP 81 29 [some (.ref x0), some (.int x1)] [.ref s0] (G, F, I, J) b post px ↔ (ip_isO G s0 1 = true ∧ ip_WP 81 32 [some (.ref x0), some (.int x1)] [F s0 27] (G, F, I, J) b post px) := ip_s_getf f81_29 (by decide +kernel)
theorem f81_32 : ip_fetch 81 32 = some (.iload_n 1, 1) := by decide +kernel
theorem s81_32 {x0 : Nat} {x1 : Int32} {s0 : Nat} : ip_WP 81 32 [some (.ref x0), some (.int x1)] [.ref s0] (G, F, I, J) b post px ↔ ip_WP 81 33 [some (.ref x0), some (.int x1)] [.int x1, .ref s0] (G, F, I, J) b post px := ip_nx_iff ((ip_st_of f81_32).trans rfl)
theorem f81_33 : ip_fetch 81 33 = some (.iaload, 1) := by decide +kernel
theorem s81_33 {x0 : Nat} {x1 : Int32} {s0 : Nat} {s1 : Int32} : ip_WP 81 33 [some (.ref x0), some (.int x1)] [.int s1, .ref s0] (G, F, I, J) b post px ↔ (ip_inA G s0 0 s1 = true ∧ ip_WP 81 34 [some (.ref x0), some (.int x1)] [.int (I s0 s1.toNatClampNeg)] (G, F, I, J) b post px) := ip_ck_iff ((ip_st_of f81_33).trans rfl) ip_nx_iff
theorem f81_34 : ip_fetch 81 34 = some (.ifCond .lt 26, 3) := by decide +kernel
theorem s81_34 {x0 : Nat} {x1 : Int32} {s0 : Int32} : ip_WP 81 34 [some (.ref x0), some (.int x1)] [.int s0] (G, F, I, J) b post px ↔ if s0 < 0 then ip_WP 81 60 [some (.ref x0), some (.int x1)] [] (G, F, I, J) b post px else ip_WP 81 37 [some (.ref x0), some (.int x1)] [] (G, F, I, J) b post px := ip_s_if_lt f81_34 rfl
theorem f81_37 : ip_fetch 81 37 = some (.aload_n 0, 1) := by decide +kernel
theorem s81_37 {x0 : Nat} {x1 : Int32} : ip_WP 81 37 [some (.ref x0), some (.int x1)] [] (G, F, I, J) b post px ↔ ip_WP 81 38 [some (.ref x0), some (.int x1)] [.ref x0] (G, F, I, J) b post px := ip_nx_iff ((ip_st_of f81_37).trans rfl)
theorem f81_38 : ip_fetch 81 38 = some (.bipush 32, 2) := by decide +kernel
theorem s81_38 {x0 : Nat} {x1 : Int32} {s0 : Nat} : ip_WP 81 38 [some (.ref x0), some (.int x1)] [.ref s0] (G, F, I, J) b post px ↔ ip_WP 81 40 [some (.ref x0), some (.int x1)] [.int 32, .ref s0] (G, F, I, J) b post px := ip_s_bipush f81_38 (by decide)
theorem f81_40 : ip_fetch 81 40 = some (.invokevirtual 253, 3) := by decide +kernel
set_option maxRecDepth 100000 in
theorem s81_40 {x0 : Nat} {x1 : Int32} {s0 : Nat} {s1 : Int32} : ip_WP 81 40 [some (.ref x0), some (.int x1)] [.int s1, .ref s0] (G, F, I, J) b post px ↔ (ip_isO G s0 1 = true ∧ ip_WP 71 0 [some (.ref s0), some (.int s1)] [] (G, F, I, J) (0, 0) (fun r h' => ip_WP 81 43 [some (.ref x0), some (.int x1)] (r.toList ++ []) h' b post px) (fun _ _ => False)) := ip_ck_iff (x := ip_cl 71 [some (.ref s0), some (.int s1)] [] (0, 0) b) ((ip_st_of f81_40).trans rfl) (ip_cl_iff)
theorem f81_43 : ip_fetch 81 43 = some (.aload_n 0, 1) := by decide +kernel
theorem s81_43 {x0 : Nat} {x1 : Int32} : ip_WP 81 43 [some (.ref x0), some (.int x1)] [] (G, F, I, J) b post px ↔ ip_WP 81 44 [some (.ref x0), some (.int x1)] [.ref x0] (G, F, I, J) b post px := ip_nx_iff ((ip_st_of f81_43).trans rfl)
theorem f81_44 : ip_fetch 81 44 = some (.bipush 8, 2) := by decide +kernel
theorem s81_44 {x0 : Nat} {x1 : Int32} {s0 : Nat} : ip_WP 81 44 [some (.ref x0), some (.int x1)] [.ref s0] (G, F, I, J) b post px ↔ ip_WP 81 46 [some (.ref x0), some (.int x1)] [.int 8, .ref s0] (G, F, I, J) b post px := ip_s_bipush f81_44 (by decide)
theorem f81_46 : ip_fetch 81 46 = some (.invokevirtual 256, 3) := by decide +kernel
set_option maxRecDepth 100000 in
theorem s81_46 {x0 : Nat} {x1 : Int32} {s0 : Nat} {s1 : Int32} : ip_WP 81 46 [some (.ref x0), some (.int x1)] [.int s1, .ref s0] (G, F, I, J) b post px ↔ (ip_isO G s0 1 = true ∧ ip_WP 72 0 [some (.ref s0), some (.int s1), none, none] [] (G, F, I, J) (0, 0) (fun r h' => ip_WP 81 49 [some (.ref x0), some (.int x1)] (r.toList ++ []) h' b post px) (fun _ _ => False)) := ip_ck_iff (x := ip_cl 72 [some (.ref s0), some (.int s1), none, none] [] (0, 0) b) ((ip_st_of f81_46).trans rfl) (ip_cl_iff)
theorem f81_49 : ip_fetch 81 49 = some (.aload_n 0, 1) := by decide +kernel
theorem s81_49 {x0 : Nat} {x1 : Int32} : ip_WP 81 49 [some (.ref x0), some (.int x1)] [] (G, F, I, J) b post px ↔ ip_WP 81 50 [some (.ref x0), some (.int x1)] [.ref x0] (G, F, I, J) b post px := ip_nx_iff ((ip_st_of f81_49).trans rfl)
theorem f81_50 : ip_fetch 81 50 = some (.iconst 1, 1) := by decide +kernel
theorem s81_50 {x0 : Nat} {x1 : Int32} {s0 : Nat} : ip_WP 81 50 [some (.ref x0), some (.int x1)] [.ref s0] (G, F, I, J) b post px ↔ ip_WP 81 51 [some (.ref x0), some (.int x1)] [.int 1, .ref s0] (G, F, I, J) b post px := ip_s_iconst f81_50 (by decide)
theorem f81_51 : ip_fetch 81 51 = some (.aload_n 0, 1) := by decide +kernel
theorem s81_51 {x0 : Nat} {x1 : Int32} {s0 : Nat} {s1 : Int32} : ip_WP 81 51 [some (.ref x0), some (.int x1)] [.int s1, .ref s0] (G, F, I, J) b post px ↔ ip_WP 81 52 [some (.ref x0), some (.int x1)] [.ref x0, .int s1, .ref s0] (G, F, I, J) b post px := ip_nx_iff ((ip_st_of f81_51).trans rfl)
theorem f81_52 : ip_fetch 81 52 = some (.getfield 65, 3) := by decide +kernel
set_option maxRecDepth 100000 in
theorem s81_52 {x0 : Nat} {x1 : Int32} {s0 : Nat} {s1 : Int32} {s2 : Nat} : ip_WP 81 52 [some (.ref x0), some (.int x1)] [.ref s2, .int s1, .ref s0] (G, F, I, J) b post px ↔ (ip_isO G s2 1 = true ∧ ip_WP 81 55 [some (.ref x0), some (.int x1)] [F s2 27, .int s1, .ref s0] (G, F, I, J) b post px) := ip_s_getf f81_52 (by decide +kernel)
theorem f81_55 : ip_fetch 81 55 = some (.iload_n 1, 1) := by decide +kernel
theorem s81_55 {x0 : Nat} {x1 : Int32} {s0 : Nat} {s1 : Int32} {s2 : Nat} : ip_WP 81 55 [some (.ref x0), some (.int x1)] [.ref s2, .int s1, .ref s0] (G, F, I, J) b post px ↔ ip_WP 81 56 [some (.ref x0), some (.int x1)] [.int x1, .ref s2, .int s1, .ref s0] (G, F, I, J) b post px := ip_nx_iff ((ip_st_of f81_55).trans rfl)
theorem f81_56 : ip_fetch 81 56 = some (.iaload, 1) := by decide +kernel
theorem s81_56 {x0 : Nat} {x1 : Int32} {s0 : Nat} {s1 : Int32} {s2 : Nat} {s3 : Int32} : ip_WP 81 56 [some (.ref x0), some (.int x1)] [.int s3, .ref s2, .int s1, .ref s0] (G, F, I, J) b post px ↔ (ip_inA G s2 0 s3 = true ∧ ip_WP 81 57 [some (.ref x0), some (.int x1)] [.int (I s2 s3.toNatClampNeg), .int s1, .ref s0] (G, F, I, J) b post px) := ip_ck_iff ((ip_st_of f81_56).trans rfl) ip_nx_iff
theorem f81_57 : ip_fetch 81 57 = some (.invokevirtual 263, 3) := by decide +kernel
set_option maxRecDepth 100000 in
theorem s81_57 {x0 : Nat} {x1 : Int32} {s0 : Nat} {s1 : Int32} {s2 : Int32} : ip_WP 81 57 [some (.ref x0), some (.int x1)] [.int s2, .int s1, .ref s0] (G, F, I, J) b post px ↔ (ip_isO G s0 1 = true ∧ ip_WP 73 0 [some (.ref s0), some (.int s1), some (.int s2), none, none] [] (G, F, I, J) (0, 0) (fun r h' => ip_WP 81 60 [some (.ref x0), some (.int x1)] (r.toList ++ []) h' b post px) (fun _ _ => False)) := ip_ck_iff (x := ip_cl 73 [some (.ref s0), some (.int s1), some (.int s2), none, none] [] (0, 0) b) ((ip_st_of f81_57).trans rfl) (ip_cl_iff)
theorem f81_60 : ip_fetch 81 60 = some (.aload_n 0, 1) := by decide +kernel
theorem s81_60 {x0 : Nat} {x1 : Int32} : ip_WP 81 60 [some (.ref x0), some (.int x1)] [] (G, F, I, J) b post px ↔ ip_WP 81 61 [some (.ref x0), some (.int x1)] [.ref x0] (G, F, I, J) b post px := ip_nx_iff ((ip_st_of f81_60).trans rfl)
theorem f81_61 : ip_fetch 81 61 = some (.invokevirtual 266, 3) := by decide +kernel
set_option maxRecDepth 100000 in
theorem s81_61 {x0 : Nat} {x1 : Int32} {s0 : Nat} : ip_WP 81 61 [some (.ref x0), some (.int x1)] [.ref s0] (G, F, I, J) b post px ↔ (ip_isO G s0 1 = true ∧ ip_WP 77 0 [some (.ref s0)] [] (G, F, I, J) (0, 0) (fun r h' => ip_WP 81 64 [some (.ref x0), some (.int x1)] (r.toList ++ []) h' b post px) (fun _ _ => False)) := ip_ck_iff (x := ip_cl 77 [some (.ref s0)] [] (0, 0) b) ((ip_st_of f81_61).trans rfl) (ip_cl_iff)
theorem f81_64 : ip_fetch 81 64 = some (.return_, 1) := by decide +kernel
theorem s81_64 {x0 : Nat} {x1 : Int32} : ip_WP 81 64 [some (.ref x0), some (.int x1)] [] (G, F, I, J) b post px ↔ post none (G, F, I, J) := ip_rt_iff ((ip_st_of f81_64).trans rfl)
theorem f82_0 : ip_fetch 82 0 = some (.aload_n 0, 1) := by decide +kernel
theorem s82_0 {x0 : Nat} {x1 : Int32} {x2 : Option Value} {x3 : Option Value} : ip_WP 82 0 [some (.ref x0), some (.int x1), x2, x3] [] (G, F, I, J) b post px ↔ ip_WP 82 1 [some (.ref x0), some (.int x1), x2, x3] [.ref x0] (G, F, I, J) b post px := ip_nx_iff ((ip_st_of f82_0).trans rfl)
theorem f82_1 : ip_fetch 82 1 = some (.bipush 9, 2) := by decide +kernel
theorem s82_1 {x0 : Nat} {x1 : Int32} {x2 : Option Value} {x3 : Option Value} {s0 : Nat} : ip_WP 82 1 [some (.ref x0), some (.int x1), x2, x3] [.ref s0] (G, F, I, J) b post px ↔ ip_WP 82 3 [some (.ref x0), some (.int x1), x2, x3] [.int 9, .ref s0] (G, F, I, J) b post px := ip_s_bipush f82_1 (by decide)
theorem f82_3 : ip_fetch 82 3 = some (.invokevirtual 256, 3) := by decide +kernel
set_option maxRecDepth 100000 in
theorem s82_3 {x0 : Nat} {x1 : Int32} {x2 : Option Value} {x3 : Option Value} {s0 : Nat} {s1 : Int32} : ip_WP 82 3 [some (.ref x0), some (.int x1), x2, x3] [.int s1, .ref s0] (G, F, I, J) b post px ↔ (ip_isO G s0 1 = true ∧ ip_WP 72 0 [some (.ref s0), some (.int s1), none, none] [] (G, F, I, J) (0, 0) (fun r h' => ip_WP 82 6 [some (.ref x0), some (.int x1), x2, x3] (r.toList ++ []) h' b post px) (fun _ _ => False)) := ip_ck_iff (x := ip_cl 72 [some (.ref s0), some (.int s1), none, none] [] (0, 0) b) ((ip_st_of f82_3).trans rfl) (ip_cl_iff)
theorem f82_6 : ip_fetch 82 6 = some (.aload_n 0, 1) := by decide +kernel
theorem s82_6 {x0 : Nat} {x1 : Int32} {x2 : Option Value} {x3 : Option Value} : ip_WP 82 6 [some (.ref x0), some (.int x1), x2, x3] [] (G, F, I, J) b post px ↔ ip_WP 82 7 [some (.ref x0), some (.int x1), x2, x3] [.ref x0] (G, F, I, J) b post px := ip_nx_iff ((ip_st_of f82_6).trans rfl)
theorem f82_7 : ip_fetch 82 7 = some (.iconst 3, 1) := by decide +kernel
theorem s82_7 {x0 : Nat} {x1 : Int32} {x2 : Option Value} {x3 : Option Value} {s0 : Nat} : ip_WP 82 7 [some (.ref x0), some (.int x1), x2, x3] [.ref s0] (G, F, I, J) b post px ↔ ip_WP 82 8 [some (.ref x0), some (.int x1), x2, x3] [.int 3, .ref s0] (G, F, I, J) b post px := ip_s_iconst f82_7 (by decide)
theorem f82_8 : ip_fetch 82 8 = some (.iload_n 1, 1) := by decide +kernel
theorem s82_8 {x0 : Nat} {x1 : Int32} {x2 : Option Value} {x3 : Option Value} {s0 : Nat} {s1 : Int32} : ip_WP 82 8 [some (.ref x0), some (.int x1), x2, x3] [.int s1, .ref s0] (G, F, I, J) b post px ↔ ip_WP 82 9 [some (.ref x0), some (.int x1), x2, x3] [.int x1, .int s1, .ref s0] (G, F, I, J) b post px := ip_nx_iff ((ip_st_of f82_8).trans rfl)
theorem f82_9 : ip_fetch 82 9 = some (.invokevirtual 263, 3) := by decide +kernel
set_option maxRecDepth 100000 in
theorem s82_9 {x0 : Nat} {x1 : Int32} {x2 : Option Value} {x3 : Option Value} {s0 : Nat} {s1 : Int32} {s2 : Int32} : ip_WP 82 9 [some (.ref x0), some (.int x1), x2, x3] [.int s2, .int s1, .ref s0] (G, F, I, J) b post px ↔ (ip_isO G s0 1 = true ∧ ip_WP 73 0 [some (.ref s0), some (.int s1), some (.int s2), none, none] [] (G, F, I, J) (0, 0) (fun r h' => ip_WP 82 12 [some (.ref x0), some (.int x1), x2, x3] (r.toList ++ []) h' b post px) (fun _ _ => False)) := ip_ck_iff (x := ip_cl 73 [some (.ref s0), some (.int s1), some (.int s2), none, none] [] (0, 0) b) ((ip_st_of f82_9).trans rfl) (ip_cl_iff)
theorem f82_12 : ip_fetch 82 12 = some (.aload_n 0, 1) := by decide +kernel
theorem s82_12 {x0 : Nat} {x1 : Int32} {x2 : Option Value} {x3 : Option Value} : ip_WP 82 12 [some (.ref x0), some (.int x1), x2, x3] [] (G, F, I, J) b post px ↔ ip_WP 82 13 [some (.ref x0), some (.int x1), x2, x3] [.ref x0] (G, F, I, J) b post px := ip_nx_iff ((ip_st_of f82_12).trans rfl)
theorem f82_13 : ip_fetch 82 13 = some (.bipush 58, 2) := by decide +kernel
theorem s82_13 {x0 : Nat} {x1 : Int32} {x2 : Option Value} {x3 : Option Value} {s0 : Nat} : ip_WP 82 13 [some (.ref x0), some (.int x1), x2, x3] [.ref s0] (G, F, I, J) b post px ↔ ip_WP 82 15 [some (.ref x0), some (.int x1), x2, x3] [.int 58, .ref s0] (G, F, I, J) b post px := ip_s_bipush f82_13 (by decide)
theorem f82_15 : ip_fetch 82 15 = some (.invokevirtual 269, 3) := by decide +kernel
set_option maxRecDepth 100000 in
theorem s82_15 {x0 : Nat} {x1 : Int32} {x2 : Option Value} {x3 : Option Value} {s0 : Nat} {s1 : Int32} : ip_WP 82 15 [some (.ref x0), some (.int x1), x2, x3] [.int s1, .ref s0] (G, F, I, J) b post px ↔ (ip_isO G s0 1 = true ∧ ip_WP 74 0 [some (.ref s0), some (.int s1)] [] (G, F, I, J) (0, 0) (fun r h' => ip_WP 82 18 [some (.ref x0), some (.int x1), x2, x3] (r.toList ++ []) h' b post px) (fun _ _ => False)) := ip_ck_iff (x := ip_cl 74 [some (.ref s0), some (.int s1)] [] (0, 0) b) ((ip_st_of f82_15).trans rfl) (ip_cl_iff)
theorem f82_18 : ip_fetch 82 18 = some (.iconst 1, 1) := by decide +kernel
theorem s82_18 {x0 : Nat} {x1 : Int32} {x2 : Option Value} {x3 : Option Value} : ip_WP 82 18 [some (.ref x0), some (.int x1), x2, x3] [] (G, F, I, J) b post px ↔ ip_WP 82 19 [some (.ref x0), some (.int x1), x2, x3] [.int 1] (G, F, I, J) b post px := ip_s_iconst f82_18 (by decide)
theorem f82_19 : ip_fetch 82 19 = some (.istore_n 2, 1) := by decide +kernel
theorem s82_19 {x0 : Nat} {x1 : Int32} {x2 : Option Value} {x3 : Option Value} {s0 : Int32} : ip_WP 82 19 [some (.ref x0), some (.int x1), x2, x3] [.int s0] (G, F, I, J) b post px ↔ ip_WP 82 20 [some (.ref x0), some (.int x1), some (.int s0), x3] [] (G, F, I, J) b post px := ip_nx_iff ((ip_st_of f82_19).trans rfl)
theorem f82_20 : ip_fetch 82 20 = some (.iconst 0, 1) := by decide +kernel
theorem s82_20 {x0 : Nat} {x1 : Int32} {x2 : Int32} {x3 : Option Value} : ip_WP 82 20 [some (.ref x0), some (.int x1), some (.int x2), x3] [] (G, F, I, J) b post px ↔ ip_WP 82 21 [some (.ref x0), some (.int x1), some (.int x2), x3] [.int 0] (G, F, I, J) b post px := ip_s_iconst f82_20 (by decide)
theorem f82_21 : ip_fetch 82 21 = some (.istore_n 3, 1) := by decide +kernel
theorem s82_21 {x0 : Nat} {x1 : Int32} {x2 : Int32} {x3 : Option Value} {s0 : Int32} : ip_WP 82 21 [some (.ref x0), some (.int x1), some (.int x2), x3] [.int s0] (G, F, I, J) b post px ↔ ip_WP 82 22 [some (.ref x0), some (.int x1), some (.int x2), some (.int s0)] [] (G, F, I, J) b post px := ip_nx_iff ((ip_st_of f82_21).trans rfl)
theorem f82_22 : ip_fetch 82 22 = some (.iload_n 3, 1) := by decide +kernel
theorem s82_22 {x0 : Nat} {x1 : Int32} {x2 : Int32} {x3 : Int32} : ip_WP 82 22 [some (.ref x0), some (.int x1), some (.int x2), some (.int x3)] [] (G, F, I, J) b post px ↔ ip_WP 82 23 [some (.ref x0), some (.int x1), some (.int x2), some (.int x3)] [.int x3] (G, F, I, J) b post px := ip_nx_iff ((ip_st_of f82_22).trans rfl)
theorem f82_23 : ip_fetch 82 23 = some (.aload_n 0, 1) := by decide +kernel
theorem s82_23 {x0 : Nat} {x1 : Int32} {x2 : Int32} {x3 : Int32} {s0 : Int32} : ip_WP 82 23 [some (.ref x0), some (.int x1), some (.int x2), some (.int x3)] [.int s0] (G, F, I, J) b post px ↔ ip_WP 82 24 [some (.ref x0), some (.int x1), some (.int x2), some (.int x3)] [.ref x0, .int s0] (G, F, I, J) b post px := ip_nx_iff ((ip_st_of f82_23).trans rfl)
theorem f82_24 : ip_fetch 82 24 = some (.getfield 34, 3) := by decide +kernel
set_option maxRecDepth 100000 in
theorem s82_24 {x0 : Nat} {x1 : Int32} {x2 : Int32} {x3 : Int32} {s0 : Int32} {s1 : Nat} : ip_WP 82 24 [some (.ref x0), some (.int x1), some (.int x2), some (.int x3)] [.ref s1, .int s0] (G, F, I, J) b post px ↔ (ip_isO G s1 1 = true ∧ ip_WP 82 27 [some (.ref x0), some (.int x1), some (.int x2), some (.int x3)] [F s1 16, .int s0] (G, F, I, J) b post px) := ip_s_getf f82_24 (by decide +kernel)
theorem f82_27 : ip_fetch 82 27 = some (.iconst 0, 1) := by decide +kernel
theorem s82_27 {x0 : Nat} {x1 : Int32} {x2 : Int32} {x3 : Int32} {s0 : Int32} {s1 : Nat} : ip_WP 82 27 [some (.ref x0), some (.int x1), some (.int x2), some (.int x3)] [.ref s1, .int s0] (G, F, I, J) b post px ↔ ip_WP 82 28 [some (.ref x0), some (.int x1), some (.int x2), some (.int x3)] [.int 0, .ref s1, .int s0] (G, F, I, J) b post px := ip_s_iconst f82_27 (by decide)
theorem f82_28 : ip_fetch 82 28 = some (.iaload, 1) := by decide +kernel
theorem s82_28 {x0 : Nat} {x1 : Int32} {x2 : Int32} {x3 : Int32} {s0 : Int32} {s1 : Nat} {s2 : Int32} : ip_WP 82 28 [some (.ref x0), some (.int x1), some (.int x2), some (.int x3)] [.int s2, .ref s1, .int s0] (G, F, I, J) b post px ↔ (ip_inA G s1 0 s2 = true ∧ ip_WP 82 29 [some (.ref x0), some (.int x1), some (.int x2), some (.int x3)] [.int (I s1 s2.toNatClampNeg), .int s0] (G, F, I, J) b post px) := ip_ck_iff ((ip_st_of f82_28).trans rfl) ip_nx_iff
theorem f82_29 : ip_fetch 82 29 = some (.if_icmp .ge 36, 3) := by decide +kernel
theorem s82_29 {x0 : Nat} {x1 : Int32} {x2 : Int32} {x3 : Int32} {s0 : Int32} {s1 : Int32} : ip_WP 82 29 [some (.ref x0), some (.int x1), some (.int x2), some (.int x3)] [.int s1, .int s0] (G, F, I, J) b post px ↔ if s1 ≤ s0 then ip_WP 82 65 [some (.ref x0), some (.int x1), some (.int x2), some (.int x3)] [] (G, F, I, J) b post px else ip_WP 82 32 [some (.ref x0), some (.int x1), some (.int x2), some (.int x3)] [] (G, F, I, J) b post px := ip_s_ic_ge f82_29 rfl
theorem f82_32 : ip_fetch 82 32 = some (.aload_n 0, 1) := by decide +kernel
theorem s82_32 {x0 : Nat} {x1 : Int32} {x2 : Int32} {x3 : Int32} : ip_WP 82 32 [some (.ref x0), some (.int x1), some (.int x2), some (.int x3)] [] (G, F, I, J) b post px ↔ ip_WP 82 33 [some (.ref x0), some (.int x1), some (.int x2), some (.int x3)] [.ref x0] (G, F, I, J) b post px := ip_nx_iff ((ip_st_of f82_32).trans rfl)
theorem f82_33 : ip_fetch 82 33 = some (.getfield 68, 3) := by decide +kernel
set_option maxRecDepth 100000 in
theorem s82_33 {x0 : Nat} {x1 : Int32} {x2 : Int32} {x3 : Int32} {s0 : Nat} : ip_WP 82 33 [some (.ref x0), some (.int x1), some (.int x2), some (.int x3)] [.ref s0] (G, F, I, J) b post px ↔ (ip_isO G s0 1 = true ∧ ip_WP 82 36 [some (.ref x0), some (.int x1), some (.int x2), some (.int x3)] [F s0 28] (G, F, I, J) b post px) := ip_s_getf f82_33 (by decide +kernel)
theorem f82_36 : ip_fetch 82 36 = some (.bipush 12, 2) := by decide +kernel
theorem s82_36 {x0 : Nat} {x1 : Int32} {x2 : Int32} {x3 : Int32} {s0 : Nat} : ip_WP 82 36 [some (.ref x0), some (.int x1), some (.int x2), some (.int x3)] [.ref s0] (G, F, I, J) b post px ↔ ip_WP 82 38 [some (.ref x0), some (.int x1), some (.int x2), some (.int x3)] [.int 12, .ref s0] (G, F, I, J) b post px := ip_s_bipush f82_36 (by decide)
theorem f82_38 : ip_fetch 82 38 = some (.iload_n 1, 1) := by decide +kernel
theorem s82_38 {x0 : Nat} {x1 : Int32} {x2 : Int32} {x3 : Int32} {s0 : Nat} {s1 : Int32} : ip_WP 82 38 [some (.ref x0), some (.int x1), some (.int x2), some (.int x3)] [.int s1, .ref s0] (G, F, I, J) b post px ↔ ip_WP 82 39 [some (.ref x0), some (.int x1), some (.int x2), some (.int x3)] [.int x1, .int s1, .ref s0] (G, F, I, J) b post px := ip_nx_iff ((ip_st_of f82_38).trans rfl)
theorem f82_39 : ip_fetch 82 39 = some (.imul, 1) := by decide +kernel
theorem s82_39 {x0 : Nat} {x1 : Int32} {x2 : Int32} {x3 : Int32} {s0 : Nat} {s1 : Int32} {s2 : Int32} : ip_WP 82 39 [some (.ref x0), some (.int x1), some (.int x2), some (.int x3)] [.int s2, .int s1, .ref s0] (G, F, I, J) b post px ↔ ip_WP 82 40 [some (.ref x0), some (.int x1), some (.int x2), some (.int x3)] [.int (s1 * s2), .ref s0] (G, F, I, J) b post px := ip_nx_iff ((ip_st_of f82_39).trans rfl)
theorem f82_40 : ip_fetch 82 40 = some (.iload_n 3, 1) := by decide +kernel
theorem s82_40 {x0 : Nat} {x1 : Int32} {x2 : Int32} {x3 : Int32} {s0 : Nat} {s1 : Int32} : ip_WP 82 40 [some (.ref x0), some (.int x1), some (.int x2), some (.int x3)] [.int s1, .ref s0] (G, F, I, J) b post px ↔ ip_WP 82 41 [some (.ref x0), some (.int x1), some (.int x2), some (.int x3)] [.int x3, .int s1, .ref s0] (G, F, I, J) b post px := ip_nx_iff ((ip_st_of f82_40).trans rfl)
theorem f82_41 : ip_fetch 82 41 = some (.iadd, 1) := by decide +kernel
theorem s82_41 {x0 : Nat} {x1 : Int32} {x2 : Int32} {x3 : Int32} {s0 : Nat} {s1 : Int32} {s2 : Int32} : ip_WP 82 41 [some (.ref x0), some (.int x1), some (.int x2), some (.int x3)] [.int s2, .int s1, .ref s0] (G, F, I, J) b post px ↔ ip_WP 82 42 [some (.ref x0), some (.int x1), some (.int x2), some (.int x3)] [.int (s1 + s2), .ref s0] (G, F, I, J) b post px := ip_nx_iff ((ip_st_of f82_41).trans rfl)
theorem f82_42 : ip_fetch 82 42 = some (.baload, 1) := by decide +kernel
theorem s82_42 {x0 : Nat} {x1 : Int32} {x2 : Int32} {x3 : Int32} {s0 : Nat} {s1 : Int32} : ip_WP 82 42 [some (.ref x0), some (.int x1), some (.int x2), some (.int x3)] [.int s1, .ref s0] (G, F, I, J) b post px ↔ ((ip_inA G s0 1 s1 || ip_inA G s0 3 s1) = true ∧ ip_WP 82 43 [some (.ref x0), some (.int x1), some (.int x2), some (.int x3)] [.int (I s0 s1.toNatClampNeg)] (G, F, I, J) b post px) := ip_ck_iff ((ip_st_of f82_42).trans rfl) ip_nx_iff
theorem f82_43 : ip_fetch 82 43 = some (.ifCond .eq 16, 3) := by decide +kernel
theorem s82_43 {x0 : Nat} {x1 : Int32} {x2 : Int32} {x3 : Int32} {s0 : Int32} : ip_WP 82 43 [some (.ref x0), some (.int x1), some (.int x2), some (.int x3)] [.int s0] (G, F, I, J) b post px ↔ if s0 = 0 then ip_WP 82 59 [some (.ref x0), some (.int x1), some (.int x2), some (.int x3)] [] (G, F, I, J) b post px else ip_WP 82 46 [some (.ref x0), some (.int x1), some (.int x2), some (.int x3)] [] (G, F, I, J) b post px := ip_s_if_eq f82_43 rfl
theorem f82_46 : ip_fetch 82 46 = some (.aload_n 0, 1) := by decide +kernel
theorem s82_46 {x0 : Nat} {x1 : Int32} {x2 : Int32} {x3 : Int32} : ip_WP 82 46 [some (.ref x0), some (.int x1), some (.int x2), some (.int x3)] [] (G, F, I, J) b post px ↔ ip_WP 82 47 [some (.ref x0), some (.int x1), some (.int x2), some (.int x3)] [.ref x0] (G, F, I, J) b post px := ip_nx_iff ((ip_st_of f82_46).trans rfl)
theorem f82_47 : ip_fetch 82 47 = some (.iload_n 2, 1) := by decide +kernel
theorem s82_47 {x0 : Nat} {x1 : Int32} {x2 : Int32} {x3 : Int32} {s0 : Nat} : ip_WP 82 47 [some (.ref x0), some (.int x1), some (.int x2), some (.int x3)] [.ref s0] (G, F, I, J) b post px ↔ ip_WP 82 48 [some (.ref x0), some (.int x1), some (.int x2), some (.int x3)] [.int x2, .ref s0] (G, F, I, J) b post px := ip_nx_iff ((ip_st_of f82_47).trans rfl)
theorem f82_48 : ip_fetch 82 48 = some (.invokevirtual 259, 3) := by decide +kernel
set_option maxRecDepth 100000 in
theorem s82_48 {x0 : Nat} {x1 : Int32} {x2 : Int32} {x3 : Int32} {s0 : Nat} {s1 : Int32} : ip_WP 82 48 [some (.ref x0), some (.int x1), some (.int x2), some (.int x3)] [.int s1, .ref s0] (G, F, I, J) b post px ↔ (ip_isO G s0 1 = true ∧ ip_WP 75 0 [some (.ref s0), some (.int s1)] [] (G, F, I, J) (0, 0) (fun r h' => ip_WP 82 51 [some (.ref x0), some (.int x1), some (.int x2), some (.int x3)] (r.toList ++ []) h' b post px) (fun _ _ => False)) := ip_ck_iff (x := ip_cl 75 [some (.ref s0), some (.int s1)] [] (0, 0) b) ((ip_st_of f82_48).trans rfl) (ip_cl_iff)
theorem f82_51 : ip_fetch 82 51 = some (.aload_n 0, 1) := by decide +kernel
theorem s82_51 {x0 : Nat} {x1 : Int32} {x2 : Int32} {x3 : Int32} : ip_WP 82 51 [some (.ref x0), some (.int x1), some (.int x2), some (.int x3)] [] (G, F, I, J) b post px ↔ ip_WP 82 52 [some (.ref x0), some (.int x1), some (.int x2), some (.int x3)] [.ref x0] (G, F, I, J) b post px := ip_nx_iff ((ip_st_of f82_51).trans rfl)
theorem f82_52 : ip_fetch 82 52 = some (.iconst 0, 1) := by decide +kernel
theorem s82_52 {x0 : Nat} {x1 : Int32} {x2 : Int32} {x3 : Int32} {s0 : Nat} : ip_WP 82 52 [some (.ref x0), some (.int x1), some (.int x2), some (.int x3)] [.ref s0] (G, F, I, J) b post px ↔ ip_WP 82 53 [some (.ref x0), some (.int x1), some (.int x2), some (.int x3)] [.int 0, .ref s0] (G, F, I, J) b post px := ip_s_iconst f82_52 (by decide)
theorem f82_53 : ip_fetch 82 53 = some (.iload_n 3, 1) := by decide +kernel
theorem s82_53 {x0 : Nat} {x1 : Int32} {x2 : Int32} {x3 : Int32} {s0 : Nat} {s1 : Int32} : ip_WP 82 53 [some (.ref x0), some (.int x1), some (.int x2), some (.int x3)] [.int s1, .ref s0] (G, F, I, J) b post px ↔ ip_WP 82 54 [some (.ref x0), some (.int x1), some (.int x2), some (.int x3)] [.int x3, .int s1, .ref s0] (G, F, I, J) b post px := ip_nx_iff ((ip_st_of f82_53).trans rfl)
theorem f82_54 : ip_fetch 82 54 = some (.invokevirtual 263, 3) := by decide +kernel
set_option maxRecDepth 100000 in
theorem s82_54 {x0 : Nat} {x1 : Int32} {x2 : Int32} {x3 : Int32} {s0 : Nat} {s1 : Int32} {s2 : Int32} : ip_WP 82 54 [some (.ref x0), some (.int x1), some (.int x2), some (.int x3)] [.int s2, .int s1, .ref s0] (G, F, I, J) b post px ↔ (ip_isO G s0 1 = true ∧ ip_WP 73 0 [some (.ref s0), some (.int s1), some (.int s2), none, none] [] (G, F, I, J) (0, 0) (fun r h' => ip_WP 82 57 [some (.ref x0), some (.int x1), some (.int x2), some (.int x3)] (r.toList ++ []) h' b post px) (fun _ _ => False)) := ip_ck_iff (x := ip_cl 73 [some (.ref s0), some (.int s1), some (.int s2), none, none] [] (0, 0) b) ((ip_st_of f82_54).trans rfl) (ip_cl_iff)
theorem f82_57 : ip_fetch 82 57 = some (.iconst 0, 1) := by decide +kernel
theorem s82_57 {x0 : Nat} {x1 : Int32} {x2 : Int32} {x3 : Int32} : ip_WP 82 57 [some (.ref x0), some (.int x1), some (.int x2), some (.int x3)] [] (G, F, I, J) b post px ↔ ip_WP 82 58 [some (.ref x0), some (.int x1), some (.int x2), some (.int x3)] [.int 0] (G, F, I, J) b post px := ip_s_iconst f82_57 (by decide)
theorem f82_58 : ip_fetch 82 58 = some (.istore_n 2, 1) := by decide +kernel
theorem s82_58 {x0 : Nat} {x1 : Int32} {x2 : Int32} {x3 : Int32} {s0 : Int32} : ip_WP 82 58 [some (.ref x0), some (.int x1), some (.int x2), some (.int x3)] [.int s0] (G, F, I, J) b post px ↔ ip_WP 82 59 [some (.ref x0), some (.int x1), some (.int s0), some (.int x3)] [] (G, F, I, J) b post px := ip_nx_iff ((ip_st_of f82_58).trans rfl)
theorem f82_59 : ip_fetch 82 59 = some (.iinc 3 1, 3) := by decide +kernel
theorem s82_59 {x0 : Nat} {x1 : Int32} {x2 : Int32} {x3 : Int32} : ip_WP 82 59 [some (.ref x0), some (.int x1), some (.int x2), some (.int x3)] [] (G, F, I, J) b post px ↔ ip_WP 82 62 [some (.ref x0), some (.int x1), some (.int x2), some (.int (x3 + 1))] [] (G, F, I, J) b post px := ip_s_iinc f82_59 rfl (by decide)
theorem f82_62 : ip_fetch 82 62 = some (.goto (-40), 3) := by decide +kernel
theorem s82_62 {x0 : Nat} {x1 : Int32} {x2 : Int32} {x3 : Int32} : ip_WP 82 62 [some (.ref x0), some (.int x1), some (.int x2), some (.int x3)] [] (G, F, I, J) b post px ↔ ip_WP 82 22 [some (.ref x0), some (.int x1), some (.int x2), some (.int x3)] [] (G, F, I, J) b post px := ip_nx_iff ((ip_st_of f82_62).trans rfl)
theorem f82_65 : ip_fetch 82 65 = some (.aload_n 0, 1) := by decide +kernel
theorem s82_65 {x0 : Nat} {x1 : Int32} {x2 : Int32} {x3 : Int32} : ip_WP 82 65 [some (.ref x0), some (.int x1), some (.int x2), some (.int x3)] [] (G, F, I, J) b post px ↔ ip_WP 82 66 [some (.ref x0), some (.int x1), some (.int x2), some (.int x3)] [.ref x0] (G, F, I, J) b post px := ip_nx_iff ((ip_st_of f82_65).trans rfl)
theorem f82_66 : ip_fetch 82 66 = some (.invokevirtual 266, 3) := by decide +kernel
set_option maxRecDepth 100000 in
theorem s82_66 {x0 : Nat} {x1 : Int32} {x2 : Int32} {x3 : Int32} {s0 : Nat} : ip_WP 82 66 [some (.ref x0), some (.int x1), some (.int x2), some (.int x3)] [.ref s0] (G, F, I, J) b post px ↔ (ip_isO G s0 1 = true ∧ ip_WP 77 0 [some (.ref s0)] [] (G, F, I, J) (0, 0) (fun r h' => ip_WP 82 69 [some (.ref x0), some (.int x1), some (.int x2), some (.int x3)] (r.toList ++ []) h' b post px) (fun _ _ => False)) := ip_ck_iff (x := ip_cl 77 [some (.ref s0)] [] (0, 0) b) ((ip_st_of f82_66).trans rfl) (ip_cl_iff)
theorem f82_69 : ip_fetch 82 69 = some (.return_, 1) := by decide +kernel
theorem s82_69 {x0 : Nat} {x1 : Int32} {x2 : Int32} {x3 : Int32} : ip_WP 82 69 [some (.ref x0), some (.int x1), some (.int x2), some (.int x3)] [] (G, F, I, J) b post px ↔ post none (G, F, I, J) := ip_rt_iff ((ip_st_of f82_69).trans rfl)
theorem f83_0 : ip_fetch 83 0 = some (.aload_n 0, 1) := by decide +kernel
theorem s83_0 {x0 : Nat} {x1 : Option Value} : ip_WP 83 0 [some (.ref x0), x1] [] (G, F, I, J) b post px ↔ ip_WP 83 1 [some (.ref x0), x1] [.ref x0] (G, F, I, J) b post px := ip_nx_iff ((ip_st_of f83_0).trans rfl)
theorem f83_1 : ip_fetch 83 1 = some (.iconst 0, 1) := by decide +kernel
theorem s83_1 {x0 : Nat} {x1 : Option Value} {s0 : Nat} : ip_WP 83 1 [some (.ref x0), x1] [.ref s0] (G, F, I, J) b post px ↔ ip_WP 83 2 [some (.ref x0), x1] [.int 0, .ref s0] (G, F, I, J) b post px := ip_s_iconst f83_1 (by decide)
theorem f83_2 : ip_fetch 83 2 = some (.putfield 86, 3) := by decide +kernel
set_option maxRecDepth 100000 in
theorem s83_2 {x0 : Nat} {x1 : Option Value} {s0 : Nat} {s1 : Int32} : ip_WP 83 2 [some (.ref x0), x1] [.int s1, .ref s0] (G, F, I, J) b post px ↔ (ip_isO G s0 1 = true ∧ ip_WP 83 5 [some (.ref x0), x1] [] (G, ip_up F s0 1 (.int s1), I, J) b post px) := ip_s_put f83_2 (by decide +kernel) rfl
theorem f83_5 : ip_fetch 83 5 = some (.aload_n 0, 1) := by decide +kernel
theorem s83_5 {x0 : Nat} {x1 : Option Value} : ip_WP 83 5 [some (.ref x0), x1] [] (G, F, I, J) b post px ↔ ip_WP 83 6 [some (.ref x0), x1] [.ref x0] (G, F, I, J) b post px := ip_nx_iff ((ip_st_of f83_5).trans rfl)
theorem f83_6 : ip_fetch 83 6 = some (.iconst 0, 1) := by decide +kernel
theorem s83_6 {x0 : Nat} {x1 : Option Value} {s0 : Nat} : ip_WP 83 6 [some (.ref x0), x1] [.ref s0] (G, F, I, J) b post px ↔ ip_WP 83 7 [some (.ref x0), x1] [.int 0, .ref s0] (G, F, I, J) b post px := ip_s_iconst f83_6 (by decide)
theorem f83_7 : ip_fetch 83 7 = some (.putfield 250, 3) := by decide +kernel
set_option maxRecDepth 100000 in
theorem s83_7 {x0 : Nat} {x1 : Option Value} {s0 : Nat} {s1 : Int32} : ip_WP 83 7 [some (.ref x0), x1] [.int s1, .ref s0] (G, F, I, J) b post px ↔ (ip_isO G s0 1 = true ∧ ip_WP 83 10 [some (.ref x0), x1] [] (G, ip_up F s0 4 (.int s1), I, J) b post px) := ip_s_put f83_7 (by decide +kernel) rfl
theorem f83_10 : ip_fetch 83 10 = some (.aload_n 0, 1) := by decide +kernel
theorem s83_10 {x0 : Nat} {x1 : Option Value} : ip_WP 83 10 [some (.ref x0), x1] [] (G, F, I, J) b post px ↔ ip_WP 83 11 [some (.ref x0), x1] [.ref x0] (G, F, I, J) b post px := ip_nx_iff ((ip_st_of f83_10).trans rfl)
theorem f83_11 : ip_fetch 83 11 = some (.invokevirtual 275, 3) := by decide +kernel
set_option maxRecDepth 100000 in
theorem s83_11 {x0 : Nat} {x1 : Option Value} {s0 : Nat} : ip_WP 83 11 [some (.ref x0), x1] [.ref s0] (G, F, I, J) b post px ↔ (ip_isO G s0 1 = true ∧ ip_WP 78 0 [some (.ref s0), none] [] (G, F, I, J) (0, 0) (fun r h' => ip_WP 83 14 [some (.ref x0), x1] (r.toList ++ []) h' b post px) (fun _ _ => False)) := ip_ck_iff (x := ip_cl 78 [some (.ref s0), none] [] (0, 0) b) ((ip_st_of f83_11).trans rfl) (ip_cl_iff)
theorem f83_14 : ip_fetch 83 14 = some (.iconst 0, 1) := by decide +kernel
theorem s83_14 {x0 : Nat} {x1 : Option Value} : ip_WP 83 14 [some (.ref x0), x1] [] (G, F, I, J) b post px ↔ ip_WP 83 15 [some (.ref x0), x1] [.int 0] (G, F, I, J) b post px := ip_s_iconst f83_14 (by decide)
theorem f83_15 : ip_fetch 83 15 = some (.istore_n 1, 1) := by decide +kernel
theorem s83_15 {x0 : Nat} {x1 : Option Value} {s0 : Int32} : ip_WP 83 15 [some (.ref x0), x1] [.int s0] (G, F, I, J) b post px ↔ ip_WP 83 16 [some (.ref x0), some (.int s0)] [] (G, F, I, J) b post px := ip_nx_iff ((ip_st_of f83_15).trans rfl)
theorem f83_16 : ip_fetch 83 16 = some (.iload_n 1, 1) := by decide +kernel
theorem s83_16 {x0 : Nat} {x1 : Int32} : ip_WP 83 16 [some (.ref x0), some (.int x1)] [] (G, F, I, J) b post px ↔ ip_WP 83 17 [some (.ref x0), some (.int x1)] [.int x1] (G, F, I, J) b post px := ip_nx_iff ((ip_st_of f83_16).trans rfl)
theorem f83_17 : ip_fetch 83 17 = some (.aload_n 0, 1) := by decide +kernel
theorem s83_17 {x0 : Nat} {x1 : Int32} {s0 : Int32} : ip_WP 83 17 [some (.ref x0), some (.int x1)] [.int s0] (G, F, I, J) b post px ↔ ip_WP 83 18 [some (.ref x0), some (.int x1)] [.ref x0, .int s0] (G, F, I, J) b post px := ip_nx_iff ((ip_st_of f83_17).trans rfl)
theorem f83_18 : ip_fetch 83 18 = some (.getfield 34, 3) := by decide +kernel
set_option maxRecDepth 100000 in
theorem s83_18 {x0 : Nat} {x1 : Int32} {s0 : Int32} {s1 : Nat} : ip_WP 83 18 [some (.ref x0), some (.int x1)] [.ref s1, .int s0] (G, F, I, J) b post px ↔ (ip_isO G s1 1 = true ∧ ip_WP 83 21 [some (.ref x0), some (.int x1)] [F s1 16, .int s0] (G, F, I, J) b post px) := ip_s_getf f83_18 (by decide +kernel)
theorem f83_21 : ip_fetch 83 21 = some (.iconst 1, 1) := by decide +kernel
theorem s83_21 {x0 : Nat} {x1 : Int32} {s0 : Int32} {s1 : Nat} : ip_WP 83 21 [some (.ref x0), some (.int x1)] [.ref s1, .int s0] (G, F, I, J) b post px ↔ ip_WP 83 22 [some (.ref x0), some (.int x1)] [.int 1, .ref s1, .int s0] (G, F, I, J) b post px := ip_s_iconst f83_21 (by decide)
theorem f83_22 : ip_fetch 83 22 = some (.iaload, 1) := by decide +kernel
theorem s83_22 {x0 : Nat} {x1 : Int32} {s0 : Int32} {s1 : Nat} {s2 : Int32} : ip_WP 83 22 [some (.ref x0), some (.int x1)] [.int s2, .ref s1, .int s0] (G, F, I, J) b post px ↔ (ip_inA G s1 0 s2 = true ∧ ip_WP 83 23 [some (.ref x0), some (.int x1)] [.int (I s1 s2.toNatClampNeg), .int s0] (G, F, I, J) b post px) := ip_ck_iff ((ip_st_of f83_22).trans rfl) ip_nx_iff
theorem f83_23 : ip_fetch 83 23 = some (.if_icmp .ge 14, 3) := by decide +kernel
theorem s83_23 {x0 : Nat} {x1 : Int32} {s0 : Int32} {s1 : Int32} : ip_WP 83 23 [some (.ref x0), some (.int x1)] [.int s1, .int s0] (G, F, I, J) b post px ↔ if s1 ≤ s0 then ip_WP 83 37 [some (.ref x0), some (.int x1)] [] (G, F, I, J) b post px else ip_WP 83 26 [some (.ref x0), some (.int x1)] [] (G, F, I, J) b post px := ip_s_ic_ge f83_23 rfl
theorem f83_26 : ip_fetch 83 26 = some (.aload_n 0, 1) := by decide +kernel
theorem s83_26 {x0 : Nat} {x1 : Int32} : ip_WP 83 26 [some (.ref x0), some (.int x1)] [] (G, F, I, J) b post px ↔ ip_WP 83 27 [some (.ref x0), some (.int x1)] [.ref x0] (G, F, I, J) b post px := ip_nx_iff ((ip_st_of f83_26).trans rfl)
theorem f83_27 : ip_fetch 83 27 = some (.iload_n 1, 1) := by decide +kernel
theorem s83_27 {x0 : Nat} {x1 : Int32} {s0 : Nat} : ip_WP 83 27 [some (.ref x0), some (.int x1)] [.ref s0] (G, F, I, J) b post px ↔ ip_WP 83 28 [some (.ref x0), some (.int x1)] [.int x1, .ref s0] (G, F, I, J) b post px := ip_nx_iff ((ip_st_of f83_27).trans rfl)
theorem f83_28 : ip_fetch 83 28 = some (.invokevirtual 278, 3) := by decide +kernel
set_option maxRecDepth 100000 in
theorem s83_28 {x0 : Nat} {x1 : Int32} {s0 : Nat} {s1 : Int32} : ip_WP 83 28 [some (.ref x0), some (.int x1)] [.int s1, .ref s0] (G, F, I, J) b post px ↔ (ip_isO G s0 1 = true ∧ ip_WP 79 0 [some (.ref s0), some (.int s1), none, none] [] (G, F, I, J) (0, 0) (fun r h' => ip_WP 83 31 [some (.ref x0), some (.int x1)] (r.toList ++ []) h' b post px) (fun _ _ => False)) := ip_ck_iff (x := ip_cl 79 [some (.ref s0), some (.int s1), none, none] [] (0, 0) b) ((ip_st_of f83_28).trans rfl) (ip_cl_iff)
theorem f83_31 : ip_fetch 83 31 = some (.iinc 1 1, 3) := by decide +kernel
theorem s83_31 {x0 : Nat} {x1 : Int32} : ip_WP 83 31 [some (.ref x0), some (.int x1)] [] (G, F, I, J) b post px ↔ ip_WP 83 34 [some (.ref x0), some (.int (x1 + 1))] [] (G, F, I, J) b post px := ip_s_iinc f83_31 rfl (by decide)
theorem f83_34 : ip_fetch 83 34 = some (.goto (-18), 3) := by decide +kernel
theorem s83_34 {x0 : Nat} {x1 : Int32} : ip_WP 83 34 [some (.ref x0), some (.int x1)] [] (G, F, I, J) b post px ↔ ip_WP 83 16 [some (.ref x0), some (.int x1)] [] (G, F, I, J) b post px := ip_nx_iff ((ip_st_of f83_34).trans rfl)
theorem f83_37 : ip_fetch 83 37 = some (.iconst 0, 1) := by decide +kernel
theorem s83_37 {x0 : Nat} {x1 : Int32} : ip_WP 83 37 [some (.ref x0), some (.int x1)] [] (G, F, I, J) b post px ↔ ip_WP 83 38 [some (.ref x0), some (.int x1)] [.int 0] (G, F, I, J) b post px := ip_s_iconst f83_37 (by decide)
theorem f83_38 : ip_fetch 83 38 = some (.istore_n 1, 1) := by decide +kernel
theorem s83_38 {x0 : Nat} {x1 : Int32} {s0 : Int32} : ip_WP 83 38 [some (.ref x0), some (.int x1)] [.int s0] (G, F, I, J) b post px ↔ ip_WP 83 39 [some (.ref x0), some (.int s0)] [] (G, F, I, J) b post px := ip_nx_iff ((ip_st_of f83_38).trans rfl)
theorem f83_39 : ip_fetch 83 39 = some (.iload_n 1, 1) := by decide +kernel
theorem s83_39 {x0 : Nat} {x1 : Int32} : ip_WP 83 39 [some (.ref x0), some (.int x1)] [] (G, F, I, J) b post px ↔ ip_WP 83 40 [some (.ref x0), some (.int x1)] [.int x1] (G, F, I, J) b post px := ip_nx_iff ((ip_st_of f83_39).trans rfl)
theorem f83_40 : ip_fetch 83 40 = some (.aload_n 0, 1) := by decide +kernel
theorem s83_40 {x0 : Nat} {x1 : Int32} {s0 : Int32} : ip_WP 83 40 [some (.ref x0), some (.int x1)] [.int s0] (G, F, I, J) b post px ↔ ip_WP 83 41 [some (.ref x0), some (.int x1)] [.ref x0, .int s0] (G, F, I, J) b post px := ip_nx_iff ((ip_st_of f83_40).trans rfl)
theorem f83_41 : ip_fetch 83 41 = some (.getfield 34, 3) := by decide +kernel
set_option maxRecDepth 100000 in
theorem s83_41 {x0 : Nat} {x1 : Int32} {s0 : Int32} {s1 : Nat} : ip_WP 83 41 [some (.ref x0), some (.int x1)] [.ref s1, .int s0] (G, F, I, J) b post px ↔ (ip_isO G s1 1 = true ∧ ip_WP 83 44 [some (.ref x0), some (.int x1)] [F s1 16, .int s0] (G, F, I, J) b post px) := ip_s_getf f83_41 (by decide +kernel)
theorem f83_44 : ip_fetch 83 44 = some (.iconst 0, 1) := by decide +kernel
theorem s83_44 {x0 : Nat} {x1 : Int32} {s0 : Int32} {s1 : Nat} : ip_WP 83 44 [some (.ref x0), some (.int x1)] [.ref s1, .int s0] (G, F, I, J) b post px ↔ ip_WP 83 45 [some (.ref x0), some (.int x1)] [.int 0, .ref s1, .int s0] (G, F, I, J) b post px := ip_s_iconst f83_44 (by decide)
theorem f83_45 : ip_fetch 83 45 = some (.iaload, 1) := by decide +kernel
theorem s83_45 {x0 : Nat} {x1 : Int32} {s0 : Int32} {s1 : Nat} {s2 : Int32} : ip_WP 83 45 [some (.ref x0), some (.int x1)] [.int s2, .ref s1, .int s0] (G, F, I, J) b post px ↔ (ip_inA G s1 0 s2 = true ∧ ip_WP 83 46 [some (.ref x0), some (.int x1)] [.int (I s1 s2.toNatClampNeg), .int s0] (G, F, I, J) b post px) := ip_ck_iff ((ip_st_of f83_45).trans rfl) ip_nx_iff
theorem f83_46 : ip_fetch 83 46 = some (.if_icmp .ge 14, 3) := by decide +kernel
theorem s83_46 {x0 : Nat} {x1 : Int32} {s0 : Int32} {s1 : Int32} : ip_WP 83 46 [some (.ref x0), some (.int x1)] [.int s1, .int s0] (G, F, I, J) b post px ↔ if s1 ≤ s0 then ip_WP 83 60 [some (.ref x0), some (.int x1)] [] (G, F, I, J) b post px else ip_WP 83 49 [some (.ref x0), some (.int x1)] [] (G, F, I, J) b post px := ip_s_ic_ge f83_46 rfl
theorem f83_49 : ip_fetch 83 49 = some (.aload_n 0, 1) := by decide +kernel
theorem s83_49 {x0 : Nat} {x1 : Int32} : ip_WP 83 49 [some (.ref x0), some (.int x1)] [] (G, F, I, J) b post px ↔ ip_WP 83 50 [some (.ref x0), some (.int x1)] [.ref x0] (G, F, I, J) b post px := ip_nx_iff ((ip_st_of f83_49).trans rfl)
theorem f83_50 : ip_fetch 83 50 = some (.iload_n 1, 1) := by decide +kernel
theorem s83_50 {x0 : Nat} {x1 : Int32} {s0 : Nat} : ip_WP 83 50 [some (.ref x0), some (.int x1)] [.ref s0] (G, F, I, J) b post px ↔ ip_WP 83 51 [some (.ref x0), some (.int x1)] [.int x1, .ref s0] (G, F, I, J) b post px := ip_nx_iff ((ip_st_of f83_50).trans rfl)
theorem f83_51 : ip_fetch 83 51 = some (.invokevirtual 281, 3) := by decide +kernel
set_option maxRecDepth 100000 in
theorem s83_51 {x0 : Nat} {x1 : Int32} {s0 : Nat} {s1 : Int32} : ip_WP 83 51 [some (.ref x0), some (.int x1)] [.int s1, .ref s0] (G, F, I, J) b post px ↔ (ip_isO G s0 1 = true ∧ ip_WP 80 0 [some (.ref s0), some (.int s1)] [] (G, F, I, J) (0, 0) (fun r h' => ip_WP 83 54 [some (.ref x0), some (.int x1)] (r.toList ++ []) h' b post px) (fun _ _ => False)) := ip_ck_iff (x := ip_cl 80 [some (.ref s0), some (.int s1)] [] (0, 0) b) ((ip_st_of f83_51).trans rfl) (ip_cl_iff)
theorem f83_54 : ip_fetch 83 54 = some (.iinc 1 1, 3) := by decide +kernel
theorem s83_54 {x0 : Nat} {x1 : Int32} : ip_WP 83 54 [some (.ref x0), some (.int x1)] [] (G, F, I, J) b post px ↔ ip_WP 83 57 [some (.ref x0), some (.int (x1 + 1))] [] (G, F, I, J) b post px := ip_s_iinc f83_54 rfl (by decide)
theorem f83_57 : ip_fetch 83 57 = some (.goto (-18), 3) := by decide +kernel
theorem s83_57 {x0 : Nat} {x1 : Int32} : ip_WP 83 57 [some (.ref x0), some (.int x1)] [] (G, F, I, J) b post px ↔ ip_WP 83 39 [some (.ref x0), some (.int x1)] [] (G, F, I, J) b post px := ip_nx_iff ((ip_st_of f83_57).trans rfl)
theorem f83_60 : ip_fetch 83 60 = some (.iconst 0, 1) := by decide +kernel
theorem s83_60 {x0 : Nat} {x1 : Int32} : ip_WP 83 60 [some (.ref x0), some (.int x1)] [] (G, F, I, J) b post px ↔ ip_WP 83 61 [some (.ref x0), some (.int x1)] [.int 0] (G, F, I, J) b post px := ip_s_iconst f83_60 (by decide)
theorem f83_61 : ip_fetch 83 61 = some (.istore_n 1, 1) := by decide +kernel
theorem s83_61 {x0 : Nat} {x1 : Int32} {s0 : Int32} : ip_WP 83 61 [some (.ref x0), some (.int x1)] [.int s0] (G, F, I, J) b post px ↔ ip_WP 83 62 [some (.ref x0), some (.int s0)] [] (G, F, I, J) b post px := ip_nx_iff ((ip_st_of f83_61).trans rfl)
theorem f83_62 : ip_fetch 83 62 = some (.iload_n 1, 1) := by decide +kernel
theorem s83_62 {x0 : Nat} {x1 : Int32} : ip_WP 83 62 [some (.ref x0), some (.int x1)] [] (G, F, I, J) b post px ↔ ip_WP 83 63 [some (.ref x0), some (.int x1)] [.int x1] (G, F, I, J) b post px := ip_nx_iff ((ip_st_of f83_62).trans rfl)
theorem f83_63 : ip_fetch 83 63 = some (.aload_n 0, 1) := by decide +kernel
theorem s83_63 {x0 : Nat} {x1 : Int32} {s0 : Int32} : ip_WP 83 63 [some (.ref x0), some (.int x1)] [.int s0] (G, F, I, J) b post px ↔ ip_WP 83 64 [some (.ref x0), some (.int x1)] [.ref x0, .int s0] (G, F, I, J) b post px := ip_nx_iff ((ip_st_of f83_63).trans rfl)
theorem f83_64 : ip_fetch 83 64 = some (.getfield 185, 3) := by decide +kernel
set_option maxRecDepth 100000 in
theorem s83_64 {x0 : Nat} {x1 : Int32} {s0 : Int32} {s1 : Nat} : ip_WP 83 64 [some (.ref x0), some (.int x1)] [.ref s1, .int s0] (G, F, I, J) b post px ↔ (ip_isO G s1 1 = true ∧ ip_WP 83 67 [some (.ref x0), some (.int x1)] [F s1 23, .int s0] (G, F, I, J) b post px) := ip_s_getf f83_64 (by decide +kernel)
theorem f83_67 : ip_fetch 83 67 = some (.if_icmp .ge 46, 3) := by decide +kernel
theorem s83_67 {x0 : Nat} {x1 : Int32} {s0 : Int32} {s1 : Int32} : ip_WP 83 67 [some (.ref x0), some (.int x1)] [.int s1, .int s0] (G, F, I, J) b post px ↔ if s1 ≤ s0 then ip_WP 83 113 [some (.ref x0), some (.int x1)] [] (G, F, I, J) b post px else ip_WP 83 70 [some (.ref x0), some (.int x1)] [] (G, F, I, J) b post px := ip_s_ic_ge f83_67 rfl
theorem f83_70 : ip_fetch 83 70 = some (.aload_n 0, 1) := by decide +kernel
theorem s83_70 {x0 : Nat} {x1 : Int32} : ip_WP 83 70 [some (.ref x0), some (.int x1)] [] (G, F, I, J) b post px ↔ ip_WP 83 71 [some (.ref x0), some (.int x1)] [.ref x0] (G, F, I, J) b post px := ip_nx_iff ((ip_st_of f83_70).trans rfl)
theorem f83_71 : ip_fetch 83 71 = some (.iconst 5, 1) := by decide +kernel
theorem s83_71 {x0 : Nat} {x1 : Int32} {s0 : Nat} : ip_WP 83 71 [some (.ref x0), some (.int x1)] [.ref s0] (G, F, I, J) b post px ↔ ip_WP 83 72 [some (.ref x0), some (.int x1)] [.int 5, .ref s0] (G, F, I, J) b post px := ip_s_iconst f83_71 (by decide)
theorem f83_72 : ip_fetch 83 72 = some (.invokevirtual 256, 3) := by decide +kernel
set_option maxRecDepth 100000 in
theorem s83_72 {x0 : Nat} {x1 : Int32} {s0 : Nat} {s1 : Int32} : ip_WP 83 72 [some (.ref x0), some (.int x1)] [.int s1, .ref s0] (G, F, I, J) b post px ↔ (ip_isO G s0 1 = true ∧ ip_WP 72 0 [some (.ref s0), some (.int s1), none, none] [] (G, F, I, J) (0, 0) (fun r h' => ip_WP 83 75 [some (.ref x0), some (.int x1)] (r.toList ++ []) h' b post px) (fun _ _ => False)) := ip_ck_iff (x := ip_cl 72 [some (.ref s0), some (.int s1), none, none] [] (0, 0) b) ((ip_st_of f83_72).trans rfl) (ip_cl_iff)
theorem f83_75 : ip_fetch 83 75 = some (.aload_n 0, 1) := by decide +kernel
theorem s83_75 {x0 : Nat} {x1 : Int32} : ip_WP 83 75 [some (.ref x0), some (.int x1)] [] (G, F, I, J) b post px ↔ ip_WP 83 76 [some (.ref x0), some (.int x1)] [.ref x0] (G, F, I, J) b post px := ip_nx_iff ((ip_st_of f83_75).trans rfl)
theorem f83_76 : ip_fetch 83 76 = some (.iconst 1, 1) := by decide +kernel
theorem s83_76 {x0 : Nat} {x1 : Int32} {s0 : Nat} : ip_WP 83 76 [some (.ref x0), some (.int x1)] [.ref s0] (G, F, I, J) b post px ↔ ip_WP 83 77 [some (.ref x0), some (.int x1)] [.int 1, .ref s0] (G, F, I, J) b post px := ip_s_iconst f83_76 (by decide)
theorem f83_77 : ip_fetch 83 77 = some (.aload_n 0, 1) := by decide +kernel
theorem s83_77 {x0 : Nat} {x1 : Int32} {s0 : Nat} {s1 : Int32} : ip_WP 83 77 [some (.ref x0), some (.int x1)] [.int s1, .ref s0] (G, F, I, J) b post px ↔ ip_WP 83 78 [some (.ref x0), some (.int x1)] [.ref x0, .int s1, .ref s0] (G, F, I, J) b post px := ip_nx_iff ((ip_st_of f83_77).trans rfl)
theorem f83_78 : ip_fetch 83 78 = some (.getfield 56, 3) := by decide +kernel
set_option maxRecDepth 100000 in
theorem s83_78 {x0 : Nat} {x1 : Int32} {s0 : Nat} {s1 : Int32} {s2 : Nat} : ip_WP 83 78 [some (.ref x0), some (.int x1)] [.ref s2, .int s1, .ref s0] (G, F, I, J) b post px ↔ (ip_isO G s2 1 = true ∧ ip_WP 83 81 [some (.ref x0), some (.int x1)] [F s2 24, .int s1, .ref s0] (G, F, I, J) b post px) := ip_s_getf f83_78 (by decide +kernel)
theorem f83_81 : ip_fetch 83 81 = some (.iload_n 1, 1) := by decide +kernel
theorem s83_81 {x0 : Nat} {x1 : Int32} {s0 : Nat} {s1 : Int32} {s2 : Nat} : ip_WP 83 81 [some (.ref x0), some (.int x1)] [.ref s2, .int s1, .ref s0] (G, F, I, J) b post px ↔ ip_WP 83 82 [some (.ref x0), some (.int x1)] [.int x1, .ref s2, .int s1, .ref s0] (G, F, I, J) b post px := ip_nx_iff ((ip_st_of f83_81).trans rfl)
theorem f83_82 : ip_fetch 83 82 = some (.iaload, 1) := by decide +kernel
theorem s83_82 {x0 : Nat} {x1 : Int32} {s0 : Nat} {s1 : Int32} {s2 : Nat} {s3 : Int32} : ip_WP 83 82 [some (.ref x0), some (.int x1)] [.int s3, .ref s2, .int s1, .ref s0] (G, F, I, J) b post px ↔ (ip_inA G s2 0 s3 = true ∧ ip_WP 83 83 [some (.ref x0), some (.int x1)] [.int (I s2 s3.toNatClampNeg), .int s1, .ref s0] (G, F, I, J) b post px) := ip_ck_iff ((ip_st_of f83_82).trans rfl) ip_nx_iff
theorem f83_83 : ip_fetch 83 83 = some (.invokevirtual 263, 3) := by decide +kernel
set_option maxRecDepth 100000 in
theorem s83_83 {x0 : Nat} {x1 : Int32} {s0 : Nat} {s1 : Int32} {s2 : Int32} : ip_WP 83 83 [some (.ref x0), some (.int x1)] [.int s2, .int s1, .ref s0] (G, F, I, J) b post px ↔ (ip_isO G s0 1 = true ∧ ip_WP 73 0 [some (.ref s0), some (.int s1), some (.int s2), none, none] [] (G, F, I, J) (0, 0) (fun r h' => ip_WP 83 86 [some (.ref x0), some (.int x1)] (r.toList ++ []) h' b post px) (fun _ _ => False)) := ip_ck_iff (x := ip_cl 73 [some (.ref s0), some (.int s1), some (.int s2), none, none] [] (0, 0) b) ((ip_st_of f83_83).trans rfl) (ip_cl_iff)
theorem f83_86 : ip_fetch 83 86 = some (.aload_n 0, 1) := by decide +kernel
theorem s83_86 {x0 : Nat} {x1 : Int32} : ip_WP 83 86 [some (.ref x0), some (.int x1)] [] (G, F, I, J) b post px ↔ ip_WP 83 87 [some (.ref x0), some (.int x1)] [.ref x0] (G, F, I, J) b post px := ip_nx_iff ((ip_st_of f83_86).trans rfl)
theorem f83_87 : ip_fetch 83 87 = some (.bipush 62, 2) := by decide +kernel
theorem s83_87 {x0 : Nat} {x1 : Int32} {s0 : Nat} : ip_WP 83 87 [some (.ref x0), some (.int x1)] [.ref s0] (G, F, I, J) b post px ↔ ip_WP 83 89 [some (.ref x0), some (.int x1)] [.int 62, .ref s0] (G, F, I, J) b post px := ip_s_bipush f83_87 (by decide)
theorem f83_89 : ip_fetch 83 89 = some (.invokevirtual 269, 3) := by decide +kernel
set_option maxRecDepth 100000 in
theorem s83_89 {x0 : Nat} {x1 : Int32} {s0 : Nat} {s1 : Int32} : ip_WP 83 89 [some (.ref x0), some (.int x1)] [.int s1, .ref s0] (G, F, I, J) b post px ↔ (ip_isO G s0 1 = true ∧ ip_WP 74 0 [some (.ref s0), some (.int s1)] [] (G, F, I, J) (0, 0) (fun r h' => ip_WP 83 92 [some (.ref x0), some (.int x1)] (r.toList ++ []) h' b post px) (fun _ _ => False)) := ip_ck_iff (x := ip_cl 74 [some (.ref s0), some (.int s1)] [] (0, 0) b) ((ip_st_of f83_89).trans rfl) (ip_cl_iff)
theorem f83_92 : ip_fetch 83 92 = some (.aload_n 0, 1) := by decide +kernel
theorem s83_92 {x0 : Nat} {x1 : Int32} : ip_WP 83 92 [some (.ref x0), some (.int x1)] [] (G, F, I, J) b post px ↔ ip_WP 83 93 [some (.ref x0), some (.int x1)] [.ref x0] (G, F, I, J) b post px := ip_nx_iff ((ip_st_of f83_92).trans rfl)
theorem f83_93 : ip_fetch 83 93 = some (.iconst 1, 1) := by decide +kernel
theorem s83_93 {x0 : Nat} {x1 : Int32} {s0 : Nat} : ip_WP 83 93 [some (.ref x0), some (.int x1)] [.ref s0] (G, F, I, J) b post px ↔ ip_WP 83 94 [some (.ref x0), some (.int x1)] [.int 1, .ref s0] (G, F, I, J) b post px := ip_s_iconst f83_93 (by decide)
theorem f83_94 : ip_fetch 83 94 = some (.aload_n 0, 1) := by decide +kernel
theorem s83_94 {x0 : Nat} {x1 : Int32} {s0 : Nat} {s1 : Int32} : ip_WP 83 94 [some (.ref x0), some (.int x1)] [.int s1, .ref s0] (G, F, I, J) b post px ↔ ip_WP 83 95 [some (.ref x0), some (.int x1)] [.ref x0, .int s1, .ref s0] (G, F, I, J) b post px := ip_nx_iff ((ip_st_of f83_94).trans rfl)
theorem f83_95 : ip_fetch 83 95 = some (.getfield 59, 3) := by decide +kernel
set_option maxRecDepth 100000 in
theorem s83_95 {x0 : Nat} {x1 : Int32} {s0 : Nat} {s1 : Int32} {s2 : Nat} : ip_WP 83 95 [some (.ref x0), some (.int x1)] [.ref s2, .int s1, .ref s0] (G, F, I, J) b post px ↔ (ip_isO G s2 1 = true ∧ ip_WP 83 98 [some (.ref x0), some (.int x1)] [F s2 25, .int s1, .ref s0] (G, F, I, J) b post px) := ip_s_getf f83_95 (by decide +kernel)
theorem f83_98 : ip_fetch 83 98 = some (.iload_n 1, 1) := by decide +kernel
theorem s83_98 {x0 : Nat} {x1 : Int32} {s0 : Nat} {s1 : Int32} {s2 : Nat} : ip_WP 83 98 [some (.ref x0), some (.int x1)] [.ref s2, .int s1, .ref s0] (G, F, I, J) b post px ↔ ip_WP 83 99 [some (.ref x0), some (.int x1)] [.int x1, .ref s2, .int s1, .ref s0] (G, F, I, J) b post px := ip_nx_iff ((ip_st_of f83_98).trans rfl)
theorem f83_99 : ip_fetch 83 99 = some (.iaload, 1) := by decide +kernel
theorem s83_99 {x0 : Nat} {x1 : Int32} {s0 : Nat} {s1 : Int32} {s2 : Nat} {s3 : Int32} : ip_WP 83 99 [some (.ref x0), some (.int x1)] [.int s3, .ref s2, .int s1, .ref s0] (G, F, I, J) b post px ↔ (ip_inA G s2 0 s3 = true ∧ ip_WP 83 100 [some (.ref x0), some (.int x1)] [.int (I s2 s3.toNatClampNeg), .int s1, .ref s0] (G, F, I, J) b post px) := ip_ck_iff ((ip_st_of f83_99).trans rfl) ip_nx_iff
theorem f83_100 : ip_fetch 83 100 = some (.invokevirtual 263, 3) := by decide +kernel
set_option maxRecDepth 100000 in
theorem s83_100 {x0 : Nat} {x1 : Int32} {s0 : Nat} {s1 : Int32} {s2 : Int32} : ip_WP 83 100 [some (.ref x0), some (.int x1)] [.int s2, .int s1, .ref s0] (G, F, I, J) b post px ↔ (ip_isO G s0 1 = true ∧ ip_WP 73 0 [some (.ref s0), some (.int s1), some (.int s2), none, none] [] (G, F, I, J) (0, 0) (fun r h' => ip_WP 83 103 [some (.ref x0), some (.int x1)] (r.toList ++ []) h' b post px) (fun _ _ => False)) := ip_ck_iff (x := ip_cl 73 [some (.ref s0), some (.int s1), some (.int s2), none, none] [] (0, 0) b) ((ip_st_of f83_100).trans rfl) (ip_cl_iff)
theorem f83_103 : ip_fetch 83 103 = some (.aload_n 0, 1) := by decide +kernel
theorem s83_103 {x0 : Nat} {x1 : Int32} : ip_WP 83 103 [some (.ref x0), some (.int x1)] [] (G, F, I, J) b post px ↔ ip_WP 83 104 [some (.ref x0), some (.int x1)] [.ref x0] (G, F, I, J) b post px := ip_nx_iff ((ip_st_of f83_103).trans rfl)
theorem f83_104 : ip_fetch 83 104 = some (.invokevirtual 266, 3) := by decide +kernel
set_option maxRecDepth 100000 in
theorem s83_104 {x0 : Nat} {x1 : Int32} {s0 : Nat} : ip_WP 83 104 [some (.ref x0), some (.int x1)] [.ref s0] (G, F, I, J) b post px ↔ (ip_isO G s0 1 = true ∧ ip_WP 77 0 [some (.ref s0)] [] (G, F, I, J) (0, 0) (fun r h' => ip_WP 83 107 [some (.ref x0), some (.int x1)] (r.toList ++ []) h' b post px) (fun _ _ => False)) := ip_ck_iff (x := ip_cl 77 [some (.ref s0)] [] (0, 0) b) ((ip_st_of f83_104).trans rfl) (ip_cl_iff)
theorem f83_107 : ip_fetch 83 107 = some (.iinc 1 1, 3) := by decide +kernel
theorem s83_107 {x0 : Nat} {x1 : Int32} : ip_WP 83 107 [some (.ref x0), some (.int x1)] [] (G, F, I, J) b post px ↔ ip_WP 83 110 [some (.ref x0), some (.int (x1 + 1))] [] (G, F, I, J) b post px := ip_s_iinc f83_107 rfl (by decide)
theorem f83_110 : ip_fetch 83 110 = some (.goto (-48), 3) := by decide +kernel
theorem s83_110 {x0 : Nat} {x1 : Int32} : ip_WP 83 110 [some (.ref x0), some (.int x1)] [] (G, F, I, J) b post px ↔ ip_WP 83 62 [some (.ref x0), some (.int x1)] [] (G, F, I, J) b post px := ip_nx_iff ((ip_st_of f83_110).trans rfl)
theorem f83_113 : ip_fetch 83 113 = some (.iconst 0, 1) := by decide +kernel
theorem s83_113 {x0 : Nat} {x1 : Int32} : ip_WP 83 113 [some (.ref x0), some (.int x1)] [] (G, F, I, J) b post px ↔ ip_WP 83 114 [some (.ref x0), some (.int x1)] [.int 0] (G, F, I, J) b post px := ip_s_iconst f83_113 (by decide)
theorem f83_114 : ip_fetch 83 114 = some (.istore_n 1, 1) := by decide +kernel
theorem s83_114 {x0 : Nat} {x1 : Int32} {s0 : Int32} : ip_WP 83 114 [some (.ref x0), some (.int x1)] [.int s0] (G, F, I, J) b post px ↔ ip_WP 83 115 [some (.ref x0), some (.int s0)] [] (G, F, I, J) b post px := ip_nx_iff ((ip_st_of f83_114).trans rfl)
theorem f83_115 : ip_fetch 83 115 = some (.iload_n 1, 1) := by decide +kernel
theorem s83_115 {x0 : Nat} {x1 : Int32} : ip_WP 83 115 [some (.ref x0), some (.int x1)] [] (G, F, I, J) b post px ↔ ip_WP 83 116 [some (.ref x0), some (.int x1)] [.int x1] (G, F, I, J) b post px := ip_nx_iff ((ip_st_of f83_115).trans rfl)
theorem f83_116 : ip_fetch 83 116 = some (.aload_n 0, 1) := by decide +kernel
theorem s83_116 {x0 : Nat} {x1 : Int32} {s0 : Int32} : ip_WP 83 116 [some (.ref x0), some (.int x1)] [.int s0] (G, F, I, J) b post px ↔ ip_WP 83 117 [some (.ref x0), some (.int x1)] [.ref x0, .int s0] (G, F, I, J) b post px := ip_nx_iff ((ip_st_of f83_116).trans rfl)
theorem f83_117 : ip_fetch 83 117 = some (.getfield 34, 3) := by decide +kernel
set_option maxRecDepth 100000 in
theorem s83_117 {x0 : Nat} {x1 : Int32} {s0 : Int32} {s1 : Nat} : ip_WP 83 117 [some (.ref x0), some (.int x1)] [.ref s1, .int s0] (G, F, I, J) b post px ↔ (ip_isO G s1 1 = true ∧ ip_WP 83 120 [some (.ref x0), some (.int x1)] [F s1 16, .int s0] (G, F, I, J) b post px) := ip_s_getf f83_117 (by decide +kernel)
theorem f83_120 : ip_fetch 83 120 = some (.iconst 2, 1) := by decide +kernel
theorem s83_120 {x0 : Nat} {x1 : Int32} {s0 : Int32} {s1 : Nat} : ip_WP 83 120 [some (.ref x0), some (.int x1)] [.ref s1, .int s0] (G, F, I, J) b post px ↔ ip_WP 83 121 [some (.ref x0), some (.int x1)] [.int 2, .ref s1, .int s0] (G, F, I, J) b post px := ip_s_iconst f83_120 (by decide)
theorem f83_121 : ip_fetch 83 121 = some (.iaload, 1) := by decide +kernel
theorem s83_121 {x0 : Nat} {x1 : Int32} {s0 : Int32} {s1 : Nat} {s2 : Int32} : ip_WP 83 121 [some (.ref x0), some (.int x1)] [.int s2, .ref s1, .int s0] (G, F, I, J) b post px ↔ (ip_inA G s1 0 s2 = true ∧ ip_WP 83 122 [some (.ref x0), some (.int x1)] [.int (I s1 s2.toNatClampNeg), .int s0] (G, F, I, J) b post px) := ip_ck_iff ((ip_st_of f83_121).trans rfl) ip_nx_iff
theorem f83_122 : ip_fetch 83 122 = some (.if_icmp .ge 14, 3) := by decide +kernel
theorem s83_122 {x0 : Nat} {x1 : Int32} {s0 : Int32} {s1 : Int32} : ip_WP 83 122 [some (.ref x0), some (.int x1)] [.int s1, .int s0] (G, F, I, J) b post px ↔ if s1 ≤ s0 then ip_WP 83 136 [some (.ref x0), some (.int x1)] [] (G, F, I, J) b post px else ip_WP 83 125 [some (.ref x0), some (.int x1)] [] (G, F, I, J) b post px := ip_s_ic_ge f83_122 rfl
theorem f83_125 : ip_fetch 83 125 = some (.aload_n 0, 1) := by decide +kernel
theorem s83_125 {x0 : Nat} {x1 : Int32} : ip_WP 83 125 [some (.ref x0), some (.int x1)] [] (G, F, I, J) b post px ↔ ip_WP 83 126 [some (.ref x0), some (.int x1)] [.ref x0] (G, F, I, J) b post px := ip_nx_iff ((ip_st_of f83_125).trans rfl)
theorem f83_126 : ip_fetch 83 126 = some (.iload_n 1, 1) := by decide +kernel
theorem s83_126 {x0 : Nat} {x1 : Int32} {s0 : Nat} : ip_WP 83 126 [some (.ref x0), some (.int x1)] [.ref s0] (G, F, I, J) b post px ↔ ip_WP 83 127 [some (.ref x0), some (.int x1)] [.int x1, .ref s0] (G, F, I, J) b post px := ip_nx_iff ((ip_st_of f83_126).trans rfl)
theorem f83_127 : ip_fetch 83 127 = some (.invokevirtual 284, 3) := by decide +kernel
set_option maxRecDepth 100000 in
theorem s83_127 {x0 : Nat} {x1 : Int32} {s0 : Nat} {s1 : Int32} : ip_WP 83 127 [some (.ref x0), some (.int x1)] [.int s1, .ref s0] (G, F, I, J) b post px ↔ (ip_isO G s0 1 = true ∧ ip_WP 81 0 [some (.ref s0), some (.int s1)] [] (G, F, I, J) (0, 0) (fun r h' => ip_WP 83 130 [some (.ref x0), some (.int x1)] (r.toList ++ []) h' b post px) (fun _ _ => False)) := ip_ck_iff (x := ip_cl 81 [some (.ref s0), some (.int s1)] [] (0, 0) b) ((ip_st_of f83_127).trans rfl) (ip_cl_iff)
theorem f83_130 : ip_fetch 83 130 = some (.iinc 1 1, 3) := by decide +kernel
theorem s83_130 {x0 : Nat} {x1 : Int32} : ip_WP 83 130 [some (.ref x0), some (.int x1)] [] (G, F, I, J) b post px ↔ ip_WP 83 133 [some (.ref x0), some (.int (x1 + 1))] [] (G, F, I, J) b post px := ip_s_iinc f83_130 rfl (by decide)
theorem f83_133 : ip_fetch 83 133 = some (.goto (-18), 3) := by decide +kernel
theorem s83_133 {x0 : Nat} {x1 : Int32} : ip_WP 83 133 [some (.ref x0), some (.int x1)] [] (G, F, I, J) b post px ↔ ip_WP 83 115 [some (.ref x0), some (.int x1)] [] (G, F, I, J) b post px := ip_nx_iff ((ip_st_of f83_133).trans rfl)
theorem f83_136 : ip_fetch 83 136 = some (.iconst 0, 1) := by decide +kernel
theorem s83_136 {x0 : Nat} {x1 : Int32} : ip_WP 83 136 [some (.ref x0), some (.int x1)] [] (G, F, I, J) b post px ↔ ip_WP 83 137 [some (.ref x0), some (.int x1)] [.int 0] (G, F, I, J) b post px := ip_s_iconst f83_136 (by decide)
theorem f83_137 : ip_fetch 83 137 = some (.istore_n 1, 1) := by decide +kernel
theorem s83_137 {x0 : Nat} {x1 : Int32} {s0 : Int32} : ip_WP 83 137 [some (.ref x0), some (.int x1)] [.int s0] (G, F, I, J) b post px ↔ ip_WP 83 138 [some (.ref x0), some (.int s0)] [] (G, F, I, J) b post px := ip_nx_iff ((ip_st_of f83_137).trans rfl)
theorem f83_138 : ip_fetch 83 138 = some (.iload_n 1, 1) := by decide +kernel
theorem s83_138 {x0 : Nat} {x1 : Int32} : ip_WP 83 138 [some (.ref x0), some (.int x1)] [] (G, F, I, J) b post px ↔ ip_WP 83 139 [some (.ref x0), some (.int x1)] [.int x1] (G, F, I, J) b post px := ip_nx_iff ((ip_st_of f83_138).trans rfl)
theorem f83_139 : ip_fetch 83 139 = some (.aload_n 0, 1) := by decide +kernel
theorem s83_139 {x0 : Nat} {x1 : Int32} {s0 : Int32} : ip_WP 83 139 [some (.ref x0), some (.int x1)] [.int s0] (G, F, I, J) b post px ↔ ip_WP 83 140 [some (.ref x0), some (.int x1)] [.ref x0, .int s0] (G, F, I, J) b post px := ip_nx_iff ((ip_st_of f83_139).trans rfl)
theorem f83_140 : ip_fetch 83 140 = some (.getfield 34, 3) := by decide +kernel
set_option maxRecDepth 100000 in
theorem s83_140 {x0 : Nat} {x1 : Int32} {s0 : Int32} {s1 : Nat} : ip_WP 83 140 [some (.ref x0), some (.int x1)] [.ref s1, .int s0] (G, F, I, J) b post px ↔ (ip_isO G s1 1 = true ∧ ip_WP 83 143 [some (.ref x0), some (.int x1)] [F s1 16, .int s0] (G, F, I, J) b post px) := ip_s_getf f83_140 (by decide +kernel)
theorem f83_143 : ip_fetch 83 143 = some (.iconst 3, 1) := by decide +kernel
theorem s83_143 {x0 : Nat} {x1 : Int32} {s0 : Int32} {s1 : Nat} : ip_WP 83 143 [some (.ref x0), some (.int x1)] [.ref s1, .int s0] (G, F, I, J) b post px ↔ ip_WP 83 144 [some (.ref x0), some (.int x1)] [.int 3, .ref s1, .int s0] (G, F, I, J) b post px := ip_s_iconst f83_143 (by decide)
theorem f83_144 : ip_fetch 83 144 = some (.iaload, 1) := by decide +kernel
theorem s83_144 {x0 : Nat} {x1 : Int32} {s0 : Int32} {s1 : Nat} {s2 : Int32} : ip_WP 83 144 [some (.ref x0), some (.int x1)] [.int s2, .ref s1, .int s0] (G, F, I, J) b post px ↔ (ip_inA G s1 0 s2 = true ∧ ip_WP 83 145 [some (.ref x0), some (.int x1)] [.int (I s1 s2.toNatClampNeg), .int s0] (G, F, I, J) b post px) := ip_ck_iff ((ip_st_of f83_144).trans rfl) ip_nx_iff
theorem f83_145 : ip_fetch 83 145 = some (.if_icmp .ge 14, 3) := by decide +kernel
theorem s83_145 {x0 : Nat} {x1 : Int32} {s0 : Int32} {s1 : Int32} : ip_WP 83 145 [some (.ref x0), some (.int x1)] [.int s1, .int s0] (G, F, I, J) b post px ↔ if s1 ≤ s0 then ip_WP 83 159 [some (.ref x0), some (.int x1)] [] (G, F, I, J) b post px else ip_WP 83 148 [some (.ref x0), some (.int x1)] [] (G, F, I, J) b post px := ip_s_ic_ge f83_145 rfl
theorem f83_148 : ip_fetch 83 148 = some (.aload_n 0, 1) := by decide +kernel
theorem s83_148 {x0 : Nat} {x1 : Int32} : ip_WP 83 148 [some (.ref x0), some (.int x1)] [] (G, F, I, J) b post px ↔ ip_WP 83 149 [some (.ref x0), some (.int x1)] [.ref x0] (G, F, I, J) b post px := ip_nx_iff ((ip_st_of f83_148).trans rfl)
theorem f83_149 : ip_fetch 83 149 = some (.iload_n 1, 1) := by decide +kernel
theorem s83_149 {x0 : Nat} {x1 : Int32} {s0 : Nat} : ip_WP 83 149 [some (.ref x0), some (.int x1)] [.ref s0] (G, F, I, J) b post px ↔ ip_WP 83 150 [some (.ref x0), some (.int x1)] [.int x1, .ref s0] (G, F, I, J) b post px := ip_nx_iff ((ip_st_of f83_149).trans rfl)
theorem f83_150 : ip_fetch 83 150 = some (.invokevirtual 287, 3) := by decide +kernel
set_option maxRecDepth 100000 in
theorem s83_150 {x0 : Nat} {x1 : Int32} {s0 : Nat} {s1 : Int32} : ip_WP 83 150 [some (.ref x0), some (.int x1)] [.int s1, .ref s0] (G, F, I, J) b post px ↔ (ip_isO G s0 1 = true ∧ ip_WP 82 0 [some (.ref s0), some (.int s1), none, none] [] (G, F, I, J) (0, 0) (fun r h' => ip_WP 83 153 [some (.ref x0), some (.int x1)] (r.toList ++ []) h' b post px) (fun _ _ => False)) := ip_ck_iff (x := ip_cl 82 [some (.ref s0), some (.int s1), none, none] [] (0, 0) b) ((ip_st_of f83_150).trans rfl) (ip_cl_iff)
theorem f83_153 : ip_fetch 83 153 = some (.iinc 1 1, 3) := by decide +kernel
theorem s83_153 {x0 : Nat} {x1 : Int32} : ip_WP 83 153 [some (.ref x0), some (.int x1)] [] (G, F, I, J) b post px ↔ ip_WP 83 156 [some (.ref x0), some (.int (x1 + 1))] [] (G, F, I, J) b post px := ip_s_iinc f83_153 rfl (by decide)
theorem f83_156 : ip_fetch 83 156 = some (.goto (-18), 3) := by decide +kernel
theorem s83_156 {x0 : Nat} {x1 : Int32} : ip_WP 83 156 [some (.ref x0), some (.int x1)] [] (G, F, I, J) b post px ↔ ip_WP 83 138 [some (.ref x0), some (.int x1)] [] (G, F, I, J) b post px := ip_nx_iff ((ip_st_of f83_156).trans rfl)
theorem f83_159 : ip_fetch 83 159 = some (.aload_n 0, 1) := by decide +kernel
theorem s83_159 {x0 : Nat} {x1 : Int32} : ip_WP 83 159 [some (.ref x0), some (.int x1)] [] (G, F, I, J) b post px ↔ ip_WP 83 160 [some (.ref x0), some (.int x1)] [.ref x0] (G, F, I, J) b post px := ip_nx_iff ((ip_st_of f83_159).trans rfl)
theorem f83_160 : ip_fetch 83 160 = some (.getfield 250, 3) := by decide +kernel
set_option maxRecDepth 100000 in
theorem s83_160 {x0 : Nat} {x1 : Int32} {s0 : Nat} : ip_WP 83 160 [some (.ref x0), some (.int x1)] [.ref s0] (G, F, I, J) b post px ↔ (ip_isO G s0 1 = true ∧ ip_WP 83 163 [some (.ref x0), some (.int x1)] [F s0 4] (G, F, I, J) b post px) := ip_s_getf f83_160 (by decide +kernel)
theorem f83_163 : ip_fetch 83 163 = some (.ireturn, 1) := by decide +kernel
theorem s83_163 {x0 : Nat} {x1 : Int32} {s0 : Int32} : ip_WP 83 163 [some (.ref x0), some (.int x1)] [.int s0] (G, F, I, J) b post px ↔ post (some (.int s0)) (G, F, I, J) := ip_rt_iff ((ip_st_of f83_163).trans rfl)
theorem f84_0 : ip_fetch 84 0 = some (.aload_n 0, 1) := by decide +kernel
theorem s84_0 {x0 : Nat} {x1 : Int32} : ip_WP 84 0 [some (.ref x0), some (.int x1)] [] (G, F, I, J) b post px ↔ ip_WP 84 1 [some (.ref x0), some (.int x1)] [.ref x0] (G, F, I, J) b post px := ip_nx_iff ((ip_st_of f84_0).trans rfl)
theorem f84_1 : ip_fetch 84 1 = some (.iconst 0, 1) := by decide +kernel
theorem s84_1 {x0 : Nat} {x1 : Int32} {s0 : Nat} : ip_WP 84 1 [some (.ref x0), some (.int x1)] [.ref s0] (G, F, I, J) b post px ↔ ip_WP 84 2 [some (.ref x0), some (.int x1)] [.int 0, .ref s0] (G, F, I, J) b post px := ip_s_iconst f84_1 (by decide)
theorem f84_2 : ip_fetch 84 2 = some (.putfield 86, 3) := by decide +kernel
set_option maxRecDepth 100000 in
theorem s84_2 {x0 : Nat} {x1 : Int32} {s0 : Nat} {s1 : Int32} : ip_WP 84 2 [some (.ref x0), some (.int x1)] [.int s1, .ref s0] (G, F, I, J) b post px ↔ (ip_isO G s0 1 = true ∧ ip_WP 84 5 [some (.ref x0), some (.int x1)] [] (G, ip_up F s0 1 (.int s1), I, J) b post px) := ip_s_put f84_2 (by decide +kernel) rfl
theorem f84_5 : ip_fetch 84 5 = some (.iload_n 1, 1) := by decide +kernel
theorem s84_5 {x0 : Nat} {x1 : Int32} : ip_WP 84 5 [some (.ref x0), some (.int x1)] [] (G, F, I, J) b post px ↔ ip_WP 84 6 [some (.ref x0), some (.int x1)] [.int x1] (G, F, I, J) b post px := ip_nx_iff ((ip_st_of f84_5).trans rfl)
theorem f84_6 : ip_fetch 84 6 = some (.iconst 0, 1) := by decide +kernel
theorem s84_6 {x0 : Nat} {x1 : Int32} {s0 : Int32} : ip_WP 84 6 [some (.ref x0), some (.int x1)] [.int s0] (G, F, I, J) b post px ↔ ip_WP 84 7 [some (.ref x0), some (.int x1)] [.int 0, .int s0] (G, F, I, J) b post px := ip_s_iconst f84_6 (by decide)
theorem f84_7 : ip_fetch 84 7 = some (.aload_n 0, 1) := by decide +kernel
theorem s84_7 {x0 : Nat} {x1 : Int32} {s0 : Int32} {s1 : Int32} : ip_WP 84 7 [some (.ref x0), some (.int x1)] [.int s1, .int s0] (G, F, I, J) b post px ↔ ip_WP 84 8 [some (.ref x0), some (.int x1)] [.ref x0, .int s1, .int s0] (G, F, I, J) b post px := ip_nx_iff ((ip_st_of f84_7).trans rfl)
theorem f84_8 : ip_fetch 84 8 = some (.getfield 250, 3) := by decide +kernel
set_option maxRecDepth 100000 in
theorem s84_8 {x0 : Nat} {x1 : Int32} {s0 : Int32} {s1 : Int32} {s2 : Nat} : ip_WP 84 8 [some (.ref x0), some (.int x1)] [.ref s2, .int s1, .int s0] (G, F, I, J) b post px ↔ (ip_isO G s2 1 = true ∧ ip_WP 84 11 [some (.ref x0), some (.int x1)] [F s2 4, .int s1, .int s0] (G, F, I, J) b post px) := ip_s_getf f84_8 (by decide +kernel)
theorem f84_11 : ip_fetch 84 11 = some (.iconst 1, 1) := by decide +kernel
theorem s84_11 {x0 : Nat} {x1 : Int32} {s0 : Int32} {s1 : Int32} {s2 : Int32} : ip_WP 84 11 [some (.ref x0), some (.int x1)] [.int s2, .int s1, .int s0] (G, F, I, J) b post px ↔ ip_WP 84 12 [some (.ref x0), some (.int x1)] [.int 1, .int s2, .int s1, .int s0] (G, F, I, J) b post px := ip_s_iconst f84_11 (by decide)
theorem f84_12 : ip_fetch 84 12 = some (.isub, 1) := by decide +kernel
theorem s84_12 {x0 : Nat} {x1 : Int32} {s0 : Int32} {s1 : Int32} {s2 : Int32} {s3 : Int32} : ip_WP 84 12 [some (.ref x0), some (.int x1)] [.int s3, .int s2, .int s1, .int s0] (G, F, I, J) b post px ↔ ip_WP 84 13 [some (.ref x0), some (.int x1)] [.int (s2 - s3), .int s1, .int s0] (G, F, I, J) b post px := ip_nx_iff ((ip_st_of f84_12).trans rfl)
theorem f84_13 : ip_fetch 84 13 = some (.invokestatic 97, 3) := by decide +kernel
set_option maxRecDepth 100000 in
theorem s84_13 {x0 : Nat} {x1 : Int32} {s0 : Int32} {s1 : Int32} {s2 : Int32} : ip_WP 84 13 [some (.ref x0), some (.int x1)] [.int s2, .int s1, .int s0] (G, F, I, J) b post px ↔ ip_WP 22 0 [some (.int s0), some (.int s1), some (.int s2)] [] (G, F, I, J) (0, 0) (fun r h' => ip_WP 84 16 [some (.ref x0), some (.int x1)] (r.toList ++ []) h' b post px) (fun _ _ => False) := ip_cl_iff ((ip_st_of f84_13).trans (rfl : _ = ip_cl 22 [some (.int s0), some (.int s1), some (.int s2)] [] (0, 0) b))
theorem f84_16 : ip_fetch 84 16 = some (.ifCond .eq 12, 3) := by decide +kernel
theorem s84_16 {x0 : Nat} {x1 : Int32} {s0 : Int32} : ip_WP 84 16 [some (.ref x0), some (.int x1)] [.int s0] (G, F, I, J) b post px ↔ if s0 = 0 then ip_WP 84 28 [some (.ref x0), some (.int x1)] [] (G, F, I, J) b post px else ip_WP 84 19 [some (.ref x0), some (.int x1)] [] (G, F, I, J) b post px := ip_s_if_eq f84_16 rfl
theorem f84_19 : ip_fetch 84 19 = some (.aload_n 0, 1) := by decide +kernel
theorem s84_19 {x0 : Nat} {x1 : Int32} : ip_WP 84 19 [some (.ref x0), some (.int x1)] [] (G, F, I, J) b post px ↔ ip_WP 84 20 [some (.ref x0), some (.int x1)] [.ref x0] (G, F, I, J) b post px := ip_nx_iff ((ip_st_of f84_19).trans rfl)
theorem f84_20 : ip_fetch 84 20 = some (.getfield 16, 3) := by decide +kernel
set_option maxRecDepth 100000 in
theorem s84_20 {x0 : Nat} {x1 : Int32} {s0 : Nat} : ip_WP 84 20 [some (.ref x0), some (.int x1)] [.ref s0] (G, F, I, J) b post px ↔ (ip_isO G s0 1 = true ∧ ip_WP 84 23 [some (.ref x0), some (.int x1)] [F s0 5] (G, F, I, J) b post px) := ip_s_getf f84_20 (by decide +kernel)
theorem f84_23 : ip_fetch 84 23 = some (.iload_n 1, 1) := by decide +kernel
theorem s84_23 {x0 : Nat} {x1 : Int32} {s0 : Nat} : ip_WP 84 23 [some (.ref x0), some (.int x1)] [.ref s0] (G, F, I, J) b post px ↔ ip_WP 84 24 [some (.ref x0), some (.int x1)] [.int x1, .ref s0] (G, F, I, J) b post px := ip_nx_iff ((ip_st_of f84_23).trans rfl)
theorem f84_24 : ip_fetch 84 24 = some (.iaload, 1) := by decide +kernel
theorem s84_24 {x0 : Nat} {x1 : Int32} {s0 : Nat} {s1 : Int32} : ip_WP 84 24 [some (.ref x0), some (.int x1)] [.int s1, .ref s0] (G, F, I, J) b post px ↔ (ip_inA G s0 0 s1 = true ∧ ip_WP 84 25 [some (.ref x0), some (.int x1)] [.int (I s0 s1.toNatClampNeg)] (G, F, I, J) b post px) := ip_ck_iff ((ip_st_of f84_24).trans rfl) ip_nx_iff
theorem f84_25 : ip_fetch 84 25 = some (.goto 8, 3) := by decide +kernel
theorem s84_25 {x0 : Nat} {x1 : Int32} {s0 : Int32} : ip_WP 84 25 [some (.ref x0), some (.int x1)] [.int s0] (G, F, I, J) b post px ↔ ip_WP 84 33 [some (.ref x0), some (.int x1)] [.int s0] (G, F, I, J) b post px := ip_nx_iff ((ip_st_of f84_25).trans rfl)
theorem f84_28 : ip_fetch 84 28 = some (.aload_n 0, 1) := by decide +kernel
theorem s84_28 {x0 : Nat} {x1 : Int32} : ip_WP 84 28 [some (.ref x0), some (.int x1)] [] (G, F, I, J) b post px ↔ ip_WP 84 29 [some (.ref x0), some (.int x1)] [.ref x0] (G, F, I, J) b post px := ip_nx_iff ((ip_st_of f84_28).trans rfl)
theorem f84_29 : ip_fetch 84 29 = some (.iconst 1, 1) := by decide +kernel
theorem s84_29 {x0 : Nat} {x1 : Int32} {s0 : Nat} : ip_WP 84 29 [some (.ref x0), some (.int x1)] [.ref s0] (G, F, I, J) b post px ↔ ip_WP 84 30 [some (.ref x0), some (.int x1)] [.int 1, .ref s0] (G, F, I, J) b post px := ip_s_iconst f84_29 (by decide)
theorem f84_30 : ip_fetch 84 30 = some (.invokevirtual 93, 3) := by decide +kernel
set_option maxRecDepth 100000 in
theorem s84_30 {x0 : Nat} {x1 : Int32} {s0 : Nat} {s1 : Int32} : ip_WP 84 30 [some (.ref x0), some (.int x1)] [.int s1, .ref s0] (G, F, I, J) b post px ↔ (ip_isO G s0 1 = true ∧ ip_WP 21 0 [some (.ref s0), some (.int s1)] [] (G, F, I, J) (0, 0) (fun r h' => ip_WP 84 33 [some (.ref x0), some (.int x1)] (r.toList ++ []) h' b post px) (fun _ _ => False)) := ip_ck_iff (x := ip_cl 21 [some (.ref s0), some (.int s1)] [] (0, 0) b) ((ip_st_of f84_30).trans rfl) (ip_cl_iff)
theorem f84_33 : ip_fetch 84 33 = some (.ireturn, 1) := by decide +kernel
theorem s84_33 {x0 : Nat} {x1 : Int32} {s0 : Int32} : ip_WP 84 33 [some (.ref x0), some (.int x1)] [.int s0] (G, F, I, J) b post px ↔ post (some (.int s0)) (G, F, I, J) := ip_rt_iff ((ip_st_of f84_33).trans rfl)
theorem f85_0 : ip_fetch 85 0 = some (.aload_n 0, 1) := by decide +kernel
theorem s85_0 {x0 : Nat} {x1 : Option Value} : ip_WP 85 0 [some (.ref x0), x1] [] (G, F, I, J) b post px ↔ ip_WP 85 1 [some (.ref x0), x1] [.ref x0] (G, F, I, J) b post px := ip_nx_iff ((ip_st_of f85_0).trans rfl)
theorem f85_1 : ip_fetch 85 1 = some (.iconst 0, 1) := by decide +kernel
theorem s85_1 {x0 : Nat} {x1 : Option Value} {s0 : Nat} : ip_WP 85 1 [some (.ref x0), x1] [.ref s0] (G, F, I, J) b post px ↔ ip_WP 85 2 [some (.ref x0), x1] [.int 0, .ref s0] (G, F, I, J) b post px := ip_s_iconst f85_1 (by decide)
theorem f85_2 : ip_fetch 85 2 = some (.putfield 86, 3) := by decide +kernel
set_option maxRecDepth 100000 in
theorem s85_2 {x0 : Nat} {x1 : Option Value} {s0 : Nat} {s1 : Int32} : ip_WP 85 2 [some (.ref x0), x1] [.int s1, .ref s0] (G, F, I, J) b post px ↔ (ip_isO G s0 1 = true ∧ ip_WP 85 5 [some (.ref x0), x1] [] (G, ip_up F s0 1 (.int s1), I, J) b post px) := ip_s_put f85_2 (by decide +kernel) rfl
theorem f85_5 : ip_fetch 85 5 = some (.aload_n 0, 1) := by decide +kernel
theorem s85_5 {x0 : Nat} {x1 : Option Value} : ip_WP 85 5 [some (.ref x0), x1] [] (G, F, I, J) b post px ↔ ip_WP 85 6 [some (.ref x0), x1] [.ref x0] (G, F, I, J) b post px := ip_nx_iff ((ip_st_of f85_5).trans rfl)
theorem f85_6 : ip_fetch 85 6 = some (.aload_n 0, 1) := by decide +kernel
theorem s85_6 {x0 : Nat} {x1 : Option Value} {s0 : Nat} : ip_WP 85 6 [some (.ref x0), x1] [.ref s0] (G, F, I, J) b post px ↔ ip_WP 85 7 [some (.ref x0), x1] [.ref x0, .ref s0] (G, F, I, J) b post px := ip_nx_iff ((ip_st_of f85_6).trans rfl)
theorem f85_7 : ip_fetch 85 7 = some (.getfield 250, 3) := by decide +kernel
set_option maxRecDepth 100000 in
theorem s85_7 {x0 : Nat} {x1 : Option Value} {s0 : Nat} {s1 : Nat} : ip_WP 85 7 [some (.ref x0), x1] [.ref s1, .ref s0] (G, F, I, J) b post px ↔ (ip_isO G s1 1 = true ∧ ip_WP 85 10 [some (.ref x0), x1] [F s1 4, .ref s0] (G, F, I, J) b post px) := ip_s_getf f85_7 (by decide +kernel)
theorem f85_10 : ip_fetch 85 10 = some (.putfield 90, 3) := by decide +kernel
set_option maxRecDepth 100000 in
theorem s85_10 {x0 : Nat} {x1 : Option Value} {s0 : Nat} {s1 : Int32} : ip_WP 85 10 [some (.ref x0), x1] [.int s1, .ref s0] (G, F, I, J) b post px ↔ (ip_isO G s0 1 = true ∧ ip_WP 85 13 [some (.ref x0), x1] [] (G, ip_up F s0 2 (.int s1), I, J) b post px) := ip_s_put f85_10 (by decide +kernel) rfl
theorem f85_13 : ip_fetch 85 13 = some (.iconst 0, 1) := by decide +kernel
theorem s85_13 {x0 : Nat} {x1 : Option Value} : ip_WP 85 13 [some (.ref x0), x1] [] (G, F, I, J) b post px ↔ ip_WP 85 14 [some (.ref x0), x1] [.int 0] (G, F, I, J) b post px := ip_s_iconst f85_13 (by decide)
theorem f85_14 : ip_fetch 85 14 = some (.istore_n 1, 1) := by decide +kernel
theorem s85_14 {x0 : Nat} {x1 : Option Value} {s0 : Int32} : ip_WP 85 14 [some (.ref x0), x1] [.int s0] (G, F, I, J) b post px ↔ ip_WP 85 15 [some (.ref x0), some (.int s0)] [] (G, F, I, J) b post px := ip_nx_iff ((ip_st_of f85_14).trans rfl)
theorem f85_15 : ip_fetch 85 15 = some (.iload_n 1, 1) := by decide +kernel
theorem s85_15 {x0 : Nat} {x1 : Int32} : ip_WP 85 15 [some (.ref x0), some (.int x1)] [] (G, F, I, J) b post px ↔ ip_WP 85 16 [some (.ref x0), some (.int x1)] [.int x1] (G, F, I, J) b post px := ip_nx_iff ((ip_st_of f85_15).trans rfl)
theorem f85_16 : ip_fetch 85 16 = some (.aload_n 0, 1) := by decide +kernel
theorem s85_16 {x0 : Nat} {x1 : Int32} {s0 : Int32} : ip_WP 85 16 [some (.ref x0), some (.int x1)] [.int s0] (G, F, I, J) b post px ↔ ip_WP 85 17 [some (.ref x0), some (.int x1)] [.ref x0, .int s0] (G, F, I, J) b post px := ip_nx_iff ((ip_st_of f85_16).trans rfl)
theorem f85_17 : ip_fetch 85 17 = some (.getfield 250, 3) := by decide +kernel
set_option maxRecDepth 100000 in
theorem s85_17 {x0 : Nat} {x1 : Int32} {s0 : Int32} {s1 : Nat} : ip_WP 85 17 [some (.ref x0), some (.int x1)] [.ref s1, .int s0] (G, F, I, J) b post px ↔ (ip_isO G s1 1 = true ∧ ip_WP 85 20 [some (.ref x0), some (.int x1)] [F s1 4, .int s0] (G, F, I, J) b post px) := ip_s_getf f85_17 (by decide +kernel)
theorem f85_20 : ip_fetch 85 20 = some (.if_icmp .ge 21, 3) := by decide +kernel
theorem s85_20 {x0 : Nat} {x1 : Int32} {s0 : Int32} {s1 : Int32} : ip_WP 85 20 [some (.ref x0), some (.int x1)] [.int s1, .int s0] (G, F, I, J) b post px ↔ if s1 ≤ s0 then ip_WP 85 41 [some (.ref x0), some (.int x1)] [] (G, F, I, J) b post px else ip_WP 85 23 [some (.ref x0), some (.int x1)] [] (G, F, I, J) b post px := ip_s_ic_ge f85_20 rfl
theorem f85_23 : ip_fetch 85 23 = some (.aload_n 0, 1) := by decide +kernel
theorem s85_23 {x0 : Nat} {x1 : Int32} : ip_WP 85 23 [some (.ref x0), some (.int x1)] [] (G, F, I, J) b post px ↔ ip_WP 85 24 [some (.ref x0), some (.int x1)] [.ref x0] (G, F, I, J) b post px := ip_nx_iff ((ip_st_of f85_23).trans rfl)
theorem f85_24 : ip_fetch 85 24 = some (.getfield 13, 3) := by decide +kernel
set_option maxRecDepth 100000 in
theorem s85_24 {x0 : Nat} {x1 : Int32} {s0 : Nat} : ip_WP 85 24 [some (.ref x0), some (.int x1)] [.ref s0] (G, F, I, J) b post px ↔ (ip_isO G s0 1 = true ∧ ip_WP 85 27 [some (.ref x0), some (.int x1)] [F s0 3] (G, F, I, J) b post px) := ip_s_getf f85_24 (by decide +kernel)
theorem f85_27 : ip_fetch 85 27 = some (.iload_n 1, 1) := by decide +kernel
theorem s85_27 {x0 : Nat} {x1 : Int32} {s0 : Nat} : ip_WP 85 27 [some (.ref x0), some (.int x1)] [.ref s0] (G, F, I, J) b post px ↔ ip_WP 85 28 [some (.ref x0), some (.int x1)] [.int x1, .ref s0] (G, F, I, J) b post px := ip_nx_iff ((ip_st_of f85_27).trans rfl)
theorem f85_28 : ip_fetch 85 28 = some (.aload_n 0, 1) := by decide +kernel
theorem s85_28 {x0 : Nat} {x1 : Int32} {s0 : Nat} {s1 : Int32} : ip_WP 85 28 [some (.ref x0), some (.int x1)] [.int s1, .ref s0] (G, F, I, J) b post px ↔ ip_WP 85 29 [some (.ref x0), some (.int x1)] [.ref x0, .int s1, .ref s0] (G, F, I, J) b post px := ip_nx_iff ((ip_st_of f85_28).trans rfl)
theorem f85_29 : ip_fetch 85 29 = some (.getfield 16, 3) := by decide +kernel
set_option maxRecDepth 100000 in
theorem s85_29 {x0 : Nat} {x1 : Int32} {s0 : Nat} {s1 : Int32} {s2 : Nat} : ip_WP 85 29 [some (.ref x0), some (.int x1)] [.ref s2, .int s1, .ref s0] (G, F, I, J) b post px ↔ (ip_isO G s2 1 = true ∧ ip_WP 85 32 [some (.ref x0), some (.int x1)] [F s2 5, .int s1, .ref s0] (G, F, I, J) b post px) := ip_s_getf f85_29 (by decide +kernel)
theorem f85_32 : ip_fetch 85 32 = some (.iload_n 1, 1) := by decide +kernel
theorem s85_32 {x0 : Nat} {x1 : Int32} {s0 : Nat} {s1 : Int32} {s2 : Nat} : ip_WP 85 32 [some (.ref x0), some (.int x1)] [.ref s2, .int s1, .ref s0] (G, F, I, J) b post px ↔ ip_WP 85 33 [some (.ref x0), some (.int x1)] [.int x1, .ref s2, .int s1, .ref s0] (G, F, I, J) b post px := ip_nx_iff ((ip_st_of f85_32).trans rfl)
theorem f85_33 : ip_fetch 85 33 = some (.iaload, 1) := by decide +kernel
theorem s85_33 {x0 : Nat} {x1 : Int32} {s0 : Nat} {s1 : Int32} {s2 : Nat} {s3 : Int32} : ip_WP 85 33 [some (.ref x0), some (.int x1)] [.int s3, .ref s2, .int s1, .ref s0] (G, F, I, J) b post px ↔ (ip_inA G s2 0 s3 = true ∧ ip_WP 85 34 [some (.ref x0), some (.int x1)] [.int (I s2 s3.toNatClampNeg), .int s1, .ref s0] (G, F, I, J) b post px) := ip_ck_iff ((ip_st_of f85_33).trans rfl) ip_nx_iff
theorem f85_34 : ip_fetch 85 34 = some (.iastore, 1) := by decide +kernel
theorem s85_34 {x0 : Nat} {x1 : Int32} {s0 : Nat} {s1 : Int32} {s2 : Int32} : ip_WP 85 34 [some (.ref x0), some (.int x1)] [.int s2, .int s1, .ref s0] (G, F, I, J) b post px ↔ (ip_inA G s0 0 s1 = true ∧ ip_WP 85 35 [some (.ref x0), some (.int x1)] [] (G, F, ip_up I s0 s1.toNatClampNeg s2, J) b post px) := ip_ck_iff ((ip_st_of f85_34).trans rfl) ip_nx_iff
theorem f85_35 : ip_fetch 85 35 = some (.iinc 1 1, 3) := by decide +kernel
theorem s85_35 {x0 : Nat} {x1 : Int32} : ip_WP 85 35 [some (.ref x0), some (.int x1)] [] (G, F, I, J) b post px ↔ ip_WP 85 38 [some (.ref x0), some (.int (x1 + 1))] [] (G, F, I, J) b post px := ip_s_iinc f85_35 rfl (by decide)
theorem f85_38 : ip_fetch 85 38 = some (.goto (-23), 3) := by decide +kernel
theorem s85_38 {x0 : Nat} {x1 : Int32} : ip_WP 85 38 [some (.ref x0), some (.int x1)] [] (G, F, I, J) b post px ↔ ip_WP 85 15 [some (.ref x0), some (.int x1)] [] (G, F, I, J) b post px := ip_nx_iff ((ip_st_of f85_38).trans rfl)
theorem f85_41 : ip_fetch 85 41 = some (.aload_n 0, 1) := by decide +kernel
theorem s85_41 {x0 : Nat} {x1 : Int32} : ip_WP 85 41 [some (.ref x0), some (.int x1)] [] (G, F, I, J) b post px ↔ ip_WP 85 42 [some (.ref x0), some (.int x1)] [.ref x0] (G, F, I, J) b post px := ip_nx_iff ((ip_st_of f85_41).trans rfl)
theorem f85_42 : ip_fetch 85 42 = some (.getfield 90, 3) := by decide +kernel
set_option maxRecDepth 100000 in
theorem s85_42 {x0 : Nat} {x1 : Int32} {s0 : Nat} : ip_WP 85 42 [some (.ref x0), some (.int x1)] [.ref s0] (G, F, I, J) b post px ↔ (ip_isO G s0 1 = true ∧ ip_WP 85 45 [some (.ref x0), some (.int x1)] [F s0 2] (G, F, I, J) b post px) := ip_s_getf f85_42 (by decide +kernel)
theorem f85_45 : ip_fetch 85 45 = some (.ireturn, 1) := by decide +kernel
theorem s85_45 {x0 : Nat} {x1 : Int32} {s0 : Int32} : ip_WP 85 45 [some (.ref x0), some (.int x1)] [.int s0] (G, F, I, J) b post px ↔ post (some (.int s0)) (G, F, I, J) := ip_rt_iff ((ip_st_of f85_45).trans rfl)
theorem f86_0 : ip_fetch 86 0 = some (.aload_n 0, 1) := by decide +kernel
theorem s86_0 {x0 : Nat} {x1 : Int32} : ip_WP 86 0 [some (.ref x0), some (.int x1)] [] (G, F, I, J) b post px ↔ ip_WP 86 1 [some (.ref x0), some (.int x1)] [.ref x0] (G, F, I, J) b post px := ip_nx_iff ((ip_st_of f86_0).trans rfl)
theorem f86_1 : ip_fetch 86 1 = some (.iconst 0, 1) := by decide +kernel
theorem s86_1 {x0 : Nat} {x1 : Int32} {s0 : Nat} : ip_WP 86 1 [some (.ref x0), some (.int x1)] [.ref s0] (G, F, I, J) b post px ↔ ip_WP 86 2 [some (.ref x0), some (.int x1)] [.int 0, .ref s0] (G, F, I, J) b post px := ip_s_iconst f86_1 (by decide)
theorem f86_2 : ip_fetch 86 2 = some (.putfield 86, 3) := by decide +kernel
set_option maxRecDepth 100000 in
theorem s86_2 {x0 : Nat} {x1 : Int32} {s0 : Nat} {s1 : Int32} : ip_WP 86 2 [some (.ref x0), some (.int x1)] [.int s1, .ref s0] (G, F, I, J) b post px ↔ (ip_isO G s0 1 = true ∧ ip_WP 86 5 [some (.ref x0), some (.int x1)] [] (G, ip_up F s0 1 (.int s1), I, J) b post px) := ip_s_put f86_2 (by decide +kernel) rfl
theorem f86_5 : ip_fetch 86 5 = some (.iload_n 1, 1) := by decide +kernel
theorem s86_5 {x0 : Nat} {x1 : Int32} : ip_WP 86 5 [some (.ref x0), some (.int x1)] [] (G, F, I, J) b post px ↔ ip_WP 86 6 [some (.ref x0), some (.int x1)] [.int x1] (G, F, I, J) b post px := ip_nx_iff ((ip_st_of f86_5).trans rfl)
-- switch 86 6
theorem f86_6 : ip_fetch 86 6 = some (.tableswitch 103 0 8 #[50, 55, 62, 69, 74, 81, 88, 93, 98], 50) := by decide +kernel
theorem s86_6 {x0 : Nat} {x1 : Int32} {s0 : Int32} : ip_WP 86 6 [some (.ref x0), some (.int x1)] [.int s0] (G, F, I, J) b post px ↔ if s0 = 0 then ip_WP 86 56 [some (.ref x0), some (.int x1)] [] (G, F, I, J) b post px else if s0 = 1 then ip_WP 86 61 [some (.ref x0), some (.int x1)] [] (G, F, I, J) b post px else if s0 = 2 then ip_WP 86 68 [some (.ref x0), some (.int x1)] [] (G, F, I, J) b post px else if s0 = 3 then ip_WP 86 75 [some (.ref x0), some (.int x1)] [] (G, F, I, J) b post px else if s0 = 4 then ip_WP 86 80 [some (.ref x0), some (.int x1)] [] (G, F, I, J) b post px else if s0 = 5 then ip_WP 86 87 [some (.ref x0), some (.int x1)] [] (G, F, I, J) b post px else if s0 = 6 then ip_WP 86 94 [some (.ref x0), some (.int x1)] [] (G, F, I, J) b post px else if s0 = 7 then ip_WP 86 99 [some (.ref x0), some (.int x1)] [] (G, F, I, J) b post px else if s0 = 8 then ip_WP 86 104 [some (.ref x0), some (.int x1)] [] (G, F, I, J) b post px else ip_WP 86 109 [some (.ref x0), some (.int x1)] [] (G, F, I, J) b post px := by
  by_cases h0 : s0 = 0
  · subst h0
    rw [if_pos rfl]
    exact ip_nx_iff ((ip_st_of f86_6).trans rfl)
  rw [if_neg h0]
  by_cases h1 : s0 = 1
  · subst h1
    rw [if_pos rfl]
    exact ip_nx_iff ((ip_st_of f86_6).trans rfl)
  rw [if_neg h1]
  by_cases h2 : s0 = 2
  · subst h2
    rw [if_pos rfl]
    exact ip_nx_iff ((ip_st_of f86_6).trans rfl)
  rw [if_neg h2]
  by_cases h3 : s0 = 3
  · subst h3
    rw [if_pos rfl]
    exact ip_nx_iff ((ip_st_of f86_6).trans rfl)
  rw [if_neg h3]
  by_cases h4 : s0 = 4
  · subst h4
    rw [if_pos rfl]
    exact ip_nx_iff ((ip_st_of f86_6).trans rfl)
  rw [if_neg h4]
  by_cases h5 : s0 = 5
  · subst h5
    rw [if_pos rfl]
    exact ip_nx_iff ((ip_st_of f86_6).trans rfl)
  rw [if_neg h5]
  by_cases h6 : s0 = 6
  · subst h6
    rw [if_pos rfl]
    exact ip_nx_iff ((ip_st_of f86_6).trans rfl)
  rw [if_neg h6]
  by_cases h7 : s0 = 7
  · subst h7
    rw [if_pos rfl]
    exact ip_nx_iff ((ip_st_of f86_6).trans rfl)
  rw [if_neg h7]
  by_cases h8 : s0 = 8
  · subst h8
    rw [if_pos rfl]
    exact ip_nx_iff ((ip_st_of f86_6).trans rfl)
  rw [if_neg h8]
  have g0 := lv_neT (a := 0) h0 (by decide)
  have g1 := lv_neT (a := 1) h1 (by decide)
  have g2 := lv_neT (a := 2) h2 (by decide)
  have g3 := lv_neT (a := 3) h3 (by decide)
  have g4 := lv_neT (a := 4) h4 (by decide)
  have g5 := lv_neT (a := 5) h5 (by decide)
  have g6 := lv_neT (a := 6) h6 (by decide)
  have g7 := lv_neT (a := 7) h7 (by decide)
  have g8 := lv_neT (a := 8) h8 (by decide)
  exact ip_s_tsd f86_6 (by omega) rfl rfl
theorem f86_56 : ip_fetch 86 56 = some (.aload_n 0, 1) := by decide +kernel
theorem s86_56 {x0 : Nat} {x1 : Int32} : ip_WP 86 56 [some (.ref x0), some (.int x1)] [] (G, F, I, J) b post px ↔ ip_WP 86 57 [some (.ref x0), some (.int x1)] [.ref x0] (G, F, I, J) b post px := ip_nx_iff ((ip_st_of f86_56).trans rfl)
theorem f86_57 : ip_fetch 86 57 = some (.getfield 90, 3) := by decide +kernel
set_option maxRecDepth 100000 in
theorem s86_57 {x0 : Nat} {x1 : Int32} {s0 : Nat} : ip_WP 86 57 [some (.ref x0), some (.int x1)] [.ref s0] (G, F, I, J) b post px ↔ (ip_isO G s0 1 = true ∧ ip_WP 86 60 [some (.ref x0), some (.int x1)] [F s0 2] (G, F, I, J) b post px) := ip_s_getf f86_57 (by decide +kernel)
theorem f86_60 : ip_fetch 86 60 = some (.ireturn, 1) := by decide +kernel
theorem s86_60 {x0 : Nat} {x1 : Int32} {s0 : Int32} : ip_WP 86 60 [some (.ref x0), some (.int x1)] [.int s0] (G, F, I, J) b post px ↔ post (some (.int s0)) (G, F, I, J) := ip_rt_iff ((ip_st_of f86_60).trans rfl)
theorem f86_61 : ip_fetch 86 61 = some (.aload_n 0, 1) := by decide +kernel
theorem s86_61 {x0 : Nat} {x1 : Int32} : ip_WP 86 61 [some (.ref x0), some (.int x1)] [] (G, F, I, J) b post px ↔ ip_WP 86 62 [some (.ref x0), some (.int x1)] [.ref x0] (G, F, I, J) b post px := ip_nx_iff ((ip_st_of f86_61).trans rfl)
theorem f86_62 : ip_fetch 86 62 = some (.getfield 34, 3) := by decide +kernel
set_option maxRecDepth 100000 in
theorem s86_62 {x0 : Nat} {x1 : Int32} {s0 : Nat} : ip_WP 86 62 [some (.ref x0), some (.int x1)] [.ref s0] (G, F, I, J) b post px ↔ (ip_isO G s0 1 = true ∧ ip_WP 86 65 [some (.ref x0), some (.int x1)] [F s0 16] (G, F, I, J) b post px) := ip_s_getf f86_62 (by decide +kernel)
theorem f86_65 : ip_fetch 86 65 = some (.iconst 0, 1) := by decide +kernel
theorem s86_65 {x0 : Nat} {x1 : Int32} {s0 : Nat} : ip_WP 86 65 [some (.ref x0), some (.int x1)] [.ref s0] (G, F, I, J) b post px ↔ ip_WP 86 66 [some (.ref x0), some (.int x1)] [.int 0, .ref s0] (G, F, I, J) b post px := ip_s_iconst f86_65 (by decide)
theorem f86_66 : ip_fetch 86 66 = some (.iaload, 1) := by decide +kernel
theorem s86_66 {x0 : Nat} {x1 : Int32} {s0 : Nat} {s1 : Int32} : ip_WP 86 66 [some (.ref x0), some (.int x1)] [.int s1, .ref s0] (G, F, I, J) b post px ↔ (ip_inA G s0 0 s1 = true ∧ ip_WP 86 67 [some (.ref x0), some (.int x1)] [.int (I s0 s1.toNatClampNeg)] (G, F, I, J) b post px) := ip_ck_iff ((ip_st_of f86_66).trans rfl) ip_nx_iff
theorem f86_67 : ip_fetch 86 67 = some (.ireturn, 1) := by decide +kernel
theorem s86_67 {x0 : Nat} {x1 : Int32} {s0 : Int32} : ip_WP 86 67 [some (.ref x0), some (.int x1)] [.int s0] (G, F, I, J) b post px ↔ post (some (.int s0)) (G, F, I, J) := ip_rt_iff ((ip_st_of f86_67).trans rfl)
theorem f86_68 : ip_fetch 86 68 = some (.aload_n 0, 1) := by decide +kernel
theorem s86_68 {x0 : Nat} {x1 : Int32} : ip_WP 86 68 [some (.ref x0), some (.int x1)] [] (G, F, I, J) b post px ↔ ip_WP 86 69 [some (.ref x0), some (.int x1)] [.ref x0] (G, F, I, J) b post px := ip_nx_iff ((ip_st_of f86_68).trans rfl)
theorem f86_69 : ip_fetch 86 69 = some (.getfield 34, 3) := by decide +kernel
set_option maxRecDepth 100000 in
theorem s86_69 {x0 : Nat} {x1 : Int32} {s0 : Nat} : ip_WP 86 69 [some (.ref x0), some (.int x1)] [.ref s0] (G, F, I, J) b post px ↔ (ip_isO G s0 1 = true ∧ ip_WP 86 72 [some (.ref x0), some (.int x1)] [F s0 16] (G, F, I, J) b post px) := ip_s_getf f86_69 (by decide +kernel)
theorem f86_72 : ip_fetch 86 72 = some (.iconst 1, 1) := by decide +kernel
theorem s86_72 {x0 : Nat} {x1 : Int32} {s0 : Nat} : ip_WP 86 72 [some (.ref x0), some (.int x1)] [.ref s0] (G, F, I, J) b post px ↔ ip_WP 86 73 [some (.ref x0), some (.int x1)] [.int 1, .ref s0] (G, F, I, J) b post px := ip_s_iconst f86_72 (by decide)
theorem f86_73 : ip_fetch 86 73 = some (.iaload, 1) := by decide +kernel
theorem s86_73 {x0 : Nat} {x1 : Int32} {s0 : Nat} {s1 : Int32} : ip_WP 86 73 [some (.ref x0), some (.int x1)] [.int s1, .ref s0] (G, F, I, J) b post px ↔ (ip_inA G s0 0 s1 = true ∧ ip_WP 86 74 [some (.ref x0), some (.int x1)] [.int (I s0 s1.toNatClampNeg)] (G, F, I, J) b post px) := ip_ck_iff ((ip_st_of f86_73).trans rfl) ip_nx_iff
theorem f86_74 : ip_fetch 86 74 = some (.ireturn, 1) := by decide +kernel
theorem s86_74 {x0 : Nat} {x1 : Int32} {s0 : Int32} : ip_WP 86 74 [some (.ref x0), some (.int x1)] [.int s0] (G, F, I, J) b post px ↔ post (some (.int s0)) (G, F, I, J) := ip_rt_iff ((ip_st_of f86_74).trans rfl)
theorem f86_75 : ip_fetch 86 75 = some (.aload_n 0, 1) := by decide +kernel
theorem s86_75 {x0 : Nat} {x1 : Int32} : ip_WP 86 75 [some (.ref x0), some (.int x1)] [] (G, F, I, J) b post px ↔ ip_WP 86 76 [some (.ref x0), some (.int x1)] [.ref x0] (G, F, I, J) b post px := ip_nx_iff ((ip_st_of f86_75).trans rfl)
theorem f86_76 : ip_fetch 86 76 = some (.getfield 185, 3) := by decide +kernel
set_option maxRecDepth 100000 in
theorem s86_76 {x0 : Nat} {x1 : Int32} {s0 : Nat} : ip_WP 86 76 [some (.ref x0), some (.int x1)] [.ref s0] (G, F, I, J) b post px ↔ (ip_isO G s0 1 = true ∧ ip_WP 86 79 [some (.ref x0), some (.int x1)] [F s0 23] (G, F, I, J) b post px) := ip_s_getf f86_76 (by decide +kernel)
theorem f86_79 : ip_fetch 86 79 = some (.ireturn, 1) := by decide +kernel
theorem s86_79 {x0 : Nat} {x1 : Int32} {s0 : Int32} : ip_WP 86 79 [some (.ref x0), some (.int x1)] [.int s0] (G, F, I, J) b post px ↔ post (some (.int s0)) (G, F, I, J) := ip_rt_iff ((ip_st_of f86_79).trans rfl)
theorem f86_80 : ip_fetch 86 80 = some (.aload_n 0, 1) := by decide +kernel
theorem s86_80 {x0 : Nat} {x1 : Int32} : ip_WP 86 80 [some (.ref x0), some (.int x1)] [] (G, F, I, J) b post px ↔ ip_WP 86 81 [some (.ref x0), some (.int x1)] [.ref x0] (G, F, I, J) b post px := ip_nx_iff ((ip_st_of f86_80).trans rfl)
theorem f86_81 : ip_fetch 86 81 = some (.getfield 34, 3) := by decide +kernel
set_option maxRecDepth 100000 in
theorem s86_81 {x0 : Nat} {x1 : Int32} {s0 : Nat} : ip_WP 86 81 [some (.ref x0), some (.int x1)] [.ref s0] (G, F, I, J) b post px ↔ (ip_isO G s0 1 = true ∧ ip_WP 86 84 [some (.ref x0), some (.int x1)] [F s0 16] (G, F, I, J) b post px) := ip_s_getf f86_81 (by decide +kernel)
theorem f86_84 : ip_fetch 86 84 = some (.iconst 2, 1) := by decide +kernel
theorem s86_84 {x0 : Nat} {x1 : Int32} {s0 : Nat} : ip_WP 86 84 [some (.ref x0), some (.int x1)] [.ref s0] (G, F, I, J) b post px ↔ ip_WP 86 85 [some (.ref x0), some (.int x1)] [.int 2, .ref s0] (G, F, I, J) b post px := ip_s_iconst f86_84 (by decide)
theorem f86_85 : ip_fetch 86 85 = some (.iaload, 1) := by decide +kernel
theorem s86_85 {x0 : Nat} {x1 : Int32} {s0 : Nat} {s1 : Int32} : ip_WP 86 85 [some (.ref x0), some (.int x1)] [.int s1, .ref s0] (G, F, I, J) b post px ↔ (ip_inA G s0 0 s1 = true ∧ ip_WP 86 86 [some (.ref x0), some (.int x1)] [.int (I s0 s1.toNatClampNeg)] (G, F, I, J) b post px) := ip_ck_iff ((ip_st_of f86_85).trans rfl) ip_nx_iff
theorem f86_86 : ip_fetch 86 86 = some (.ireturn, 1) := by decide +kernel
theorem s86_86 {x0 : Nat} {x1 : Int32} {s0 : Int32} : ip_WP 86 86 [some (.ref x0), some (.int x1)] [.int s0] (G, F, I, J) b post px ↔ post (some (.int s0)) (G, F, I, J) := ip_rt_iff ((ip_st_of f86_86).trans rfl)
theorem f86_87 : ip_fetch 86 87 = some (.aload_n 0, 1) := by decide +kernel
theorem s86_87 {x0 : Nat} {x1 : Int32} : ip_WP 86 87 [some (.ref x0), some (.int x1)] [] (G, F, I, J) b post px ↔ ip_WP 86 88 [some (.ref x0), some (.int x1)] [.ref x0] (G, F, I, J) b post px := ip_nx_iff ((ip_st_of f86_87).trans rfl)
theorem f86_88 : ip_fetch 86 88 = some (.getfield 34, 3) := by decide +kernel
set_option maxRecDepth 100000 in
theorem s86_88 {x0 : Nat} {x1 : Int32} {s0 : Nat} : ip_WP 86 88 [some (.ref x0), some (.int x1)] [.ref s0] (G, F, I, J) b post px ↔ (ip_isO G s0 1 = true ∧ ip_WP 86 91 [some (.ref x0), some (.int x1)] [F s0 16] (G, F, I, J) b post px) := ip_s_getf f86_88 (by decide +kernel)
theorem f86_91 : ip_fetch 86 91 = some (.iconst 3, 1) := by decide +kernel
theorem s86_91 {x0 : Nat} {x1 : Int32} {s0 : Nat} : ip_WP 86 91 [some (.ref x0), some (.int x1)] [.ref s0] (G, F, I, J) b post px ↔ ip_WP 86 92 [some (.ref x0), some (.int x1)] [.int 3, .ref s0] (G, F, I, J) b post px := ip_s_iconst f86_91 (by decide)
theorem f86_92 : ip_fetch 86 92 = some (.iaload, 1) := by decide +kernel
theorem s86_92 {x0 : Nat} {x1 : Int32} {s0 : Nat} {s1 : Int32} : ip_WP 86 92 [some (.ref x0), some (.int x1)] [.int s1, .ref s0] (G, F, I, J) b post px ↔ (ip_inA G s0 0 s1 = true ∧ ip_WP 86 93 [some (.ref x0), some (.int x1)] [.int (I s0 s1.toNatClampNeg)] (G, F, I, J) b post px) := ip_ck_iff ((ip_st_of f86_92).trans rfl) ip_nx_iff
theorem f86_93 : ip_fetch 86 93 = some (.ireturn, 1) := by decide +kernel
theorem s86_93 {x0 : Nat} {x1 : Int32} {s0 : Int32} : ip_WP 86 93 [some (.ref x0), some (.int x1)] [.int s0] (G, F, I, J) b post px ↔ post (some (.int s0)) (G, F, I, J) := ip_rt_iff ((ip_st_of f86_93).trans rfl)
theorem f86_94 : ip_fetch 86 94 = some (.aload_n 0, 1) := by decide +kernel
theorem s86_94 {x0 : Nat} {x1 : Int32} : ip_WP 86 94 [some (.ref x0), some (.int x1)] [] (G, F, I, J) b post px ↔ ip_WP 86 95 [some (.ref x0), some (.int x1)] [.ref x0] (G, F, I, J) b post px := ip_nx_iff ((ip_st_of f86_94).trans rfl)
theorem f86_95 : ip_fetch 86 95 = some (.getfield 216, 3) := by decide +kernel
set_option maxRecDepth 100000 in
theorem s86_95 {x0 : Nat} {x1 : Int32} {s0 : Nat} : ip_WP 86 95 [some (.ref x0), some (.int x1)] [.ref s0] (G, F, I, J) b post px ↔ (ip_isO G s0 1 = true ∧ ip_WP 86 98 [some (.ref x0), some (.int x1)] [F s0 9] (G, F, I, J) b post px) := ip_s_getf f86_95 (by decide +kernel)
theorem f86_98 : ip_fetch 86 98 = some (.ireturn, 1) := by decide +kernel
theorem s86_98 {x0 : Nat} {x1 : Int32} {s0 : Int32} : ip_WP 86 98 [some (.ref x0), some (.int x1)] [.int s0] (G, F, I, J) b post px ↔ post (some (.int s0)) (G, F, I, J) := ip_rt_iff ((ip_st_of f86_98).trans rfl)
theorem f86_99 : ip_fetch 86 99 = some (.aload_n 0, 1) := by decide +kernel
theorem s86_99 {x0 : Nat} {x1 : Int32} : ip_WP 86 99 [some (.ref x0), some (.int x1)] [] (G, F, I, J) b post px ↔ ip_WP 86 100 [some (.ref x0), some (.int x1)] [.ref x0] (G, F, I, J) b post px := ip_nx_iff ((ip_st_of f86_99).trans rfl)
theorem f86_100 : ip_fetch 86 100 = some (.getfield 231, 3) := by decide +kernel
set_option maxRecDepth 100000 in
theorem s86_100 {x0 : Nat} {x1 : Int32} {s0 : Nat} : ip_WP 86 100 [some (.ref x0), some (.int x1)] [.ref s0] (G, F, I, J) b post px ↔ (ip_isO G s0 1 = true ∧ ip_WP 86 103 [some (.ref x0), some (.int x1)] [F s0 30] (G, F, I, J) b post px) := ip_s_getf f86_100 (by decide +kernel)
theorem f86_103 : ip_fetch 86 103 = some (.ireturn, 1) := by decide +kernel
theorem s86_103 {x0 : Nat} {x1 : Int32} {s0 : Int32} : ip_WP 86 103 [some (.ref x0), some (.int x1)] [.int s0] (G, F, I, J) b post px ↔ post (some (.int s0)) (G, F, I, J) := ip_rt_iff ((ip_st_of f86_103).trans rfl)
theorem f86_104 : ip_fetch 86 104 = some (.aload_n 0, 1) := by decide +kernel
theorem s86_104 {x0 : Nat} {x1 : Int32} : ip_WP 86 104 [some (.ref x0), some (.int x1)] [] (G, F, I, J) b post px ↔ ip_WP 86 105 [some (.ref x0), some (.int x1)] [.ref x0] (G, F, I, J) b post px := ip_nx_iff ((ip_st_of f86_104).trans rfl)
theorem f86_105 : ip_fetch 86 105 = some (.getfield 250, 3) := by decide +kernel
set_option maxRecDepth 100000 in
theorem s86_105 {x0 : Nat} {x1 : Int32} {s0 : Nat} : ip_WP 86 105 [some (.ref x0), some (.int x1)] [.ref s0] (G, F, I, J) b post px ↔ (ip_isO G s0 1 = true ∧ ip_WP 86 108 [some (.ref x0), some (.int x1)] [F s0 4] (G, F, I, J) b post px) := ip_s_getf f86_105 (by decide +kernel)
theorem f86_108 : ip_fetch 86 108 = some (.ireturn, 1) := by decide +kernel
theorem s86_108 {x0 : Nat} {x1 : Int32} {s0 : Int32} : ip_WP 86 108 [some (.ref x0), some (.int x1)] [.int s0] (G, F, I, J) b post px ↔ post (some (.int s0)) (G, F, I, J) := ip_rt_iff ((ip_st_of f86_108).trans rfl)
theorem f86_109 : ip_fetch 86 109 = some (.iconst (-1), 1) := by decide +kernel
theorem s86_109 {x0 : Nat} {x1 : Int32} : ip_WP 86 109 [some (.ref x0), some (.int x1)] [] (G, F, I, J) b post px ↔ ip_WP 86 110 [some (.ref x0), some (.int x1)] [.int (-1)] (G, F, I, J) b post px := ip_s_iconst f86_109 (by decide)
theorem f86_110 : ip_fetch 86 110 = some (.ireturn, 1) := by decide +kernel
theorem s86_110 {x0 : Nat} {x1 : Int32} {s0 : Int32} : ip_WP 86 110 [some (.ref x0), some (.int x1)] [.int s0] (G, F, I, J) b post px ↔ post (some (.int s0)) (G, F, I, J) := ip_rt_iff ((ip_st_of f86_110).trans rfl)
end
