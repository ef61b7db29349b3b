section
variable {G : List ip_K} {F : Nat → Nat → Value} {I : Nat → Nat → Int32} {J : Nat → Nat → Int64} {b : ip_B} {post : Option Value → ip_H → Prop} {px : String → ip_H → Prop}
theorem f20_0 : ip_fetch 20 0 = some (.aload_n 0, 1) := by decide +kernel
theorem s20_0 {x0 : Nat} : ip_WP 20 0 [some (.ref x0)] [] (G, F, I, J) b post px ↔ ip_WP 20 1 [some (.ref x0)] [.ref x0] (G, F, I, J) b post px := ip_nx_iff ((ip_st_of f20_0).trans rfl)
theorem f20_1 : ip_fetch 20 1 = some (.getfield 86, 3) := by decide +kernel
set_option maxRecDepth 100000 in
theorem s20_1 {x0 : Nat} {s0 : Nat} : ip_WP 20 1 [some (.ref x0)] [.ref s0] (G, F, I, J) b post px ↔ (ip_isO G s0 1 = true ∧ ip_WP 20 4 [some (.ref x0)] [F s0 1] (G, F, I, J) b post px) := ip_s_getf f20_1 (by decide +kernel)
theorem f20_4 : ip_fetch 20 4 = some (.ireturn, 1) := by decide +kernel
theorem s20_4 {x0 : Nat} {s0 : Int32} : ip_WP 20 4 [some (.ref x0)] [.int s0] (G, F, I, J) b post px ↔ post (some (.int s0)) (G, F, I, J) := ip_rt_iff ((ip_st_of f20_4).trans rfl)
theorem f21_0 : ip_fetch 21 0 = some (.aload_n 0, 1) := by decide +kernel
theorem s21_0 {x0 : Nat} {x1 : Int32} : ip_WP 21 0 [some (.ref x0), some (.int x1)] [] (G, F, I, J) b post px ↔ ip_WP 21 1 [some (.ref x0), some (.int x1)] [.ref x0] (G, F, I, J) b post px := ip_nx_iff ((ip_st_of f21_0).trans rfl)
theorem f21_1 : ip_fetch 21 1 = some (.iload_n 1, 1) := by decide +kernel
theorem s21_1 {x0 : Nat} {x1 : Int32} {s0 : Nat} : ip_WP 21 1 [some (.ref x0), some (.int x1)] [.ref s0] (G, F, I, J) b post px ↔ ip_WP 21 2 [some (.ref x0), some (.int x1)] [.int x1, .ref s0] (G, F, I, J) b post px := ip_nx_iff ((ip_st_of f21_1).trans rfl)
theorem f21_2 : ip_fetch 21 2 = some (.putfield 86, 3) := by decide +kernel
set_option maxRecDepth 100000 in
theorem s21_2 {x0 : Nat} {x1 : Int32} {s0 : Nat} {s1 : Int32} : ip_WP 21 2 [some (.ref x0), some (.int x1)] [.int s1, .ref s0] (G, F, I, J) b post px ↔ (ip_isO G s0 1 = true ∧ ip_WP 21 5 [some (.ref x0), some (.int x1)] [] (G, ip_up F s0 1 (.int s1), I, J) b post px) := ip_s_put f21_2 (by decide +kernel) rfl
theorem f21_5 : ip_fetch 21 5 = some (.iconst 0, 1) := by decide +kernel
theorem s21_5 {x0 : Nat} {x1 : Int32} : ip_WP 21 5 [some (.ref x0), some (.int x1)] [] (G, F, I, J) b post px ↔ ip_WP 21 6 [some (.ref x0), some (.int x1)] [.int 0] (G, F, I, J) b post px := ip_s_iconst f21_5 (by decide)
theorem f21_6 : ip_fetch 21 6 = some (.ireturn, 1) := by decide +kernel
theorem s21_6 {x0 : Nat} {x1 : Int32} {s0 : Int32} : ip_WP 21 6 [some (.ref x0), some (.int x1)] [.int s0] (G, F, I, J) b post px ↔ post (some (.int s0)) (G, F, I, J) := ip_rt_iff ((ip_st_of f21_6).trans rfl)
theorem f22_0 : ip_fetch 22 0 = some (.iload_n 0, 1) := by decide +kernel
theorem s22_0 {x0 : Int32} {x1 : Int32} {x2 : Int32} : ip_WP 22 0 [some (.int x0), some (.int x1), some (.int x2)] [] (G, F, I, J) b post px ↔ ip_WP 22 1 [some (.int x0), some (.int x1), some (.int x2)] [.int x0] (G, F, I, J) b post px := ip_nx_iff ((ip_st_of f22_0).trans rfl)
theorem f22_1 : ip_fetch 22 1 = some (.iload_n 1, 1) := by decide +kernel
theorem s22_1 {x0 : Int32} {x1 : Int32} {x2 : Int32} {s0 : Int32} : ip_WP 22 1 [some (.int x0), some (.int x1), some (.int x2)] [.int s0] (G, F, I, J) b post px ↔ ip_WP 22 2 [some (.int x0), some (.int x1), some (.int x2)] [.int x1, .int s0] (G, F, I, J) b post px := ip_nx_iff ((ip_st_of f22_1).trans rfl)
theorem f22_2 : ip_fetch 22 2 = some (.if_icmp .lt 12, 3) := by decide +kernel
theorem s22_2 {x0 : Int32} {x1 : Int32} {x2 : Int32} {s0 : Int32} {s1 : Int32} : ip_WP 22 2 [some (.int x0), some (.int x1), some (.int x2)] [.int s1, .int s0] (G, F, I, J) b post px ↔ if s0 < s1 then ip_WP 22 14 [some (.int x0), some (.int x1), some (.int x2)] [] (G, F, I, J) b post px else ip_WP 22 5 [some (.int x0), some (.int x1), some (.int x2)] [] (G, F, I, J) b post px := ip_s_ic_lt f22_2 rfl
theorem f22_5 : ip_fetch 22 5 = some (.iload_n 0, 1) := by decide +kernel
theorem s22_5 {x0 : Int32} {x1 : Int32} {x2 : Int32} : ip_WP 22 5 [some (.int x0), some (.int x1), some (.int x2)] [] (G, F, I, J) b post px ↔ ip_WP 22 6 [some (.int x0), some (.int x1), some (.int x2)] [.int x0] (G, F, I, J) b post px := ip_nx_iff ((ip_st_of f22_5).trans rfl)
theorem f22_6 : ip_fetch 22 6 = some (.iload_n 2, 1) := by decide +kernel
theorem s22_6 {x0 : Int32} {x1 : Int32} {x2 : Int32} {s0 : Int32} : ip_WP 22 6 [some (.int x0), some (.int x1), some (.int x2)] [.int s0] (G, F, I, J) b post px ↔ ip_WP 22 7 [some (.int x0), some (.int x1), some (.int x2)] [.int x2, .int s0] (G, F, I, J) b post px := ip_nx_iff ((ip_st_of f22_6).trans rfl)
theorem f22_7 : ip_fetch 22 7 = some (.if_icmp .gt 7, 3) := by decide +kernel
theorem s22_7 {x0 : Int32} {x1 : Int32} {x2 : Int32} {s0 : Int32} {s1 : Int32} : ip_WP 22 7 [some (.int x0), some (.int x1), some (.int x2)] [.int s1, .int s0] (G, F, I, J) b post px ↔ if s1 < s0 then ip_WP 22 14 [some (.int x0), some (.int x1), some (.int x2)] [] (G, F, I, J) b post px else ip_WP 22 10 [some (.int x0), some (.int x1), some (.int x2)] [] (G, F, I, J) b post px := ip_s_ic_gt f22_7 rfl
theorem f22_10 : ip_fetch 22 10 = some (.iconst 1, 1) := by decide +kernel
theorem s22_10 {x0 : Int32} {x1 : Int32} {x2 : Int32} : ip_WP 22 10 [some (.int x0), some (.int x1), some (.int x2)] [] (G, F, I, J) b post px ↔ ip_WP 22 11 [some (.int x0), some (.int x1), some (.int x2)] [.int 1] (G, F, I, J) b post px := ip_s_iconst f22_10 (by decide)
theorem f22_11 : ip_fetch 22 11 = some (.goto 4, 3) := by decide +kernel
theorem s22_11 {x0 : Int32} {x1 : Int32} {x2 : Int32} {s0 : Int32} : ip_WP 22 11 [some (.int x0), some (.int x1), some (.int x2)] [.int s0] (G, F, I, J) b post px ↔ ip_WP 22 15 [some (.int x0), some (.int x1), some (.int x2)] [.int s0] (G, F, I, J) b post px := ip_nx_iff ((ip_st_of f22_11).trans rfl)
theorem f22_14 : ip_fetch 22 14 = some (.iconst 0, 1) := by decide +kernel
theorem s22_14 {x0 : Int32} {x1 : Int32} {x2 : Int32} : ip_WP 22 14 [some (.int x0), some (.int x1), some (.int x2)] [] (G, F, I, J) b post px ↔ ip_WP 22 15 [some (.int x0), some (.int x1), some (.int x2)] [.int 0] (G, F, I, J) b post px := ip_s_iconst f22_14 (by decide)
theorem f22_15 : ip_fetch 22 15 = some (.ireturn, 1) := by decide +kernel
theorem s22_15 {x0 : Int32} {x1 : Int32} {x2 : Int32} {s0 : Int32} : ip_WP 22 15 [some (.int x0), some (.int x1), some (.int x2)] [.int s0] (G, F, I, J) b post px ↔ ((s0 = 0 ∨ s0 = 1) ∧ post (some (.int s0)) (G, F, I, J)) := ip_s_zret ((ip_st_of f22_15).trans rfl)
theorem f23_0 : ip_fetch 23 0 = some (.aload_n 0, 1) := by decide +kernel
theorem s23_0 {x0 : Nat} {x1 : Int32} {x2 : Int32} {x3 : Int32} {x4 : Int32} {x5 : Option Value} {x6 : Option Value} : ip_WP 23 0 [some (.ref x0), some (.int x1), some (.int x2), some (.int x3), some (.int x4), x5, x6] [] (G, F, I, J) b post px ↔ ip_WP 23 1 [some (.ref x0), some (.int x1), some (.int x2), some (.int x3), some (.int x4), x5, x6] [.ref x0] (G, F, I, J) b post px := ip_nx_iff ((ip_st_of f23_0).trans rfl)
theorem f23_1 : ip_fetch 23 1 = some (.iconst 0, 1) := by decide +kernel
theorem s23_1 {x0 : Nat} {x1 : Int32} {x2 : Int32} {x3 : Int32} {x4 : Int32} {x5 : Option Value} {x6 : Option Value} {s0 : Nat} : ip_WP 23 1 [some (.ref x0), some (.int x1), some (.int x2), some (.int x3), some (.int x4), x5, x6] [.ref s0] (G, F, I, J) b post px ↔ ip_WP 23 2 [some (.ref x0), some (.int x1), some (.int x2), some (.int x3), some (.int x4), x5, x6] [.int 0, .ref s0] (G, F, I, J) b post px := ip_s_iconst f23_1 (by decide)
theorem f23_2 : ip_fetch 23 2 = some (.putfield 86, 3) := by decide +kernel
set_option maxRecDepth 100000 in
theorem s23_2 {x0 : Nat} {x1 : Int32} {x2 : Int32} {x3 : Int32} {x4 : Int32} {x5 : Option Value} {x6 : Option Value} {s0 : Nat} {s1 : Int32} : ip_WP 23 2 [some (.ref x0), some (.int x1), some (.int x2), some (.int x3), some (.int x4), x5, x6] [.int s1, .ref s0] (G, F, I, J) b post px ↔ (ip_isO G s0 1 = true ∧ ip_WP 23 5 [some (.ref x0), some (.int x1), some (.int x2), some (.int x3), some (.int x4), x5, x6] [] (G, ip_up F s0 1 (.int s1), I, J) b post px) := ip_s_put f23_2 (by decide +kernel) rfl
theorem f23_5 : ip_fetch 23 5 = some (.aload_n 0, 1) := by decide +kernel
theorem s23_5 {x0 : Nat} {x1 : Int32} {x2 : Int32} {x3 : Int32} {x4 : Int32} {x5 : Option Value} {x6 : Option Value} : ip_WP 23 5 [some (.ref x0), some (.int x1), some (.int x2), some (.int x3), some (.int x4), x5, x6] [] (G, F, I, J) b post px ↔ ip_WP 23 6 [some (.ref x0), some (.int x1), some (.int x2), some (.int x3), some (.int x4), x5, x6] [.ref x0] (G, F, I, J) b post px := ip_nx_iff ((ip_st_of f23_5).trans rfl)
theorem f23_6 : ip_fetch 23 6 = some (.getfield 90, 3) := by decide +kernel
set_option maxRecDepth 100000 in
theorem s23_6 {x0 : Nat} {x1 : Int32} {x2 : Int32} {x3 : Int32} {x4 : Int32} {x5 : Option Value} {x6 : Option Value} {s0 : Nat} : ip_WP 23 6 [some (.ref x0), some (.int x1), some (.int x2), some (.int x3), some (.int x4), x5, x6] [.ref s0] (G, F, I, J) b post px ↔ (ip_isO G s0 1 = true ∧ ip_WP 23 9 [some (.ref x0), some (.int x1), some (.int x2), some (.int x3), some (.int x4), x5, x6] [F s0 2] (G, F, I, J) b post px) := ip_s_getf f23_6 (by decide +kernel)
theorem f23_9 : ip_fetch 23 9 = some (.bipush 16, 2) := by decide +kernel
theorem s23_9 {x0 : Nat} {x1 : Int32} {x2 : Int32} {x3 : Int32} {x4 : Int32} {x5 : Option Value} {x6 : Option Value} {s0 : Int32} : ip_WP 23 9 [some (.ref x0), some (.int x1), some (.int x2), some (.int x3), some (.int x4), x5, x6] [.int s0] (G, F, I, J) b post px ↔ ip_WP 23 11 [some (.ref x0), some (.int x1), some (.int x2), some (.int x3), some (.int x4), x5, x6] [.int 16, .int s0] (G, F, I, J) b post px := ip_s_bipush f23_9 (by decide)
theorem f23_11 : ip_fetch 23 11 = some (.iadd, 1) := by decide +kernel
theorem s23_11 {x0 : Nat} {x1 : Int32} {x2 : Int32} {x3 : Int32} {x4 : Int32} {x5 : Option Value} {x6 : Option Value} {s0 : Int32} {s1 : Int32} : ip_WP 23 11 [some (.ref x0), some (.int x1), some (.int x2), some (.int x3), some (.int x4), x5, x6] [.int s1, .int s0] (G, F, I, J) b post px ↔ ip_WP 23 12 [some (.ref x0), some (.int x1), some (.int x2), some (.int x3), some (.int x4), x5, x6] [.int (s0 + s1)] (G, F, I, J) b post px := ip_nx_iff ((ip_st_of f23_11).trans rfl)
theorem f23_12 : ip_fetch 23 12 = some (.sipush 4096, 3) := by decide +kernel
theorem s23_12 {x0 : Nat} {x1 : Int32} {x2 : Int32} {x3 : Int32} {x4 : Int32} {x5 : Option Value} {x6 : Option Value} {s0 : Int32} : ip_WP 23 12 [some (.ref x0), some (.int x1), some (.int x2), some (.int x3), some (.int x4), x5, x6] [.int s0] (G, F, I, J) b post px ↔ ip_WP 23 15 [some (.ref x0), some (.int x1), some (.int x2), some (.int x3), some (.int x4), x5, x6] [.int 4096, .int s0] (G, F, I, J) b post px := ip_s_sipush f23_12 (by decide)
theorem f23_15 : ip_fetch 23 15 = some (.if_icmp .le 9, 3) := by decide +kernel
theorem s23_15 {x0 : Nat} {x1 : Int32} {x2 : Int32} {x3 : Int32} {x4 : Int32} {x5 : Option Value} {x6 : Option Value} {s0 : Int32} {s1 : Int32} : ip_WP 23 15 [some (.ref x0), some (.int x1), some (.int x2), some (.int x3), some (.int x4), x5, x6] [.int s1, .int s0] (G, F, I, J) b post px ↔ if s0 ≤ s1 then ip_WP 23 24 [some (.ref x0), some (.int x1), some (.int x2), some (.int x3), some (.int x4), x5, x6] [] (G, F, I, J) b post px else ip_WP 23 18 [some (.ref x0), some (.int x1), some (.int x2), some (.int x3), some (.int x4), x5, x6] [] (G, F, I, J) b post px := ip_s_ic_le f23_15 rfl
theorem f23_18 : ip_fetch 23 18 = some (.aload_n 0, 1) := by decide +kernel
theorem s23_18 {x0 : Nat} {x1 : Int32} {x2 : Int32} {x3 : Int32} {x4 : Int32} {x5 : Option Value} {x6 : Option Value} : ip_WP 23 18 [some (.ref x0), some (.int x1), some (.int x2), some (.int x3), some (.int x4), x5, x6] [] (G, F, I, J) b post px ↔ ip_WP 23 19 [some (.ref x0), some (.int x1), some (.int x2), some (.int x3), some (.int x4), x5, x6] [.ref x0] (G, F, I, J) b post px := ip_nx_iff ((ip_st_of f23_18).trans rfl)
theorem f23_19 : ip_fetch 23 19 = some (.iconst 1, 1) := by decide +kernel
theorem s23_19 {x0 : Nat} {x1 : Int32} {x2 : Int32} {x3 : Int32} {x4 : Int32} {x5 : Option Value} {x6 : Option Value} {s0 : Nat} : ip_WP 23 19 [some (.ref x0), some (.int x1), some (.int x2), some (.int x3), some (.int x4), x5, x6] [.ref s0] (G, F, I, J) b post px ↔ ip_WP 23 20 [some (.ref x0), some (.int x1), some (.int x2), some (.int x3), some (.int x4), x5, x6] [.int 1, .ref s0] (G, F, I, J) b post px := ip_s_iconst f23_19 (by decide)
theorem f23_20 : ip_fetch 23 20 = some (.invokevirtual 93, 3) := by decide +kernel
set_option maxRecDepth 100000 in
theorem s23_20 {x0 : Nat} {x1 : Int32} {x2 : Int32} {x3 : Int32} {x4 : Int32} {x5 : Option Value} {x6 : Option Value} {s0 : Nat} {s1 : Int32} : ip_WP 23 20 [some (.ref x0), some (.int x1), some (.int x2), some (.int x3), some (.int x4), x5, x6] [.int s1, .ref s0] (G, F, I, J) b post px ↔ (ip_isO G s0 1 = true ∧ ip_WP 21 0 [some (.ref s0), some (.int s1)] [] (G, F, I, J) (0, 0) (fun r h' => ip_WP 23 23 [some (.ref x0), some (.int x1), some (.int x2), some (.int x3), some (.int x4), x5, x6] (r.toList ++ []) h' b post px) (fun _ _ => False)) := ip_ck_iff (x := ip_cl 21 [some (.ref s0), some (.int s1)] [] (0, 0) b) ((ip_st_of f23_20).trans rfl) (ip_cl_iff)
theorem f23_23 : ip_fetch 23 23 = some (.ireturn, 1) := by decide +kernel
theorem s23_23 {x0 : Nat} {x1 : Int32} {x2 : Int32} {x3 : Int32} {x4 : Int32} {x5 : Option Value} {x6 : Option Value} {s0 : Int32} : ip_WP 23 23 [some (.ref x0), some (.int x1), some (.int x2), some (.int x3), some (.int x4), x5, x6] [.int s0] (G, F, I, J) b post px ↔ post (some (.int s0)) (G, F, I, J) := ip_rt_iff ((ip_st_of f23_23).trans rfl)
theorem f23_24 : ip_fetch 23 24 = some (.iconst 0, 1) := by decide +kernel
theorem s23_24 {x0 : Nat} {x1 : Int32} {x2 : Int32} {x3 : Int32} {x4 : Int32} {x5 : Option Value} {x6 : Option Value} : ip_WP 23 24 [some (.ref x0), some (.int x1), some (.int x2), some (.int x3), some (.int x4), x5, x6] [] (G, F, I, J) b post px ↔ ip_WP 23 25 [some (.ref x0), some (.int x1), some (.int x2), some (.int x3), some (.int x4), x5, x6] [.int 0] (G, F, I, J) b post px := ip_s_iconst f23_24 (by decide)
theorem f23_25 : ip_fetch 23 25 = some (.istore 5, 2) := by decide +kernel
theorem s23_25 {x0 : Nat} {x1 : Int32} {x2 : Int32} {x3 : Int32} {x4 : Int32} {x5 : Option Value} {x6 : Option Value} {s0 : Int32} : ip_WP 23 25 [some (.ref x0), some (.int x1), some (.int x2), some (.int x3), some (.int x4), x5, x6] [.int s0] (G, F, I, J) b post px ↔ ip_WP 23 27 [some (.ref x0), some (.int x1), some (.int x2), some (.int x3), some (.int x4), some (.int s0), x6] [] (G, F, I, J) b post px := ip_nx_iff ((ip_st_of f23_25).trans rfl)
theorem f23_27 : ip_fetch 23 27 = some (.iload 5, 2) := by decide +kernel
theorem s23_27 {x0 : Nat} {x1 : Int32} {x2 : Int32} {x3 : Int32} {x4 : Int32} {x5 : Int32} {x6 : Option Value} : ip_WP 23 27 [some (.ref x0), some (.int x1), some (.int x2), some (.int x3), some (.int x4), some (.int x5), x6] [] (G, F, I, J) b post px ↔ ip_WP 23 29 [some (.ref x0), some (.int x1), some (.int x2), some (.int x3), some (.int x4), some (.int x5), x6] [.int x5] (G, F, I, J) b post px := ip_nx_iff ((ip_st_of f23_27).trans rfl)
theorem f23_29 : ip_fetch 23 29 = some (.bipush 16, 2) := by decide +kernel
theorem s23_29 {x0 : Nat} {x1 : Int32} {x2 : Int32} {x3 : Int32} {x4 : Int32} {x5 : Int32} {x6 : Option Value} {s0 : Int32} : ip_WP 23 29 [some (.ref x0), some (.int x1), some (.int x2), some (.int x3), some (.int x4), some (.int x5), x6] [.int s0] (G, F, I, J) b post px ↔ ip_WP 23 31 [some (.ref x0), some (.int x1), some (.int x2), some (.int x3), some (.int x4), some (.int x5), x6] [.int 16, .int s0] (G, F, I, J) b post px := ip_s_bipush f23_29 (by decide)
theorem f23_31 : ip_fetch 23 31 = some (.if_icmp .ge 74, 3) := by decide +kernel
theorem s23_31 {x0 : Nat} {x1 : Int32} {x2 : Int32} {x3 : Int32} {x4 : Int32} {x5 : Int32} {x6 : Option Value} {s0 : Int32} {s1 : Int32} : ip_WP 23 31 [some (.ref x0), some (.int x1), some (.int x2), some (.int x3), some (.int x4), some (.int x5), x6] [.int s1, .int s0] (G, F, I, J) b post px ↔ if s1 ≤ s0 then ip_WP 23 105 [some (.ref x0), some (.int x1), some (.int x2), some (.int x3), some (.int x4), some (.int x5), x6] [] (G, F, I, J) b post px else ip_WP 23 34 [some (.ref x0), some (.int x1), some (.int x2), some (.int x3), some (.int x4), some (.int x5), x6] [] (G, F, I, J) b post px := ip_s_ic_ge f23_31 rfl
theorem f23_34 : ip_fetch 23 34 = some (.iload 5, 2) := by decide +kernel
theorem s23_34 {x0 : Nat} {x1 : Int32} {x2 : Int32} {x3 : Int32} {x4 : Int32} {x5 : Int32} {x6 : Option Value} : ip_WP 23 34 [some (.ref x0), some (.int x1), some (.int x2), some (.int x3), some (.int x4), some (.int x5), x6] [] (G, F, I, J) b post px ↔ ip_WP 23 36 [some (.ref x0), some (.int x1), some (.int x2), some (.int x3), some (.int x4), some (.int x5), x6] [.int x5] (G, F, I, J) b post px := ip_nx_iff ((ip_st_of f23_34).trans rfl)
theorem f23_36 : ip_fetch 23 36 = some (.iconst 4, 1) := by decide +kernel
theorem s23_36 {x0 : Nat} {x1 : Int32} {x2 : Int32} {x3 : Int32} {x4 : Int32} {x5 : Int32} {x6 : Option Value} {s0 : Int32} : ip_WP 23 36 [some (.ref x0), some (.int x1), some (.int x2), some (.int x3), some (.int x4), some (.int x5), x6] [.int s0] (G, F, I, J) b post px ↔ ip_WP 23 37 [some (.ref x0), some (.int x1), some (.int x2), some (.int x3), some (.int x4), some (.int x5), x6] [.int 4, .int s0] (G, F, I, J) b post px := ip_s_iconst f23_36 (by decide)
theorem f23_37 : ip_fetch 23 37 = some (.if_icmp .ge 7, 3) := by decide +kernel
theorem s23_37 {x0 : Nat} {x1 : Int32} {x2 : Int32} {x3 : Int32} {x4 : Int32} {x5 : Int32} {x6 : Option Value} {s0 : Int32} {s1 : Int32} : ip_WP 23 37 [some (.ref x0), some (.int x1), some (.int x2), some (.int x3), some (.int x4), some (.int x5), x6] [.int s1, .int s0] (G, F, I, J) b post px ↔ if s1 ≤ s0 then ip_WP 23 44 [some (.ref x0), some (.int x1), some (.int x2), some (.int x3), some (.int x4), some (.int x5), x6] [] (G, F, I, J) b post px else ip_WP 23 40 [some (.ref x0), some (.int x1), some (.int x2), some (.int x3), some (.int x4), some (.int x5), x6] [] (G, F, I, J) b post px := ip_s_ic_ge f23_37 rfl
theorem f23_40 : ip_fetch 23 40 = some (.iload_n 1, 1) := by decide +kernel
theorem s23_40 {x0 : Nat} {x1 : Int32} {x2 : Int32} {x3 : Int32} {x4 : Int32} {x5 : Int32} {x6 : Option Value} : ip_WP 23 40 [some (.ref x0), some (.int x1), some (.int x2), some (.int x3), some (.int x4), some (.int x5), x6] [] (G, F, I, J) b post px ↔ ip_WP 23 41 [some (.ref x0), some (.int x1), some (.int x2), some (.int x3), some (.int x4), some (.int x5), x6] [.int x1] (G, F, I, J) b post px := ip_nx_iff ((ip_st_of f23_40).trans rfl)
theorem f23_41 : ip_fetch 23 41 = some (.goto 27, 3) := by decide +kernel
theorem s23_41 {x0 : Nat} {x1 : Int32} {x2 : Int32} {x3 : Int32} {x4 : Int32} {x5 : Int32} {x6 : Option Value} {s0 : Int32} : ip_WP 23 41 [some (.ref x0), some (.int x1), some (.int x2), some (.int x3), some (.int x4), some (.int x5), x6] [.int s0] (G, F, I, J) b post px ↔ ip_WP 23 68 [some (.ref x0), some (.int x1), some (.int x2), some (.int x3), some (.int x4), some (.int x5), x6] [.int s0] (G, F, I, J) b post px := ip_nx_iff ((ip_st_of f23_41).trans rfl)
theorem f23_44 : ip_fetch 23 44 = some (.iload 5, 2) := by decide +kernel
theorem s23_44 {x0 : Nat} {x1 : Int32} {x2 : Int32} {x3 : Int32} {x4 : Int32} {x5 : Int32} {x6 : Option Value} : ip_WP 23 44 [some (.ref x0), some (.int x1), some (.int x2), some (.int x3), some (.int x4), some (.int x5), x6] [] (G, F, I, J) b post px ↔ ip_WP 23 46 [some (.ref x0), some (.int x1), some (.int x2), some (.int x3), some (.int x4), some (.int x5), x6] [.int x5] (G, F, I, J) b post px := ip_nx_iff ((ip_st_of f23_44).trans rfl)
theorem f23_46 : ip_fetch 23 46 = some (.bipush 8, 2) := by decide +kernel
theorem s23_46 {x0 : Nat} {x1 : Int32} {x2 : Int32} {x3 : Int32} {x4 : Int32} {x5 : Int32} {x6 : Option Value} {s0 : Int32} : ip_WP 23 46 [some (.ref x0), some (.int x1), some (.int x2), some (.int x3), some (.int x4), some (.int x5), x6] [.int s0] (G, F, I, J) b post px ↔ ip_WP 23 48 [some (.ref x0), some (.int x1), some (.int x2), some (.int x3), some (.int x4), some (.int x5), x6] [.int 8, .int s0] (G, F, I, J) b post px := ip_s_bipush f23_46 (by decide)
theorem f23_48 : ip_fetch 23 48 = some (.if_icmp .ge 7, 3) := by decide +kernel
theorem s23_48 {x0 : Nat} {x1 : Int32} {x2 : Int32} {x3 : Int32} {x4 : Int32} {x5 : Int32} {x6 : Option Value} {s0 : Int32} {s1 : Int32} : ip_WP 23 48 [some (.ref x0), some (.int x1), some (.int x2), some (.int x3), some (.int x4), some (.int x5), x6] [.int s1, .int s0] (G, F, I, J) b post px ↔ if s1 ≤ s0 then ip_WP 23 55 [some (.ref x0), some (.int x1), some (.int x2), some (.int x3), some (.int x4), some (.int x5), x6] [] (G, F, I, J) b post px else ip_WP 23 51 [some (.ref x0), some (.int x1), some (.int x2), some (.int x3), some (.int x4), some (.int x5), x6] [] (G, F, I, J) b post px := ip_s_ic_ge f23_48 rfl
theorem f23_51 : ip_fetch 23 51 = some (.iload_n 2, 1) := by decide +kernel
theorem s23_51 {x0 : Nat} {x1 : Int32} {x2 : Int32} {x3 : Int32} {x4 : Int32} {x5 : Int32} {x6 : Option Value} : ip_WP 23 51 [some (.ref x0), some (.int x1), some (.int x2), some (.int x3), some (.int x4), some (.int x5), x6] [] (G, F, I, J) b post px ↔ ip_WP 23 52 [some (.ref x0), some (.int x1), some (.int x2), some (.int x3), some (.int x4), some (.int x5), x6] [.int x2] (G, F, I, J) b post px := ip_nx_iff ((ip_st_of f23_51).trans rfl)
theorem f23_52 : ip_fetch 23 52 = some (.goto 16, 3) := by decide +kernel
theorem s23_52 {x0 : Nat} {x1 : Int32} {x2 : Int32} {x3 : Int32} {x4 : Int32} {x5 : Int32} {x6 : Option Value} {s0 : Int32} : ip_WP 23 52 [some (.ref x0), some (.int x1), some (.int x2), some (.int x3), some (.int x4), some (.int x5), x6] [.int s0] (G, F, I, J) b post px ↔ ip_WP 23 68 [some (.ref x0), some (.int x1), some (.int x2), some (.int x3), some (.int x4), some (.int x5), x6] [.int s0] (G, F, I, J) b post px := ip_nx_iff ((ip_st_of f23_52).trans rfl)
theorem f23_55 : ip_fetch 23 55 = some (.iload 5, 2) := by decide +kernel
theorem s23_55 {x0 : Nat} {x1 : Int32} {x2 : Int32} {x3 : Int32} {x4 : Int32} {x5 : Int32} {x6 : Option Value} : ip_WP 23 55 [some (.ref x0), some (.int x1), some (.int x2), some (.int x3), some (.int x4), some (.int x5), x6] [] (G, F, I, J) b post px ↔ ip_WP 23 57 [some (.ref x0), some (.int x1), some (.int x2), some (.int x3), some (.int x4), some (.int x5), x6] [.int x5] (G, F, I, J) b post px := ip_nx_iff ((ip_st_of f23_55).trans rfl)
theorem f23_57 : ip_fetch 23 57 = some (.bipush 12, 2) := by decide +kernel
theorem s23_57 {x0 : Nat} {x1 : Int32} {x2 : Int32} {x3 : Int32} {x4 : Int32} {x5 : Int32} {x6 : Option Value} {s0 : Int32} : ip_WP 23 57 [some (.ref x0), some (.int x1), some (.int x2), some (.int x3), some (.int x4), some (.int x5), x6] [.int s0] (G, F, I, J) b post px ↔ ip_WP 23 59 [some (.ref x0), some (.int x1), some (.int x2), some (.int x3), some (.int x4), some (.int x5), x6] [.int 12, .int s0] (G, F, I, J) b post px := ip_s_bipush f23_57 (by decide)
theorem f23_59 : ip_fetch 23 59 = some (.if_icmp .ge 7, 3) := by decide +kernel
theorem s23_59 {x0 : Nat} {x1 : Int32} {x2 : Int32} {x3 : Int32} {x4 : Int32} {x5 : Int32} {x6 : Option Value} {s0 : Int32} {s1 : Int32} : ip_WP 23 59 [some (.ref x0), some (.int x1), some (.int x2), some (.int x3), some (.int x4), some (.int x5), x6] [.int s1, .int s0] (G, F, I, J) b post px ↔ if s1 ≤ s0 then ip_WP 23 66 [some (.ref x0), some (.int x1), some (.int x2), some (.int x3), some (.int x4), some (.int x5), x6] [] (G, F, I, J) b post px else ip_WP 23 62 [some (.ref x0), some (.int x1), some (.int x2), some (.int x3), some (.int x4), some (.int x5), x6] [] (G, F, I, J) b post px := ip_s_ic_ge f23_59 rfl
theorem f23_62 : ip_fetch 23 62 = some (.iload_n 3, 1) := by decide +kernel
theorem s23_62 {x0 : Nat} {x1 : Int32} {x2 : Int32} {x3 : Int32} {x4 : Int32} {x5 : Int32} {x6 : Option Value} : ip_WP 23 62 [some (.ref x0), some (.int x1), some (.int x2), some (.int x3), some (.int x4), some (.int x5), x6] [] (G, F, I, J) b post px ↔ ip_WP 23 63 [some (.ref x0), some (.int x1), some (.int x2), some (.int x3), some (.int x4), some (.int x5), x6] [.int x3] (G, F, I, J) b post px := ip_nx_iff ((ip_st_of f23_62).trans rfl)
theorem f23_63 : ip_fetch 23 63 = some (.goto 5, 3) := by decide +kernel
theorem s23_63 {x0 : Nat} {x1 : Int32} {x2 : Int32} {x3 : Int32} {x4 : Int32} {x5 : Int32} {x6 : Option Value} {s0 : Int32} : ip_WP 23 63 [some (.ref x0), some (.int x1), some (.int x2), some (.int x3), some (.int x4), some (.int x5), x6] [.int s0] (G, F, I, J) b post px ↔ ip_WP 23 68 [some (.ref x0), some (.int x1), some (.int x2), some (.int x3), some (.int x4), some (.int x5), x6] [.int s0] (G, F, I, J) b post px := ip_nx_iff ((ip_st_of f23_63).trans rfl)
theorem f23_66 : ip_fetch 23 66 = some (.iload 4, 2) := by decide +kernel
theorem s23_66 {x0 : Nat} {x1 : Int32} {x2 : Int32} {x3 : Int32} {x4 : Int32} {x5 : Int32} {x6 : Option Value} : ip_WP 23 66 [some (.ref x0), some (.int x1), some (.int x2), some (.int x3), some (.int x4), some (.int x5), x6] [] (G, F, I, J) b post px ↔ ip_WP 23 68 [some (.ref x0), some (.int x1), some (.int x2), some (.int x3), some (.int x4), some (.int x5), x6] [.int x4] (G, F, I, J) b post px := ip_nx_iff ((ip_st_of f23_66).trans rfl)
theorem f23_68 : ip_fetch 23 68 = some (.istore 6, 2) := by decide +kernel
theorem s23_68 {x0 : Nat} {x1 : Int32} {x2 : Int32} {x3 : Int32} {x4 : Int32} {x5 : Int32} {x6 : Option Value} {s0 : Int32} : ip_WP 23 68 [some (.ref x0), some (.int x1), some (.int x2), some (.int x3), some (.int x4), some (.int x5), x6] [.int s0] (G, F, I, J) b post px ↔ ip_WP 23 70 [some (.ref x0), some (.int x1), some (.int x2), some (.int x3), some (.int x4), some (.int x5), some (.int s0)] [] (G, F, I, J) b post px := ip_nx_iff ((ip_st_of f23_68).trans rfl)
theorem f23_70 : ip_fetch 23 70 = some (.aload_n 0, 1) := by decide +kernel
theorem s23_70 {x0 : Nat} {x1 : Int32} {x2 : Int32} {x3 : Int32} {x4 : Int32} {x5 : Int32} {x6 : Int32} : ip_WP 23 70 [some (.ref x0), some (.int x1), some (.int x2), some (.int x3), some (.int x4), some (.int x5), some (.int x6)] [] (G, F, I, J) b post px ↔ ip_WP 23 71 [some (.ref x0), some (.int x1), some (.int x2), some (.int x3), some (.int x4), some (.int x5), some (.int x6)] [.ref x0] (G, F, I, J) b post px := ip_nx_iff ((ip_st_of f23_70).trans rfl)
theorem f23_71 : ip_fetch 23 71 = some (.getfield 13, 3) := by decide +kernel
set_option maxRecDepth 100000 in
theorem s23_71 {x0 : Nat} {x1 : Int32} {x2 : Int32} {x3 : Int32} {x4 : Int32} {x5 : Int32} {x6 : Int32} {s0 : Nat} : ip_WP 23 71 [some (.ref x0), some (.int x1), some (.int x2), some (.int x3), some (.int x4), some (.int x5), some (.int x6)] [.ref s0] (G, F, I, J) b post px ↔ (ip_isO G s0 1 = true ∧ ip_WP 23 74 [some (.ref x0), some (.int x1), some (.int x2), some (.int x3), some (.int x4), some (.int x5), some (.int x6)] [F s0 3] (G, F, I, J) b post px) := ip_s_getf f23_71 (by decide +kernel)
theorem f23_74 : ip_fetch 23 74 = some (.aload_n 0, 1) := by decide +kernel
theorem s23_74 {x0 : Nat} {x1 : Int32} {x2 : Int32} {x3 : Int32} {x4 : Int32} {x5 : Int32} {x6 : Int32} {s0 : Nat} : ip_WP 23 74 [some (.ref x0), some (.int x1), some (.int x2), some (.int x3), some (.int x4), some (.int x5), some (.int x6)] [.ref s0] (G, F, I, J) b post px ↔ ip_WP 23 75 [some (.ref x0), some (.int x1), some (.int x2), some (.int x3), some (.int x4), some (.int x5), some (.int x6)] [.ref x0, .ref s0] (G, F, I, J) b post px := ip_nx_iff ((ip_st_of f23_74).trans rfl)
theorem f23_75 : ip_fetch 23 75 = some (.getfield 90, 3) := by decide +kernel
set_option maxRecDepth 100000 in
theorem s23_75 {x0 : Nat} {x1 : Int32} {x2 : Int32} {x3 : Int32} {x4 : Int32} {x5 : Int32} {x6 : Int32} {s0 : Nat} {s1 : Nat} : ip_WP 23 75 [some (.ref x0), some (.int x1), some (.int x2), some (.int x3), some (.int x4), some (.int x5), some (.int x6)] [.ref s1, .ref s0] (G, F, I, J) b post px ↔ (ip_isO G s1 1 = true ∧ ip_WP 23 78 [some (.ref x0), some (.int x1), some (.int x2), some (.int x3), some (.int x4), some (.int x5), some (.int x6)] [F s1 2, .ref s0] (G, F, I, J) b post px) := ip_s_getf f23_75 (by decide +kernel)
theorem f23_78 : ip_fetch 23 78 = some (.iload 5, 2) := by decide +kernel
theorem s23_78 {x0 : Nat} {x1 : Int32} {x2 : Int32} {x3 : Int32} {x4 : Int32} {x5 : Int32} {x6 : Int32} {s0 : Nat} {s1 : Int32} : ip_WP 23 78 [some (.ref x0), some (.int x1), some (.int x2), some (.int x3), some (.int x4), some (.int x5), some (.int x6)] [.int s1, .ref s0] (G, F, I, J) b post px ↔ ip_WP 23 80 [some (.ref x0), some (.int x1), some (.int x2), some (.int x3), some (.int x4), some (.int x5), some (.int x6)] [.int x5, .int s1, .ref s0] (G, F, I, J) b post px := ip_nx_iff ((ip_st_of f23_78).trans rfl)
theorem f23_80 : ip_fetch 23 80 = some (.iadd, 1) := by decide +kernel
theorem s23_80 {x0 : Nat} {x1 : Int32} {x2 : Int32} {x3 : Int32} {x4 : Int32} {x5 : Int32} {x6 : Int32} {s0 : Nat} {s1 : Int32} {s2 : Int32} : ip_WP 23 80 [some (.ref x0), some (.int x1), some (.int x2), some (.int x3), some (.int x4), some (.int x5), some (.int x6)] [.int s2, .int s1, .ref s0] (G, F, I, J) b post px ↔ ip_WP 23 81 [some (.ref x0), some (.int x1), some (.int x2), some (.int x3), some (.int x4), some (.int x5), some (.int x6)] [.int (s1 + s2), .ref s0] (G, F, I, J) b post px := ip_nx_iff ((ip_st_of f23_80).trans rfl)
theorem f23_81 : ip_fetch 23 81 = some (.iload 6, 2) := by decide +kernel
theorem s23_81 {x0 : Nat} {x1 : Int32} {x2 : Int32} {x3 : Int32} {x4 : Int32} {x5 : Int32} {x6 : Int32} {s0 : Nat} {s1 : Int32} : ip_WP 23 81 [some (.ref x0), some (.int x1), some (.int x2), some (.int x3), some (.int x4), some (.int x5), some (.int x6)] [.int s1, .ref s0] (G, F, I, J) b post px ↔ ip_WP 23 83 [some (.ref x0), some (.int x1), some (.int x2), some (.int x3), some (.int x4), some (.int x5), some (.int x6)] [.int x6, .int s1, .ref s0] (G, F, I, J) b post px := ip_nx_iff ((ip_st_of f23_81).trans rfl)
theorem f23_83 : ip_fetch 23 83 = some (.bipush 24, 2) := by decide +kernel
theorem s23_83 {x0 : Nat} {x1 : Int32} {x2 : Int32} {x3 : Int32} {x4 : Int32} {x5 : Int32} {x6 : Int32} {s0 : Nat} {s1 : Int32} {s2 : Int32} : ip_WP 23 83 [some (.ref x0), some (.int x1), some (.int x2), some (.int x3), some (.int x4), some (.int x5), some (.int x6)] [.int s2, .int s1, .ref s0] (G, F, I, J) b post px ↔ ip_WP 23 85 [some (.ref x0), some (.int x1), some (.int x2), some (.int x3), some (.int x4), some (.int x5), some (.int x6)] [.int 24, .int s2, .int s1, .ref s0] (G, F, I, J) b post px := ip_s_bipush f23_83 (by decide)
theorem f23_85 : ip_fetch 23 85 = some (.bipush 8, 2) := by decide +kernel
theorem s23_85 {x0 : Nat} {x1 : Int32} {x2 : Int32} {x3 : Int32} {x4 : Int32} {x5 : Int32} {x6 : Int32} {s0 : Nat} {s1 : Int32} {s2 : Int32} {s3 : Int32} : ip_WP 23 85 [some (.ref x0), some (.int x1), some (.int x2), some (.int x3), some (.int x4), some (.int x5), some (.int x6)] [.int s3, .int s2, .int s1, .ref s0] (G, F, I, J) b post px ↔ ip_WP 23 87 [some (.ref x0), some (.int x1), some (.int x2), some (.int x3), some (.int x4), some (.int x5), some (.int x6)] [.int 8, .int s3, .int s2, .int s1, .ref s0] (G, F, I, J) b post px := ip_s_bipush f23_85 (by decide)
theorem f23_87 : ip_fetch 23 87 = some (.iload 5, 2) := by decide +kernel
theorem s23_87 {x0 : Nat} {x1 : Int32} {x2 : Int32} {x3 : Int32} {x4 : Int32} {x5 : Int32} {x6 : Int32} {s0 : Nat} {s1 : Int32} {s2 : Int32} {s3 : Int32} {s4 : Int32} : ip_WP 23 87 [some (.ref x0), some (.int x1), some (.int x2), some (.int x3), some (.int x4), some (.int x5), some (.int x6)] [.int s4, .int s3, .int s2, .int s1, .ref s0] (G, F, I, J) b post px ↔ ip_WP 23 89 [some (.ref x0), some (.int x1), some (.int x2), some (.int x3), some (.int x4), some (.int x5), some (.int x6)] [.int x5, .int s4, .int s3, .int s2, .int s1, .ref s0] (G, F, I, J) b post px := ip_nx_iff ((ip_st_of f23_87).trans rfl)
theorem f23_89 : ip_fetch 23 89 = some (.iconst 4, 1) := by decide +kernel
theorem s23_89 {x0 : Nat} {x1 : Int32} {x2 : Int32} {x3 : Int32} {x4 : Int32} {x5 : Int32} {x6 : Int32} {s0 : Nat} {s1 : Int32} {s2 : Int32} {s3 : Int32} {s4 : Int32} {s5 : Int32} : ip_WP 23 89 [some (.ref x0), some (.int x1), some (.int x2), some (.int x3), some (.int x4), some (.int x5), some (.int x6)] [.int s5, .int s4, .int s3, .int s2, .int s1, .ref s0] (G, F, I, J) b post px ↔ ip_WP 23 90 [some (.ref x0), some (.int x1), some (.int x2), some (.int x3), some (.int x4), some (.int x5), some (.int x6)] [.int 4, .int s5, .int s4, .int s3, .int s2, .int s1, .ref s0] (G, F, I, J) b post px := ip_s_iconst f23_89 (by decide)
theorem f23_90 : ip_fetch 23 90 = some (.irem, 1) := by decide +kernel
theorem s23_90 {x0 : Nat} {x1 : Int32} {x2 : Int32} {x3 : Int32} {x4 : Int32} {x5 : Int32} {x6 : Int32} {s0 : Nat} {s1 : Int32} {s2 : Int32} {s3 : Int32} {s4 : Int32} {s5 : Int32} {s6 : Int32} : ip_WP 23 90 [some (.ref x0), some (.int x1), some (.int x2), some (.int x3), some (.int x4), some (.int x5), some (.int x6)] [.int s6, .int s5, .int s4, .int s3, .int s2, .int s1, .ref s0] (G, F, I, J) b post px ↔ (¬ s6 = 0 ∧ ip_WP 23 91 [some (.ref x0), some (.int x1), some (.int x2), some (.int x3), some (.int x4), some (.int x5), some (.int x6)] [.int (s5 - s5 / s6 * s6), .int s4, .int s3, .int s2, .int s1, .ref s0] (G, F, I, J) b post px) := ip_s_div ((ip_st_of f23_90).trans rfl)
theorem f23_91 : ip_fetch 23 91 = some (.imul, 1) := by decide +kernel
theorem s23_91 {x0 : Nat} {x1 : Int32} {x2 : Int32} {x3 : Int32} {x4 : Int32} {x5 : Int32} {x6 : Int32} {s0 : Nat} {s1 : Int32} {s2 : Int32} {s3 : Int32} {s4 : Int32} {s5 : Int32} : ip_WP 23 91 [some (.ref x0), some (.int x1), some (.int x2), some (.int x3), some (.int x4), some (.int x5), some (.int x6)] [.int s5, .int s4, .int s3, .int s2, .int s1, .ref s0] (G, F, I, J) b post px ↔ ip_WP 23 92 [some (.ref x0), some (.int x1), some (.int x2), some (.int x3), some (.int x4), some (.int x5), some (.int x6)] [.int (s4 * s5), .int s3, .int s2, .int s1, .ref s0] (G, F, I, J) b post px := ip_nx_iff ((ip_st_of f23_91).trans rfl)
theorem f23_92 : ip_fetch 23 92 = some (.isub, 1) := by decide +kernel
theorem s23_92 {x0 : Nat} {x1 : Int32} {x2 : Int32} {x3 : Int32} {x4 : Int32} {x5 : Int32} {x6 : Int32} {s0 : Nat} {s1 : Int32} {s2 : Int32} {s3 : Int32} {s4 : Int32} : ip_WP 23 92 [some (.ref x0), some (.int x1), some (.int x2), some (.int x3), some (.int x4), some (.int x5), some (.int x6)] [.int s4, .int s3, .int s2, .int s1, .ref s0] (G, F, I, J) b post px ↔ ip_WP 23 93 [some (.ref x0), some (.int x1), some (.int x2), some (.int x3), some (.int x4), some (.int x5), some (.int x6)] [.int (s3 - s4), .int s2, .int s1, .ref s0] (G, F, I, J) b post px := ip_nx_iff ((ip_st_of f23_92).trans rfl)
theorem f23_93 : ip_fetch 23 93 = some (.ishr, 1) := by decide +kernel
theorem s23_93 {x0 : Nat} {x1 : Int32} {x2 : Int32} {x3 : Int32} {x4 : Int32} {x5 : Int32} {x6 : Int32} {s0 : Nat} {s1 : Int32} {s2 : Int32} {s3 : Int32} : ip_WP 23 93 [some (.ref x0), some (.int x1), some (.int x2), some (.int x3), some (.int x4), some (.int x5), some (.int x6)] [.int s3, .int s2, .int s1, .ref s0] (G, F, I, J) b post px ↔ ip_WP 23 94 [some (.ref x0), some (.int x1), some (.int x2), some (.int x3), some (.int x4), some (.int x5), some (.int x6)] [.int (s2 >>> (s3 &&& 31)), .int s1, .ref s0] (G, F, I, J) b post px := ip_nx_iff ((ip_st_of f23_93).trans rfl)
theorem f23_94 : ip_fetch 23 94 = some (.sipush 255, 3) := by decide +kernel
theorem s23_94 {x0 : Nat} {x1 : Int32} {x2 : Int32} {x3 : Int32} {x4 : Int32} {x5 : Int32} {x6 : Int32} {s0 : Nat} {s1 : Int32} {s2 : Int32} : ip_WP 23 94 [some (.ref x0), some (.int x1), some (.int x2), some (.int x3), some (.int x4), some (.int x5), some (.int x6)] [.int s2, .int s1, .ref s0] (G, F, I, J) b post px ↔ ip_WP 23 97 [some (.ref x0), some (.int x1), some (.int x2), some (.int x3), some (.int x4), some (.int x5), some (.int x6)] [.int 255, .int s2, .int s1, .ref s0] (G, F, I, J) b post px := ip_s_sipush f23_94 (by decide)
theorem f23_97 : ip_fetch 23 97 = some (.iand, 1) := by decide +kernel
theorem s23_97 {x0 : Nat} {x1 : Int32} {x2 : Int32} {x3 : Int32} {x4 : Int32} {x5 : Int32} {x6 : Int32} {s0 : Nat} {s1 : Int32} {s2 : Int32} {s3 : Int32} : ip_WP 23 97 [some (.ref x0), some (.int x1), some (.int x2), some (.int x3), some (.int x4), some (.int x5), some (.int x6)] [.int s3, .int s2, .int s1, .ref s0] (G, F, I, J) b post px ↔ ip_WP 23 98 [some (.ref x0), some (.int x1), some (.int x2), some (.int x3), some (.int x4), some (.int x5), some (.int x6)] [.int (s2 &&& s3), .int s1, .ref s0] (G, F, I, J) b post px := ip_nx_iff ((ip_st_of f23_97).trans rfl)
theorem f23_98 : ip_fetch 23 98 = some (.iastore, 1) := by decide +kernel
theorem s23_98 {x0 : Nat} {x1 : Int32} {x2 : Int32} {x3 : Int32} {x4 : Int32} {x5 : Int32} {x6 : Int32} {s0 : Nat} {s1 : Int32} {s2 : Int32} : ip_WP 23 98 [some (.ref x0), some (.int x1), some (.int x2), some (.int x3), some (.int x4), some (.int x5), some (.int x6)] [.int s2, .int s1, .ref s0] (G, F, I, J) b post px ↔ (ip_inA G s0 0 s1 = true ∧ ip_WP 23 99 [some (.ref x0), some (.int x1), some (.int x2), some (.int x3), some (.int x4), some (.int x5), some (.int x6)] [] (G, F, ip_up I s0 s1.toNatClampNeg s2, J) b post px) := ip_ck_iff ((ip_st_of f23_98).trans rfl) ip_nx_iff
theorem f23_99 : ip_fetch 23 99 = some (.iinc 5 1, 3) := by decide +kernel
theorem s23_99 {x0 : Nat} {x1 : Int32} {x2 : Int32} {x3 : Int32} {x4 : Int32} {x5 : Int32} {x6 : Int32} : ip_WP 23 99 [some (.ref x0), some (.int x1), some (.int x2), some (.int x3), some (.int x4), some (.int x5), some (.int x6)] [] (G, F, I, J) b post px ↔ ip_WP 23 102 [some (.ref x0), some (.int x1), some (.int x2), some (.int x3), some (.int x4), some (.int (x5 + 1)), some (.int x6)] [] (G, F, I, J) b post px := ip_s_iinc f23_99 rfl (by decide)
theorem f23_102 : ip_fetch 23 102 = some (.goto (-75), 3) := by decide +kernel
theorem s23_102 {x0 : Nat} {x1 : Int32} {x2 : Int32} {x3 : Int32} {x4 : Int32} {x5 : Int32} {x6 : Int32} : ip_WP 23 102 [some (.ref x0), some (.int x1), some (.int x2), some (.int x3), some (.int x4), some (.int x5), some (.int x6)] [] (G, F, I, J) b post px ↔ ip_WP 23 27 [some (.ref x0), some (.int x1), some (.int x2), some (.int x3), some (.int x4), some (.int x5), some (.int x6)] [] (G, F, I, J) b post px := ip_nx_iff ((ip_st_of f23_102).trans rfl)
theorem f23_105 : ip_fetch 23 105 = some (.aload_n 0, 1) := by decide +kernel
theorem s23_105 {x0 : Nat} {x1 : Int32} {x2 : Int32} {x3 : Int32} {x4 : Int32} {x5 : Int32} {x6 : Option Value} : ip_WP 23 105 [some (.ref x0), some (.int x1), some (.int x2), some (.int x3), some (.int x4), some (.int x5), x6] [] (G, F, I, J) b post px ↔ ip_WP 23 106 [some (.ref x0), some (.int x1), some (.int x2), some (.int x3), some (.int x4), some (.int x5), x6] [.ref x0] (G, F, I, J) b post px := ip_nx_iff ((ip_st_of f23_105).trans rfl)
theorem f23_106 : ip_fetch 23 106 = some (.dup, 1) := by decide +kernel
theorem s23_106 {x0 : Nat} {x1 : Int32} {x2 : Int32} {x3 : Int32} {x4 : Int32} {x5 : Int32} {x6 : Option Value} {s0 : Nat} : ip_WP 23 106 [some (.ref x0), some (.int x1), some (.int x2), some (.int x3), some (.int x4), some (.int x5), x6] [.ref s0] (G, F, I, J) b post px ↔ ip_WP 23 107 [some (.ref x0), some (.int x1), some (.int x2), some (.int x3), some (.int x4), some (.int x5), x6] [.ref s0, .ref s0] (G, F, I, J) b post px := ip_nx_iff ((ip_st_of f23_106).trans rfl)
theorem f23_107 : ip_fetch 23 107 = some (.getfield 90, 3) := by decide +kernel
set_option maxRecDepth 100000 in
theorem s23_107 {x0 : Nat} {x1 : Int32} {x2 : Int32} {x3 : Int32} {x4 : Int32} {x5 : Int32} {x6 : Option Value} {s0 : Nat} {s1 : Nat} : ip_WP 23 107 [some (.ref x0), some (.int x1), some (.int x2), some (.int x3), some (.int x4), some (.int x5), x6] [.ref s1, .ref s0] (G, F, I, J) b post px ↔ (ip_isO G s1 1 = true ∧ ip_WP 23 110 [some (.ref x0), some (.int x1), some (.int x2), some (.int x3), some (.int x4), some (.int x5), x6] [F s1 2, .ref s0] (G, F, I, J) b post px) := ip_s_getf f23_107 (by decide +kernel)
theorem f23_110 : ip_fetch 23 110 = some (.bipush 16, 2) := by decide +kernel
theorem s23_110 {x0 : Nat} {x1 : Int32} {x2 : Int32} {x3 : Int32} {x4 : Int32} {x5 : Int32} {x6 : Option Value} {s0 : Nat} {s1 : Int32} : ip_WP 23 110 [some (.ref x0), some (.int x1), some (.int x2), some (.int x3), some (.int x4), some (.int x5), x6] [.int s1, .ref s0] (G, F, I, J) b post px ↔ ip_WP 23 112 [some (.ref x0), some (.int x1), some (.int x2), some (.int x3), some (.int x4), some (.int x5), x6] [.int 16, .int s1, .ref s0] (G, F, I, J) b post px := ip_s_bipush f23_110 (by decide)
theorem f23_112 : ip_fetch 23 112 = some (.iadd, 1) := by decide +kernel
theorem s23_112 {x0 : Nat} {x1 : Int32} {x2 : Int32} {x3 : Int32} {x4 : Int32} {x5 : Int32} {x6 : Option Value} {s0 : Nat} {s1 : Int32} {s2 : Int32} : ip_WP 23 112 [some (.ref x0), some (.int x1), some (.int x2), some (.int x3), some (.int x4), some (.int x5), x6] [.int s2, .int s1, .ref s0] (G, F, I, J) b post px ↔ ip_WP 23 113 [some (.ref x0), some (.int x1), some (.int x2), some (.int x3), some (.int x4), some (.int x5), x6] [.int (s1 + s2), .ref s0] (G, F, I, J) b post px := ip_nx_iff ((ip_st_of f23_112).trans rfl)
theorem f23_113 : ip_fetch 23 113 = some (.putfield 90, 3) := by decide +kernel
set_option maxRecDepth 100000 in
theorem s23_113 {x0 : Nat} {x1 : Int32} {x2 : Int32} {x3 : Int32} {x4 : Int32} {x5 : Int32} {x6 : Option Value} {s0 : Nat} {s1 : Int32} : ip_WP 23 113 [some (.ref x0), some (.int x1), some (.int x2), some (.int x3), some (.int x4), some (.int x5), x6] [.int s1, .ref s0] (G, F, I, J) b post px ↔ (ip_isO G s0 1 = true ∧ ip_WP 23 116 [some (.ref x0), some (.int x1), some (.int x2), some (.int x3), some (.int x4), some (.int x5), x6] [] (G, ip_up F s0 2 (.int s1), I, J) b post px) := ip_s_put f23_113 (by decide +kernel) rfl
theorem f23_116 : ip_fetch 23 116 = some (.aload_n 0, 1) := by decide +kernel
theorem s23_116 {x0 : Nat} {x1 : Int32} {x2 : Int32} {x3 : Int32} {x4 : Int32} {x5 : Int32} {x6 : Option Value} : ip_WP 23 116 [some (.ref x0), some (.int x1), some (.int x2), some (.int x3), some (.int x4), some (.int x5), x6] [] (G, F, I, J) b post px ↔ ip_WP 23 117 [some (.ref x0), some (.int x1), some (.int x2), some (.int x3), some (.int x4), some (.int x5), x6] [.ref x0] (G, F, I, J) b post px := ip_nx_iff ((ip_st_of f23_116).trans rfl)
theorem f23_117 : ip_fetch 23 117 = some (.getfield 90, 3) := by decide +kernel
set_option maxRecDepth 100000 in
theorem s23_117 {x0 : Nat} {x1 : Int32} {x2 : Int32} {x3 : Int32} {x4 : Int32} {x5 : Int32} {x6 : Option Value} {s0 : Nat} : ip_WP 23 117 [some (.ref x0), some (.int x1), some (.int x2), some (.int x3), some (.int x4), some (.int x5), x6] [.ref s0] (G, F, I, J) b post px ↔ (ip_isO G s0 1 = true ∧ ip_WP 23 120 [some (.ref x0), some (.int x1), some (.int x2), some (.int x3), some (.int x4), some (.int x5), x6] [F s0 2] (G, F, I, J) b post px) := ip_s_getf f23_117 (by decide +kernel)
theorem f23_120 : ip_fetch 23 120 = some (.ireturn, 1) := by decide +kernel
theorem s23_120 {x0 : Nat} {x1 : Int32} {x2 : Int32} {x3 : Int32} {x4 : Int32} {x5 : Int32} {x6 : Option Value} {s0 : Int32} : ip_WP 23 120 [some (.ref x0), some (.int x1), some (.int x2), some (.int x3), some (.int x4), some (.int x5), x6] [.int s0] (G, F, I, J) b post px ↔ post (some (.int s0)) (G, F, I, J) := ip_rt_iff ((ip_st_of f23_120).trans rfl)
theorem f24_0 : ip_fetch 24 0 = some (.aload_n 0, 1) := by decide +kernel
theorem s24_0 {x0 : Nat} {x1 : Int32} : ip_WP 24 0 [some (.ref x0), some (.int x1)] [] (G, F, I, J) b post px ↔ ip_WP 24 1 [some (.ref x0), some (.int x1)] [.ref x0] (G, F, I, J) b post px := ip_nx_iff ((ip_st_of f24_0).trans rfl)
theorem f24_1 : ip_fetch 24 1 = some (.iconst 0, 1) := by decide +kernel
theorem s24_1 {x0 : Nat} {x1 : Int32} {s0 : Nat} : ip_WP 24 1 [some (.ref x0), some (.int x1)] [.ref s0] (G, F, I, J) b post px ↔ ip_WP 24 2 [some (.ref x0), some (.int x1)] [.int 0, .ref s0] (G, F, I, J) b post px := ip_s_iconst f24_1 (by decide)
theorem f24_2 : ip_fetch 24 2 = some (.putfield 86, 3) := by decide +kernel
set_option maxRecDepth 100000 in
theorem s24_2 {x0 : Nat} {x1 : Int32} {s0 : Nat} {s1 : Int32} : ip_WP 24 2 [some (.ref x0), some (.int x1)] [.int s1, .ref s0] (G, F, I, J) b post px ↔ (ip_isO G s0 1 = true ∧ ip_WP 24 5 [some (.ref x0), some (.int x1)] [] (G, ip_up F s0 1 (.int s1), I, J) b post px) := ip_s_put f24_2 (by decide +kernel) rfl
theorem f24_5 : ip_fetch 24 5 = some (.iload_n 1, 1) := by decide +kernel
theorem s24_5 {x0 : Nat} {x1 : Int32} : ip_WP 24 5 [some (.ref x0), some (.int x1)] [] (G, F, I, J) b post px ↔ ip_WP 24 6 [some (.ref x0), some (.int x1)] [.int x1] (G, F, I, J) b post px := ip_nx_iff ((ip_st_of f24_5).trans rfl)
theorem f24_6 : ip_fetch 24 6 = some (.iconst 0, 1) := by decide +kernel
theorem s24_6 {x0 : Nat} {x1 : Int32} {s0 : Int32} : ip_WP 24 6 [some (.ref x0), some (.int x1)] [.int s0] (G, F, I, J) b post px ↔ ip_WP 24 7 [some (.ref x0), some (.int x1)] [.int 0, .int s0] (G, F, I, J) b post px := ip_s_iconst f24_6 (by decide)
theorem f24_7 : ip_fetch 24 7 = some (.bipush 16, 2) := by decide +kernel
theorem s24_7 {x0 : Nat} {x1 : Int32} {s0 : Int32} {s1 : Int32} : ip_WP 24 7 [some (.ref x0), some (.int x1)] [.int s1, .int s0] (G, F, I, J) b post px ↔ ip_WP 24 9 [some (.ref x0), some (.int x1)] [.int 16, .int s1, .int s0] (G, F, I, J) b post px := ip_s_bipush f24_7 (by decide)
theorem f24_9 : ip_fetch 24 9 = some (.invokestatic 97, 3) := by decide +kernel
set_option maxRecDepth 100000 in
theorem s24_9 {x0 : Nat} {x1 : Int32} {s0 : Int32} {s1 : Int32} {s2 : Int32} : ip_WP 24 9 [some (.ref x0), some (.int x1)] [.int s2, .int s1, .int s0] (G, F, I, J) b post px ↔ ip_WP 22 0 [some (.int s0), some (.int s1), some (.int s2)] [] (G, F, I, J) (0, 0) (fun r h' => ip_WP 24 12 [some (.ref x0), some (.int x1)] (r.toList ++ []) h' b post px) (fun _ _ => False) := ip_cl_iff ((ip_st_of f24_9).trans (rfl : _ = ip_cl 22 [some (.int s0), some (.int s1), some (.int s2)] [] (0, 0) b))
theorem f24_12 : ip_fetch 24 12 = some (.ifCond .ne 9, 3) := by decide +kernel
theorem s24_12 {x0 : Nat} {x1 : Int32} {s0 : Int32} : ip_WP 24 12 [some (.ref x0), some (.int x1)] [.int s0] (G, F, I, J) b post px ↔ if ¬ s0 = 0 then ip_WP 24 21 [some (.ref x0), some (.int x1)] [] (G, F, I, J) b post px else ip_WP 24 15 [some (.ref x0), some (.int x1)] [] (G, F, I, J) b post px := ip_s_if_ne f24_12 rfl
theorem f24_15 : ip_fetch 24 15 = some (.aload_n 0, 1) := by decide +kernel
theorem s24_15 {x0 : Nat} {x1 : Int32} : ip_WP 24 15 [some (.ref x0), some (.int x1)] [] (G, F, I, J) b post px ↔ ip_WP 24 16 [some (.ref x0), some (.int x1)] [.ref x0] (G, F, I, J) b post px := ip_nx_iff ((ip_st_of f24_15).trans rfl)
theorem f24_16 : ip_fetch 24 16 = some (.iconst 1, 1) := by decide +kernel
theorem s24_16 {x0 : Nat} {x1 : Int32} {s0 : Nat} : ip_WP 24 16 [some (.ref x0), some (.int x1)] [.ref s0] (G, F, I, J) b post px ↔ ip_WP 24 17 [some (.ref x0), some (.int x1)] [.int 1, .ref s0] (G, F, I, J) b post px := ip_s_iconst f24_16 (by decide)
theorem f24_17 : ip_fetch 24 17 = some (.invokevirtual 93, 3) := by decide +kernel
set_option maxRecDepth 100000 in
theorem s24_17 {x0 : Nat} {x1 : Int32} {s0 : Nat} {s1 : Int32} : ip_WP 24 17 [some (.ref x0), some (.int x1)] [.int s1, .ref s0] (G, F, I, J) b post px ↔ (ip_isO G s0 1 = true ∧ ip_WP 21 0 [some (.ref s0), some (.int s1)] [] (G, F, I, J) (0, 0) (fun r h' => ip_WP 24 20 [some (.ref x0), some (.int x1)] (r.toList ++ []) h' b post px) (fun _ _ => False)) := ip_ck_iff (x := ip_cl 21 [some (.ref s0), some (.int s1)] [] (0, 0) b) ((ip_st_of f24_17).trans rfl) (ip_cl_iff)
theorem f24_20 : ip_fetch 24 20 = some (.ireturn, 1) := by decide +kernel
theorem s24_20 {x0 : Nat} {x1 : Int32} {s0 : Int32} : ip_WP 24 20 [some (.ref x0), some (.int x1)] [.int s0] (G, F, I, J) b post px ↔ post (some (.int s0)) (G, F, I, J) := ip_rt_iff ((ip_st_of f24_20).trans rfl)
theorem f24_21 : ip_fetch 24 21 = some (.aload_n 0, 1) := by decide +kernel
theorem s24_21 {x0 : Nat} {x1 : Int32} : ip_WP 24 21 [some (.ref x0), some (.int x1)] [] (G, F, I, J) b post px ↔ ip_WP 24 22 [some (.ref x0), some (.int x1)] [.ref x0] (G, F, I, J) b post px := ip_nx_iff ((ip_st_of f24_21).trans rfl)
theorem f24_22 : ip_fetch 24 22 = some (.getfield 90, 3) := by decide +kernel
set_option maxRecDepth 100000 in
theorem s24_22 {x0 : Nat} {x1 : Int32} {s0 : Nat} : ip_WP 24 22 [some (.ref x0), some (.int x1)] [.ref s0] (G, F, I, J) b post px ↔ (ip_isO G s0 1 = true ∧ ip_WP 24 25 [some (.ref x0), some (.int x1)] [F s0 2] (G, F, I, J) b post px) := ip_s_getf f24_22 (by decide +kernel)
theorem f24_25 : ip_fetch 24 25 = some (.bipush 16, 2) := by decide +kernel
theorem s24_25 {x0 : Nat} {x1 : Int32} {s0 : Int32} : ip_WP 24 25 [some (.ref x0), some (.int x1)] [.int s0] (G, F, I, J) b post px ↔ ip_WP 24 27 [some (.ref x0), some (.int x1)] [.int 16, .int s0] (G, F, I, J) b post px := ip_s_bipush f24_25 (by decide)
theorem f24_27 : ip_fetch 24 27 = some (.if_icmp .ge 9, 3) := by decide +kernel
theorem s24_27 {x0 : Nat} {x1 : Int32} {s0 : Int32} {s1 : Int32} : ip_WP 24 27 [some (.ref x0), some (.int x1)] [.int s1, .int s0] (G, F, I, J) b post px ↔ if s1 ≤ s0 then ip_WP 24 36 [some (.ref x0), some (.int x1)] [] (G, F, I, J) b post px else ip_WP 24 30 [some (.ref x0), some (.int x1)] [] (G, F, I, J) b post px := ip_s_ic_ge f24_27 rfl
theorem f24_30 : ip_fetch 24 30 = some (.aload_n 0, 1) := by decide +kernel
theorem s24_30 {x0 : Nat} {x1 : Int32} : ip_WP 24 30 [some (.ref x0), some (.int x1)] [] (G, F, I, J) b post px ↔ ip_WP 24 31 [some (.ref x0), some (.int x1)] [.ref x0] (G, F, I, J) b post px := ip_nx_iff ((ip_st_of f24_30).trans rfl)
theorem f24_31 : ip_fetch 24 31 = some (.iconst 2, 1) := by decide +kernel
theorem s24_31 {x0 : Nat} {x1 : Int32} {s0 : Nat} : ip_WP 24 31 [some (.ref x0), some (.int x1)] [.ref s0] (G, F, I, J) b post px ↔ ip_WP 24 32 [some (.ref x0), some (.int x1)] [.int 2, .ref s0] (G, F, I, J) b post px := ip_s_iconst f24_31 (by decide)
theorem f24_32 : ip_fetch 24 32 = some (.invokevirtual 93, 3) := by decide +kernel
set_option maxRecDepth 100000 in
theorem s24_32 {x0 : Nat} {x1 : Int32} {s0 : Nat} {s1 : Int32} : ip_WP 24 32 [some (.ref x0), some (.int x1)] [.int s1, .ref s0] (G, F, I, J) b post px ↔ (ip_isO G s0 1 = true ∧ ip_WP 21 0 [some (.ref s0), some (.int s1)] [] (G, F, I, J) (0, 0) (fun r h' => ip_WP 24 35 [some (.ref x0), some (.int x1)] (r.toList ++ []) h' b post px) (fun _ _ => False)) := ip_ck_iff (x := ip_cl 21 [some (.ref s0), some (.int s1)] [] (0, 0) b) ((ip_st_of f24_32).trans rfl) (ip_cl_iff)
theorem f24_35 : ip_fetch 24 35 = some (.ireturn, 1) := by decide +kernel
theorem s24_35 {x0 : Nat} {x1 : Int32} {s0 : Int32} : ip_WP 24 35 [some (.ref x0), some (.int x1)] [.int s0] (G, F, I, J) b post px ↔ post (some (.int s0)) (G, F, I, J) := ip_rt_iff ((ip_st_of f24_35).trans rfl)
theorem f24_36 : ip_fetch 24 36 = some (.aload_n 0, 1) := by decide +kernel
theorem s24_36 {x0 : Nat} {x1 : Int32} : ip_WP 24 36 [some (.ref x0), some (.int x1)] [] (G, F, I, J) b post px ↔ ip_WP 24 37 [some (.ref x0), some (.int x1)] [.ref x0] (G, F, I, J) b post px := ip_nx_iff ((ip_st_of f24_36).trans rfl)
theorem f24_37 : ip_fetch 24 37 = some (.dup, 1) := by decide +kernel
theorem s24_37 {x0 : Nat} {x1 : Int32} {s0 : Nat} : ip_WP 24 37 [some (.ref x0), some (.int x1)] [.ref s0] (G, F, I, J) b post px ↔ ip_WP 24 38 [some (.ref x0), some (.int x1)] [.ref s0, .ref s0] (G, F, I, J) b post px := ip_nx_iff ((ip_st_of f24_37).trans rfl)
theorem f24_38 : ip_fetch 24 38 = some (.getfield 90, 3) := by decide +kernel
set_option maxRecDepth 100000 in
theorem s24_38 {x0 : Nat} {x1 : Int32} {s0 : Nat} {s1 : Nat} : ip_WP 24 38 [some (.ref x0), some (.int x1)] [.ref s1, .ref s0] (G, F, I, J) b post px ↔ (ip_isO G s1 1 = true ∧ ip_WP 24 41 [some (.ref x0), some (.int x1)] [F s1 2, .ref s0] (G, F, I, J) b post px) := ip_s_getf f24_38 (by decide +kernel)
theorem f24_41 : ip_fetch 24 41 = some (.bipush 16, 2) := by decide +kernel
theorem s24_41 {x0 : Nat} {x1 : Int32} {s0 : Nat} {s1 : Int32} : ip_WP 24 41 [some (.ref x0), some (.int x1)] [.int s1, .ref s0] (G, F, I, J) b post px ↔ ip_WP 24 43 [some (.ref x0), some (.int x1)] [.int 16, .int s1, .ref s0] (G, F, I, J) b post px := ip_s_bipush f24_41 (by decide)
theorem f24_43 : ip_fetch 24 43 = some (.iload_n 1, 1) := by decide +kernel
theorem s24_43 {x0 : Nat} {x1 : Int32} {s0 : Nat} {s1 : Int32} {s2 : Int32} : ip_WP 24 43 [some (.ref x0), some (.int x1)] [.int s2, .int s1, .ref s0] (G, F, I, J) b post px ↔ ip_WP 24 44 [some (.ref x0), some (.int x1)] [.int x1, .int s2, .int s1, .ref s0] (G, F, I, J) b post px := ip_nx_iff ((ip_st_of f24_43).trans rfl)
theorem f24_44 : ip_fetch 24 44 = some (.isub, 1) := by decide +kernel
theorem s24_44 {x0 : Nat} {x1 : Int32} {s0 : Nat} {s1 : Int32} {s2 : Int32} {s3 : Int32} : ip_WP 24 44 [some (.ref x0), some (.int x1)] [.int s3, .int s2, .int s1, .ref s0] (G, F, I, J) b post px ↔ ip_WP 24 45 [some (.ref x0), some (.int x1)] [.int (s2 - s3), .int s1, .ref s0] (G, F, I, J) b post px := ip_nx_iff ((ip_st_of f24_44).trans rfl)
theorem f24_45 : ip_fetch 24 45 = some (.isub, 1) := by decide +kernel
theorem s24_45 {x0 : Nat} {x1 : Int32} {s0 : Nat} {s1 : Int32} {s2 : Int32} : ip_WP 24 45 [some (.ref x0), some (.int x1)] [.int s2, .int s1, .ref s0] (G, F, I, J) b post px ↔ ip_WP 24 46 [some (.ref x0), some (.int x1)] [.int (s1 - s2), .ref s0] (G, F, I, J) b post px := ip_nx_iff ((ip_st_of f24_45).trans rfl)
theorem f24_46 : ip_fetch 24 46 = some (.putfield 90, 3) := by decide +kernel
set_option maxRecDepth 100000 in
theorem s24_46 {x0 : Nat} {x1 : Int32} {s0 : Nat} {s1 : Int32} : ip_WP 24 46 [some (.ref x0), some (.int x1)] [.int s1, .ref s0] (G, F, I, J) b post px ↔ (ip_isO G s0 1 = true ∧ ip_WP 24 49 [some (.ref x0), some (.int x1)] [] (G, ip_up F s0 2 (.int s1), I, J) b post px) := ip_s_put f24_46 (by decide +kernel) rfl
theorem f24_49 : ip_fetch 24 49 = some (.aload_n 0, 1) := by decide +kernel
theorem s24_49 {x0 : Nat} {x1 : Int32} : ip_WP 24 49 [some (.ref x0), some (.int x1)] [] (G, F, I, J) b post px ↔ ip_WP 24 50 [some (.ref x0), some (.int x1)] [.ref x0] (G, F, I, J) b post px := ip_nx_iff ((ip_st_of f24_49).trans rfl)
theorem f24_50 : ip_fetch 24 50 = some (.getfield 90, 3) := by decide +kernel
set_option maxRecDepth 100000 in
theorem s24_50 {x0 : Nat} {x1 : Int32} {s0 : Nat} : ip_WP 24 50 [some (.ref x0), some (.int x1)] [.ref s0] (G, F, I, J) b post px ↔ (ip_isO G s0 1 = true ∧ ip_WP 24 53 [some (.ref x0), some (.int x1)] [F s0 2] (G, F, I, J) b post px) := ip_s_getf f24_50 (by decide +kernel)
theorem f24_53 : ip_fetch 24 53 = some (.ireturn, 1) := by decide +kernel
theorem s24_53 {x0 : Nat} {x1 : Int32} {s0 : Int32} : ip_WP 24 53 [some (.ref x0), some (.int x1)] [.int s0] (G, F, I, J) b post px ↔ post (some (.int s0)) (G, F, I, J) := ip_rt_iff ((ip_st_of f24_53).trans rfl)
theorem f25_0 : ip_fetch 25 0 = some (.aload_n 0, 1) := by decide +kernel
theorem s25_0 {x0 : Nat} {x1 : Int32} {x2 : Int32} : ip_WP 25 0 [some (.ref x0), some (.int x1), some (.int x2)] [] (G, F, I, J) b post px ↔ ip_WP 25 1 [some (.ref x0), some (.int x1), some (.int x2)] [.ref x0] (G, F, I, J) b post px := ip_nx_iff ((ip_st_of f25_0).trans rfl)
theorem f25_1 : ip_fetch 25 1 = some (.getfield 101, 3) := by decide +kernel
set_option maxRecDepth 100000 in
theorem s25_1 {x0 : Nat} {x1 : Int32} {x2 : Int32} {s0 : Nat} : ip_WP 25 1 [some (.ref x0), some (.int x1), some (.int x2)] [.ref s0] (G, F, I, J) b post px ↔ (ip_isO G s0 1 = true ∧ ip_WP 25 4 [some (.ref x0), some (.int x1), some (.int x2)] [F s0 6] (G, F, I, J) b post px) := ip_s_getf f25_1 (by decide +kernel)
theorem f25_4 : ip_fetch 25 4 = some (.ifCond .le 4, 3) := by decide +kernel
theorem s25_4 {x0 : Nat} {x1 : Int32} {x2 : Int32} {s0 : Int32} : ip_WP 25 4 [some (.ref x0), some (.int x1), some (.int x2)] [.int s0] (G, F, I, J) b post px ↔ if s0 ≤ 0 then ip_WP 25 8 [some (.ref x0), some (.int x1), some (.int x2)] [] (G, F, I, J) b post px else ip_WP 25 7 [some (.ref x0), some (.int x1), some (.int x2)] [] (G, F, I, J) b post px := ip_s_if_le f25_4 rfl
theorem f25_7 : ip_fetch 25 7 = some (.return_, 1) := by decide +kernel
theorem s25_7 {x0 : Nat} {x1 : Int32} {x2 : Int32} : ip_WP 25 7 [some (.ref x0), some (.int x1), some (.int x2)] [] (G, F, I, J) b post px ↔ post none (G, F, I, J) := ip_rt_iff ((ip_st_of f25_7).trans rfl)
theorem f25_8 : ip_fetch 25 8 = some (.aload_n 0, 1) := by decide +kernel
theorem s25_8 {x0 : Nat} {x1 : Int32} {x2 : Int32} : ip_WP 25 8 [some (.ref x0), some (.int x1), some (.int x2)] [] (G, F, I, J) b post px ↔ ip_WP 25 9 [some (.ref x0), some (.int x1), some (.int x2)] [.ref x0] (G, F, I, J) b post px := ip_nx_iff ((ip_st_of f25_8).trans rfl)
theorem f25_9 : ip_fetch 25 9 = some (.iload_n 1, 1) := by decide +kernel
theorem s25_9 {x0 : Nat} {x1 : Int32} {x2 : Int32} {s0 : Nat} : ip_WP 25 9 [some (.ref x0), some (.int x1), some (.int x2)] [.ref s0] (G, F, I, J) b post px ↔ ip_WP 25 10 [some (.ref x0), some (.int x1), some (.int x2)] [.int x1, .ref s0] (G, F, I, J) b post px := ip_nx_iff ((ip_st_of f25_9).trans rfl)
theorem f25_10 : ip_fetch 25 10 = some (.putfield 101, 3) := by decide +kernel
set_option maxRecDepth 100000 in
theorem s25_10 {x0 : Nat} {x1 : Int32} {x2 : Int32} {s0 : Nat} {s1 : Int32} : ip_WP 25 10 [some (.ref x0), some (.int x1), some (.int x2)] [.int s1, .ref s0] (G, F, I, J) b post px ↔ (ip_isO G s0 1 = true ∧ ip_WP 25 13 [some (.ref x0), some (.int x1), some (.int x2)] [] (G, ip_up F s0 6 (.int s1), I, J) b post px) := ip_s_put f25_10 (by decide +kernel) rfl
theorem f25_13 : ip_fetch 25 13 = some (.aload_n 0, 1) := by decide +kernel
theorem s25_13 {x0 : Nat} {x1 : Int32} {x2 : Int32} : ip_WP 25 13 [some (.ref x0), some (.int x1), some (.int x2)] [] (G, F, I, J) b post px ↔ ip_WP 25 14 [some (.ref x0), some (.int x1), some (.int x2)] [.ref x0] (G, F, I, J) b post px := ip_nx_iff ((ip_st_of f25_13).trans rfl)
theorem f25_14 : ip_fetch 25 14 = some (.iload_n 2, 1) := by decide +kernel
theorem s25_14 {x0 : Nat} {x1 : Int32} {x2 : Int32} {s0 : Nat} : ip_WP 25 14 [some (.ref x0), some (.int x1), some (.int x2)] [.ref s0] (G, F, I, J) b post px ↔ ip_WP 25 15 [some (.ref x0), some (.int x1), some (.int x2)] [.int x2, .ref s0] (G, F, I, J) b post px := ip_nx_iff ((ip_st_of f25_14).trans rfl)
theorem f25_15 : ip_fetch 25 15 = some (.putfield 104, 3) := by decide +kernel
set_option maxRecDepth 100000 in
theorem s25_15 {x0 : Nat} {x1 : Int32} {x2 : Int32} {s0 : Nat} {s1 : Int32} : ip_WP 25 15 [some (.ref x0), some (.int x1), some (.int x2)] [.int s1, .ref s0] (G, F, I, J) b post px ↔ (ip_isO G s0 1 = true ∧ ip_WP 25 18 [some (.ref x0), some (.int x1), some (.int x2)] [] (G, ip_up F s0 7 (.int s1), I, J) b post px) := ip_s_put f25_15 (by decide +kernel) rfl
theorem f25_18 : ip_fetch 25 18 = some (.return_, 1) := by decide +kernel
theorem s25_18 {x0 : Nat} {x1 : Int32} {x2 : Int32} : ip_WP 25 18 [some (.ref x0), some (.int x1), some (.int x2)] [] (G, F, I, J) b post px ↔ post none (G, F, I, J) := ip_rt_iff ((ip_st_of f25_18).trans rfl)
theorem f26_0 : ip_fetch 26 0 = some (.iload_n 0, 1) := by decide +kernel
theorem s26_0 {x0 : Int32} : ip_WP 26 0 [some (.int x0)] [] (G, F, I, J) b post px ↔ ip_WP 26 1 [some (.int x0)] [.int x0] (G, F, I, J) b post px := ip_nx_iff ((ip_st_of f26_0).trans rfl)
theorem f26_1 : ip_fetch 26 1 = some (.bipush 97, 2) := by decide +kernel
theorem s26_1 {x0 : Int32} {s0 : Int32} : ip_WP 26 1 [some (.int x0)] [.int s0] (G, F, I, J) b post px ↔ ip_WP 26 3 [some (.int x0)] [.int 97, .int s0] (G, F, I, J) b post px := ip_s_bipush f26_1 (by decide)
theorem f26_3 : ip_fetch 26 3 = some (.bipush 122, 2) := by decide +kernel
theorem s26_3 {x0 : Int32} {s0 : Int32} {s1 : Int32} : ip_WP 26 3 [some (.int x0)] [.int s1, .int s0] (G, F, I, J) b post px ↔ ip_WP 26 5 [some (.int x0)] [.int 122, .int s1, .int s0] (G, F, I, J) b post px := ip_s_bipush f26_3 (by decide)
theorem f26_5 : ip_fetch 26 5 = some (.invokestatic 97, 3) := by decide +kernel
set_option maxRecDepth 100000 in
theorem s26_5 {x0 : Int32} {s0 : Int32} {s1 : Int32} {s2 : Int32} : ip_WP 26 5 [some (.int x0)] [.int s2, .int s1, .int s0] (G, F, I, J) b post px ↔ ip_WP 22 0 [some (.int s0), some (.int s1), some (.int s2)] [] (G, F, I, J) (0, 0) (fun r h' => ip_WP 26 8 [some (.int x0)] (r.toList ++ []) h' b post px) (fun _ _ => False) := ip_cl_iff ((ip_st_of f26_5).trans (rfl : _ = ip_cl 22 [some (.int s0), some (.int s1), some (.int s2)] [] (0, 0) b))
theorem f26_8 : ip_fetch 26 8 = some (.ireturn, 1) := by decide +kernel
theorem s26_8 {x0 : Int32} {s0 : Int32} : ip_WP 26 8 [some (.int x0)] [.int s0] (G, F, I, J) b post px ↔ ((s0 = 0 ∨ s0 = 1) ∧ post (some (.int s0)) (G, F, I, J)) := ip_s_zret ((ip_st_of f26_8).trans rfl)
theorem f27_0 : ip_fetch 27 0 = some (.iload_n 0, 1) := by decide +kernel
theorem s27_0 {x0 : Int32} : ip_WP 27 0 [some (.int x0)] [] (G, F, I, J) b post px ↔ ip_WP 27 1 [some (.int x0)] [.int x0] (G, F, I, J) b post px := ip_nx_iff ((ip_st_of f27_0).trans rfl)
theorem f27_1 : ip_fetch 27 1 = some (.bipush 48, 2) := by decide +kernel
theorem s27_1 {x0 : Int32} {s0 : Int32} : ip_WP 27 1 [some (.int x0)] [.int s0] (G, F, I, J) b post px ↔ ip_WP 27 3 [some (.int x0)] [.int 48, .int s0] (G, F, I, J) b post px := ip_s_bipush f27_1 (by decide)
theorem f27_3 : ip_fetch 27 3 = some (.bipush 57, 2) := by decide +kernel
theorem s27_3 {x0 : Int32} {s0 : Int32} {s1 : Int32} : ip_WP 27 3 [some (.int x0)] [.int s1, .int s0] (G, F, I, J) b post px ↔ ip_WP 27 5 [some (.int x0)] [.int 57, .int s1, .int s0] (G, F, I, J) b post px := ip_s_bipush f27_3 (by decide)
theorem f27_5 : ip_fetch 27 5 = some (.invokestatic 97, 3) := by decide +kernel
set_option maxRecDepth 100000 in
theorem s27_5 {x0 : Int32} {s0 : Int32} {s1 : Int32} {s2 : Int32} : ip_WP 27 5 [some (.int x0)] [.int s2, .int s1, .int s0] (G, F, I, J) b post px ↔ ip_WP 22 0 [some (.int s0), some (.int s1), some (.int s2)] [] (G, F, I, J) (0, 0) (fun r h' => ip_WP 27 8 [some (.int x0)] (r.toList ++ []) h' b post px) (fun _ _ => False) := ip_cl_iff ((ip_st_of f27_5).trans (rfl : _ = ip_cl 22 [some (.int s0), some (.int s1), some (.int s2)] [] (0, 0) b))
theorem f27_8 : ip_fetch 27 8 = some (.ireturn, 1) := by decide +kernel
theorem s27_8 {x0 : Int32} {s0 : Int32} : ip_WP 27 8 [some (.int x0)] [.int s0] (G, F, I, J) b post px ↔ ((s0 = 0 ∨ s0 = 1) ∧ post (some (.int s0)) (G, F, I, J)) := ip_s_zret ((ip_st_of f27_8).trans rfl)
theorem f28_0 : ip_fetch 28 0 = some (.iload_n 0, 1) := by decide +kernel
theorem s28_0 {x0 : Int32} : ip_WP 28 0 [some (.int x0)] [] (G, F, I, J) b post px ↔ ip_WP 28 1 [some (.int x0)] [.int x0] (G, F, I, J) b post px := ip_nx_iff ((ip_st_of f28_0).trans rfl)
theorem f28_1 : ip_fetch 28 1 = some (.bipush 9, 2) := by decide +kernel
theorem s28_1 {x0 : Int32} {s0 : Int32} : ip_WP 28 1 [some (.int x0)] [.int s0] (G, F, I, J) b post px ↔ ip_WP 28 3 [some (.int x0)] [.int 9, .int s0] (G, F, I, J) b post px := ip_s_bipush f28_1 (by decide)
theorem f28_3 : ip_fetch 28 3 = some (.if_icmp .eq 21, 3) := by decide +kernel
theorem s28_3 {x0 : Int32} {s0 : Int32} {s1 : Int32} : ip_WP 28 3 [some (.int x0)] [.int s1, .int s0] (G, F, I, J) b post px ↔ if s0 = s1 then ip_WP 28 24 [some (.int x0)] [] (G, F, I, J) b post px else ip_WP 28 6 [some (.int x0)] [] (G, F, I, J) b post px := ip_s_ic_eq f28_3 rfl
theorem f28_6 : ip_fetch 28 6 = some (.iload_n 0, 1) := by decide +kernel
theorem s28_6 {x0 : Int32} : ip_WP 28 6 [some (.int x0)] [] (G, F, I, J) b post px ↔ ip_WP 28 7 [some (.int x0)] [.int x0] (G, F, I, J) b post px := ip_nx_iff ((ip_st_of f28_6).trans rfl)
theorem f28_7 : ip_fetch 28 7 = some (.bipush 10, 2) := by decide +kernel
theorem s28_7 {x0 : Int32} {s0 : Int32} : ip_WP 28 7 [some (.int x0)] [.int s0] (G, F, I, J) b post px ↔ ip_WP 28 9 [some (.int x0)] [.int 10, .int s0] (G, F, I, J) b post px := ip_s_bipush f28_7 (by decide)
theorem f28_9 : ip_fetch 28 9 = some (.if_icmp .eq 15, 3) := by decide +kernel
theorem s28_9 {x0 : Int32} {s0 : Int32} {s1 : Int32} : ip_WP 28 9 [some (.int x0)] [.int s1, .int s0] (G, F, I, J) b post px ↔ if s0 = s1 then ip_WP 28 24 [some (.int x0)] [] (G, F, I, J) b post px else ip_WP 28 12 [some (.int x0)] [] (G, F, I, J) b post px := ip_s_ic_eq f28_9 rfl
theorem f28_12 : ip_fetch 28 12 = some (.iload_n 0, 1) := by decide +kernel
theorem s28_12 {x0 : Int32} : ip_WP 28 12 [some (.int x0)] [] (G, F, I, J) b post px ↔ ip_WP 28 13 [some (.int x0)] [.int x0] (G, F, I, J) b post px := ip_nx_iff ((ip_st_of f28_12).trans rfl)
theorem f28_13 : ip_fetch 28 13 = some (.bipush 13, 2) := by decide +kernel
theorem s28_13 {x0 : Int32} {s0 : Int32} : ip_WP 28 13 [some (.int x0)] [.int s0] (G, F, I, J) b post px ↔ ip_WP 28 15 [some (.int x0)] [.int 13, .int s0] (G, F, I, J) b post px := ip_s_bipush f28_13 (by decide)
theorem f28_15 : ip_fetch 28 15 = some (.if_icmp .eq 9, 3) := by decide +kernel
theorem s28_15 {x0 : Int32} {s0 : Int32} {s1 : Int32} : ip_WP 28 15 [some (.int x0)] [.int s1, .int s0] (G, F, I, J) b post px ↔ if s0 = s1 then ip_WP 28 24 [some (.int x0)] [] (G, F, I, J) b post px else ip_WP 28 18 [some (.int x0)] [] (G, F, I, J) b post px := ip_s_ic_eq f28_15 rfl
theorem f28_18 : ip_fetch 28 18 = some (.iload_n 0, 1) := by decide +kernel
theorem s28_18 {x0 : Int32} : ip_WP 28 18 [some (.int x0)] [] (G, F, I, J) b post px ↔ ip_WP 28 19 [some (.int x0)] [.int x0] (G, F, I, J) b post px := ip_nx_iff ((ip_st_of f28_18).trans rfl)
theorem f28_19 : ip_fetch 28 19 = some (.bipush 32, 2) := by decide +kernel
theorem s28_19 {x0 : Int32} {s0 : Int32} : ip_WP 28 19 [some (.int x0)] [.int s0] (G, F, I, J) b post px ↔ ip_WP 28 21 [some (.int x0)] [.int 32, .int s0] (G, F, I, J) b post px := ip_s_bipush f28_19 (by decide)
theorem f28_21 : ip_fetch 28 21 = some (.if_icmp .ne 7, 3) := by decide +kernel
theorem s28_21 {x0 : Int32} {s0 : Int32} {s1 : Int32} : ip_WP 28 21 [some (.int x0)] [.int s1, .int s0] (G, F, I, J) b post px ↔ if ¬ s0 = s1 then ip_WP 28 28 [some (.int x0)] [] (G, F, I, J) b post px else ip_WP 28 24 [some (.int x0)] [] (G, F, I, J) b post px := ip_s_ic_ne f28_21 rfl
theorem f28_24 : ip_fetch 28 24 = some (.iconst 1, 1) := by decide +kernel
theorem s28_24 {x0 : Int32} : ip_WP 28 24 [some (.int x0)] [] (G, F, I, J) b post px ↔ ip_WP 28 25 [some (.int x0)] [.int 1] (G, F, I, J) b post px := ip_s_iconst f28_24 (by decide)
theorem f28_25 : ip_fetch 28 25 = some (.goto 4, 3) := by decide +kernel
theorem s28_25 {x0 : Int32} {s0 : Int32} : ip_WP 28 25 [some (.int x0)] [.int s0] (G, F, I, J) b post px ↔ ip_WP 28 29 [some (.int x0)] [.int s0] (G, F, I, J) b post px := ip_nx_iff ((ip_st_of f28_25).trans rfl)
theorem f28_28 : ip_fetch 28 28 = some (.iconst 0, 1) := by decide +kernel
theorem s28_28 {x0 : Int32} : ip_WP 28 28 [some (.int x0)] [] (G, F, I, J) b post px ↔ ip_WP 28 29 [some (.int x0)] [.int 0] (G, F, I, J) b post px := ip_s_iconst f28_28 (by decide)
theorem f28_29 : ip_fetch 28 29 = some (.ireturn, 1) := by decide +kernel
theorem s28_29 {x0 : Int32} {s0 : Int32} : ip_WP 28 29 [some (.int x0)] [.int s0] (G, F, I, J) b post px ↔ ((s0 = 0 ∨ s0 = 1) ∧ post (some (.int s0)) (G, F, I, J)) := ip_s_zret ((ip_st_of f28_29).trans rfl)
theorem f29_0 : ip_fetch 29 0 = some (.iconst 1, 1) := by decide +kernel
theorem s29_0 {x0 : Nat} {x1 : Option Value} : ip_WP 29 0 [some (.ref x0), x1] [] (G, F, I, J) b post px ↔ ip_WP 29 1 [some (.ref x0), x1] [.int 1] (G, F, I, J) b post px := ip_s_iconst f29_0 (by decide)
theorem f29_1 : ip_fetch 29 1 = some (.istore_n 1, 1) := by decide +kernel
theorem s29_1 {x0 : Nat} {x1 : Option Value} {s0 : Int32} : ip_WP 29 1 [some (.ref x0), x1] [.int s0] (G, F, I, J) b post px ↔ ip_WP 29 2 [some (.ref x0), some (.int s0)] [] (G, F, I, J) b post px := ip_nx_iff ((ip_st_of f29_1).trans rfl)
theorem f29_2 : ip_fetch 29 2 = some (.iload_n 1, 1) := by decide +kernel
theorem s29_2 {x0 : Nat} {x1 : Int32} : ip_WP 29 2 [some (.ref x0), some (.int x1)] [] (G, F, I, J) b post px ↔ ip_WP 29 3 [some (.ref x0), some (.int x1)] [.int x1] (G, F, I, J) b post px := ip_nx_iff ((ip_st_of f29_2).trans rfl)
theorem f29_3 : ip_fetch 29 3 = some (.ifCond .eq 115, 3) := by decide +kernel
theorem s29_3 {x0 : Nat} {x1 : Int32} {s0 : Int32} : ip_WP 29 3 [some (.ref x0), some (.int x1)] [.int s0] (G, F, I, J) b post px ↔ if s0 = 0 then ip_WP 29 118 [some (.ref x0), some (.int x1)] [] (G, F, I, J) b post px else ip_WP 29 6 [some (.ref x0), some (.int x1)] [] (G, F, I, J) b post px := ip_s_if_eq f29_3 rfl
theorem f29_6 : ip_fetch 29 6 = some (.aload_n 0, 1) := by decide +kernel
theorem s29_6 {x0 : Nat} {x1 : Int32} : ip_WP 29 6 [some (.ref x0), some (.int x1)] [] (G, F, I, J) b post px ↔ ip_WP 29 7 [some (.ref x0), some (.int x1)] [.ref x0] (G, F, I, J) b post px := ip_nx_iff ((ip_st_of f29_6).trans rfl)
theorem f29_7 : ip_fetch 29 7 = some (.getfield 107, 3) := by decide +kernel
set_option maxRecDepth 100000 in
theorem s29_7 {x0 : Nat} {x1 : Int32} {s0 : Nat} : ip_WP 29 7 [some (.ref x0), some (.int x1)] [.ref s0] (G, F, I, J) b post px ↔ (ip_isO G s0 1 = true ∧ ip_WP 29 10 [some (.ref x0), some (.int x1)] [F s0 37] (G, F, I, J) b post px) := ip_s_getf f29_7 (by decide +kernel)
theorem f29_10 : ip_fetch 29 10 = some (.aload_n 0, 1) := by decide +kernel
theorem s29_10 {x0 : Nat} {x1 : Int32} {s0 : Int32} : ip_WP 29 10 [some (.ref x0), some (.int x1)] [.int s0] (G, F, I, J) b post px ↔ ip_WP 29 11 [some (.ref x0), some (.int x1)] [.ref x0, .int s0] (G, F, I, J) b post px := ip_nx_iff ((ip_st_of f29_10).trans rfl)
theorem f29_11 : ip_fetch 29 11 = some (.getfield 110, 3) := by decide +kernel
set_option maxRecDepth 100000 in
theorem s29_11 {x0 : Nat} {x1 : Int32} {s0 : Int32} {s1 : Nat} : ip_WP 29 11 [some (.ref x0), some (.int x1)] [.ref s1, .int s0] (G, F, I, J) b post px ↔ (ip_isO G s1 1 = true ∧ ip_WP 29 14 [some (.ref x0), some (.int x1)] [F s1 8, .int s0] (G, F, I, J) b post px) := ip_s_getf f29_11 (by decide +kernel)
theorem f29_14 : ip_fetch 29 14 = some (.if_icmp .ge 31, 3) := by decide +kernel
theorem s29_14 {x0 : Nat} {x1 : Int32} {s0 : Int32} {s1 : Int32} : ip_WP 29 14 [some (.ref x0), some (.int x1)] [.int s1, .int s0] (G, F, I, J) b post px ↔ if s1 ≤ s0 then ip_WP 29 45 [some (.ref x0), some (.int x1)] [] (G, F, I, J) b post px else ip_WP 29 17 [some (.ref x0), some (.int x1)] [] (G, F, I, J) b post px := ip_s_ic_ge f29_14 rfl
theorem f29_17 : ip_fetch 29 17 = some (.aload_n 0, 1) := by decide +kernel
theorem s29_17 {x0 : Nat} {x1 : Int32} : ip_WP 29 17 [some (.ref x0), some (.int x1)] [] (G, F, I, J) b post px ↔ ip_WP 29 18 [some (.ref x0), some (.int x1)] [.ref x0] (G, F, I, J) b post px := ip_nx_iff ((ip_st_of f29_17).trans rfl)
theorem f29_18 : ip_fetch 29 18 = some (.getfield 19, 3) := by decide +kernel
set_option maxRecDepth 100000 in
theorem s29_18 {x0 : Nat} {x1 : Int32} {s0 : Nat} : ip_WP 29 18 [some (.ref x0), some (.int x1)] [.ref s0] (G, F, I, J) b post px ↔ (ip_isO G s0 1 = true ∧ ip_WP 29 21 [some (.ref x0), some (.int x1)] [F s0 11] (G, F, I, J) b post px) := ip_s_getf f29_18 (by decide +kernel)
theorem f29_21 : ip_fetch 29 21 = some (.aload_n 0, 1) := by decide +kernel
theorem s29_21 {x0 : Nat} {x1 : Int32} {s0 : Nat} : ip_WP 29 21 [some (.ref x0), some (.int x1)] [.ref s0] (G, F, I, J) b post px ↔ ip_WP 29 22 [some (.ref x0), some (.int x1)] [.ref x0, .ref s0] (G, F, I, J) b post px := ip_nx_iff ((ip_st_of f29_21).trans rfl)
theorem f29_22 : ip_fetch 29 22 = some (.getfield 107, 3) := by decide +kernel
set_option maxRecDepth 100000 in
theorem s29_22 {x0 : Nat} {x1 : Int32} {s0 : Nat} {s1 : Nat} : ip_WP 29 22 [some (.ref x0), some (.int x1)] [.ref s1, .ref s0] (G, F, I, J) b post px ↔ (ip_isO G s1 1 = true ∧ ip_WP 29 25 [some (.ref x0), some (.int x1)] [F s1 37, .ref s0] (G, F, I, J) b post px) := ip_s_getf f29_22 (by decide +kernel)
theorem f29_25 : ip_fetch 29 25 = some (.iaload, 1) := by decide +kernel
theorem s29_25 {x0 : Nat} {x1 : Int32} {s0 : Nat} {s1 : Int32} : ip_WP 29 25 [some (.ref x0), some (.int x1)] [.int s1, .ref s0] (G, F, I, J) b post px ↔ (ip_inA G s0 0 s1 = true ∧ ip_WP 29 26 [some (.ref x0), some (.int x1)] [.int (I s0 s1.toNatClampNeg)] (G, F, I, J) b post px) := ip_ck_iff ((ip_st_of f29_25).trans rfl) ip_nx_iff
theorem f29_26 : ip_fetch 29 26 = some (.invokestatic 113, 3) := by decide +kernel
set_option maxRecDepth 100000 in
theorem s29_26 {x0 : Nat} {x1 : Int32} {s0 : Int32} : ip_WP 29 26 [some (.ref x0), some (.int x1)] [.int s0] (G, F, I, J) b post px ↔ ip_WP 28 0 [some (.int s0)] [] (G, F, I, J) (0, 0) (fun r h' => ip_WP 29 29 [some (.ref x0), some (.int x1)] (r.toList ++ []) h' b post px) (fun _ _ => False) := ip_cl_iff ((ip_st_of f29_26).trans (rfl : _ = ip_cl 28 [some (.int s0)] [] (0, 0) b))
theorem f29_29 : ip_fetch 29 29 = some (.ifCond .eq 16, 3) := by decide +kernel
theorem s29_29 {x0 : Nat} {x1 : Int32} {s0 : Int32} : ip_WP 29 29 [some (.ref x0), some (.int x1)] [.int s0] (G, F, I, J) b post px ↔ if s0 = 0 then ip_WP 29 45 [some (.ref x0), some (.int x1)] [] (G, F, I, J) b post px else ip_WP 29 32 [some (.ref x0), some (.int x1)] [] (G, F, I, J) b post px := ip_s_if_eq f29_29 rfl
theorem f29_32 : ip_fetch 29 32 = some (.aload_n 0, 1) := by decide +kernel
theorem s29_32 {x0 : Nat} {x1 : Int32} : ip_WP 29 32 [some (.ref x0), some (.int x1)] [] (G, F, I, J) b post px ↔ ip_WP 29 33 [some (.ref x0), some (.int x1)] [.ref x0] (G, F, I, J) b post px := ip_nx_iff ((ip_st_of f29_32).trans rfl)
theorem f29_33 : ip_fetch 29 33 = some (.dup, 1) := by decide +kernel
theorem s29_33 {x0 : Nat} {x1 : Int32} {s0 : Nat} : ip_WP 29 33 [some (.ref x0), some (.int x1)] [.ref s0] (G, F, I, J) b post px ↔ ip_WP 29 34 [some (.ref x0), some (.int x1)] [.ref s0, .ref s0] (G, F, I, J) b post px := ip_nx_iff ((ip_st_of f29_33).trans rfl)
theorem f29_34 : ip_fetch 29 34 = some (.getfield 107, 3) := by decide +kernel
set_option maxRecDepth 100000 in
theorem s29_34 {x0 : Nat} {x1 : Int32} {s0 : Nat} {s1 : Nat} : ip_WP 29 34 [some (.ref x0), some (.int x1)] [.ref s1, .ref s0] (G, F, I, J) b post px ↔ (ip_isO G s1 1 = true ∧ ip_WP 29 37 [some (.ref x0), some (.int x1)] [F s1 37, .ref s0] (G, F, I, J) b post px) := ip_s_getf f29_34 (by decide +kernel)
theorem f29_37 : ip_fetch 29 37 = some (.iconst 1, 1) := by decide +kernel
theorem s29_37 {x0 : Nat} {x1 : Int32} {s0 : Nat} {s1 : Int32} : ip_WP 29 37 [some (.ref x0), some (.int x1)] [.int s1, .ref s0] (G, F, I, J) b post px ↔ ip_WP 29 38 [some (.ref x0), some (.int x1)] [.int 1, .int s1, .ref s0] (G, F, I, J) b post px := ip_s_iconst f29_37 (by decide)
theorem f29_38 : ip_fetch 29 38 = some (.iadd, 1) := by decide +kernel
theorem s29_38 {x0 : Nat} {x1 : Int32} {s0 : Nat} {s1 : Int32} {s2 : Int32} : ip_WP 29 38 [some (.ref x0), some (.int x1)] [.int s2, .int s1, .ref s0] (G, F, I, J) b post px ↔ ip_WP 29 39 [some (.ref x0), some (.int x1)] [.int (s1 + s2), .ref s0] (G, F, I, J) b post px := ip_nx_iff ((ip_st_of f29_38).trans rfl)
theorem f29_39 : ip_fetch 29 39 = some (.putfield 107, 3) := by decide +kernel
set_option maxRecDepth 100000 in
theorem s29_39 {x0 : Nat} {x1 : Int32} {s0 : Nat} {s1 : Int32} : ip_WP 29 39 [some (.ref x0), some (.int x1)] [.int s1, .ref s0] (G, F, I, J) b post px ↔ (ip_isO G s0 1 = true ∧ ip_WP 29 42 [some (.ref x0), some (.int x1)] [] (G, ip_up F s0 37 (.int s1), I, J) b post px) := ip_s_put f29_39 (by decide +kernel) rfl
theorem f29_42 : ip_fetch 29 42 = some (.goto (-36), 3) := by decide +kernel
theorem s29_42 {x0 : Nat} {x1 : Int32} : ip_WP 29 42 [some (.ref x0), some (.int x1)] [] (G, F, I, J) b post px ↔ ip_WP 29 6 [some (.ref x0), some (.int x1)] [] (G, F, I, J) b post px := ip_nx_iff ((ip_st_of f29_42).trans rfl)
theorem f29_45 : ip_fetch 29 45 = some (.aload_n 0, 1) := by decide +kernel
theorem s29_45 {x0 : Nat} {x1 : Int32} : ip_WP 29 45 [some (.ref x0), some (.int x1)] [] (G, F, I, J) b post px ↔ ip_WP 29 46 [some (.ref x0), some (.int x1)] [.ref x0] (G, F, I, J) b post px := ip_nx_iff ((ip_st_of f29_45).trans rfl)
theorem f29_46 : ip_fetch 29 46 = some (.getfield 107, 3) := by decide +kernel
set_option maxRecDepth 100000 in
theorem s29_46 {x0 : Nat} {x1 : Int32} {s0 : Nat} : ip_WP 29 46 [some (.ref x0), some (.int x1)] [.ref s0] (G, F, I, J) b post px ↔ (ip_isO G s0 1 = true ∧ ip_WP 29 49 [some (.ref x0), some (.int x1)] [F s0 37] (G, F, I, J) b post px) := ip_s_getf f29_46 (by decide +kernel)
theorem f29_49 : ip_fetch 29 49 = some (.aload_n 0, 1) := by decide +kernel
theorem s29_49 {x0 : Nat} {x1 : Int32} {s0 : Int32} : ip_WP 29 49 [some (.ref x0), some (.int x1)] [.int s0] (G, F, I, J) b post px ↔ ip_WP 29 50 [some (.ref x0), some (.int x1)] [.ref x0, .int s0] (G, F, I, J) b post px := ip_nx_iff ((ip_st_of f29_49).trans rfl)
theorem f29_50 : ip_fetch 29 50 = some (.getfield 110, 3) := by decide +kernel
set_option maxRecDepth 100000 in
theorem s29_50 {x0 : Nat} {x1 : Int32} {s0 : Int32} {s1 : Nat} : ip_WP 29 50 [some (.ref x0), some (.int x1)] [.ref s1, .int s0] (G, F, I, J) b post px ↔ (ip_isO G s1 1 = true ∧ ip_WP 29 53 [some (.ref x0), some (.int x1)] [F s1 8, .int s0] (G, F, I, J) b post px) := ip_s_getf f29_50 (by decide +kernel)
theorem f29_53 : ip_fetch 29 53 = some (.if_icmp .ge 21, 3) := by decide +kernel
theorem s29_53 {x0 : Nat} {x1 : Int32} {s0 : Int32} {s1 : Int32} : ip_WP 29 53 [some (.ref x0), some (.int x1)] [.int s1, .int s0] (G, F, I, J) b post px ↔ if s1 ≤ s0 then ip_WP 29 74 [some (.ref x0), some (.int x1)] [] (G, F, I, J) b post px else ip_WP 29 56 [some (.ref x0), some (.int x1)] [] (G, F, I, J) b post px := ip_s_ic_ge f29_53 rfl
theorem f29_56 : ip_fetch 29 56 = some (.aload_n 0, 1) := by decide +kernel
theorem s29_56 {x0 : Nat} {x1 : Int32} : ip_WP 29 56 [some (.ref x0), some (.int x1)] [] (G, F, I, J) b post px ↔ ip_WP 29 57 [some (.ref x0), some (.int x1)] [.ref x0] (G, F, I, J) b post px := ip_nx_iff ((ip_st_of f29_56).trans rfl)
theorem f29_57 : ip_fetch 29 57 = some (.getfield 19, 3) := by decide +kernel
set_option maxRecDepth 100000 in
theorem s29_57 {x0 : Nat} {x1 : Int32} {s0 : Nat} : ip_WP 29 57 [some (.ref x0), some (.int x1)] [.ref s0] (G, F, I, J) b post px ↔ (ip_isO G s0 1 = true ∧ ip_WP 29 60 [some (.ref x0), some (.int x1)] [F s0 11] (G, F, I, J) b post px) := ip_s_getf f29_57 (by decide +kernel)
theorem f29_60 : ip_fetch 29 60 = some (.aload_n 0, 1) := by decide +kernel
theorem s29_60 {x0 : Nat} {x1 : Int32} {s0 : Nat} : ip_WP 29 60 [some (.ref x0), some (.int x1)] [.ref s0] (G, F, I, J) b post px ↔ ip_WP 29 61 [some (.ref x0), some (.int x1)] [.ref x0, .ref s0] (G, F, I, J) b post px := ip_nx_iff ((ip_st_of f29_60).trans rfl)
theorem f29_61 : ip_fetch 29 61 = some (.getfield 107, 3) := by decide +kernel
set_option maxRecDepth 100000 in
theorem s29_61 {x0 : Nat} {x1 : Int32} {s0 : Nat} {s1 : Nat} : ip_WP 29 61 [some (.ref x0), some (.int x1)] [.ref s1, .ref s0] (G, F, I, J) b post px ↔ (ip_isO G s1 1 = true ∧ ip_WP 29 64 [some (.ref x0), some (.int x1)] [F s1 37, .ref s0] (G, F, I, J) b post px) := ip_s_getf f29_61 (by decide +kernel)
theorem f29_64 : ip_fetch 29 64 = some (.iaload, 1) := by decide +kernel
theorem s29_64 {x0 : Nat} {x1 : Int32} {s0 : Nat} {s1 : Int32} : ip_WP 29 64 [some (.ref x0), some (.int x1)] [.int s1, .ref s0] (G, F, I, J) b post px ↔ (ip_inA G s0 0 s1 = true ∧ ip_WP 29 65 [some (.ref x0), some (.int x1)] [.int (I s0 s1.toNatClampNeg)] (G, F, I, J) b post px) := ip_ck_iff ((ip_st_of f29_64).trans rfl) ip_nx_iff
theorem f29_65 : ip_fetch 29 65 = some (.bipush 35, 2) := by decide +kernel
theorem s29_65 {x0 : Nat} {x1 : Int32} {s0 : Int32} : ip_WP 29 65 [some (.ref x0), some (.int x1)] [.int s0] (G, F, I, J) b post px ↔ ip_WP 29 67 [some (.ref x0), some (.int x1)] [.int 35, .int s0] (G, F, I, J) b post px := ip_s_bipush f29_65 (by decide)
theorem f29_67 : ip_fetch 29 67 = some (.if_icmp .ne 7, 3) := by decide +kernel
theorem s29_67 {x0 : Nat} {x1 : Int32} {s0 : Int32} {s1 : Int32} : ip_WP 29 67 [some (.ref x0), some (.int x1)] [.int s1, .int s0] (G, F, I, J) b post px ↔ if ¬ s0 = s1 then ip_WP 29 74 [some (.ref x0), some (.int x1)] [] (G, F, I, J) b post px else ip_WP 29 70 [some (.ref x0), some (.int x1)] [] (G, F, I, J) b post px := ip_s_ic_ne f29_67 rfl
theorem f29_70 : ip_fetch 29 70 = some (.iconst 1, 1) := by decide +kernel
theorem s29_70 {x0 : Nat} {x1 : Int32} : ip_WP 29 70 [some (.ref x0), some (.int x1)] [] (G, F, I, J) b post px ↔ ip_WP 29 71 [some (.ref x0), some (.int x1)] [.int 1] (G, F, I, J) b post px := ip_s_iconst f29_70 (by decide)
theorem f29_71 : ip_fetch 29 71 = some (.goto 4, 3) := by decide +kernel
theorem s29_71 {x0 : Nat} {x1 : Int32} {s0 : Int32} : ip_WP 29 71 [some (.ref x0), some (.int x1)] [.int s0] (G, F, I, J) b post px ↔ ip_WP 29 75 [some (.ref x0), some (.int x1)] [.int s0] (G, F, I, J) b post px := ip_nx_iff ((ip_st_of f29_71).trans rfl)
theorem f29_74 : ip_fetch 29 74 = some (.iconst 0, 1) := by decide +kernel
theorem s29_74 {x0 : Nat} {x1 : Int32} : ip_WP 29 74 [some (.ref x0), some (.int x1)] [] (G, F, I, J) b post px ↔ ip_WP 29 75 [some (.ref x0), some (.int x1)] [.int 0] (G, F, I, J) b post px := ip_s_iconst f29_74 (by decide)
theorem f29_75 : ip_fetch 29 75 = some (.istore_n 1, 1) := by decide +kernel
theorem s29_75 {x0 : Nat} {x1 : Int32} {s0 : Int32} : ip_WP 29 75 [some (.ref x0), some (.int x1)] [.int s0] (G, F, I, J) b post px ↔ ip_WP 29 76 [some (.ref x0), some (.int s0)] [] (G, F, I, J) b post px := ip_nx_iff ((ip_st_of f29_75).trans rfl)
theorem f29_76 : ip_fetch 29 76 = some (.iload_n 1, 1) := by decide +kernel
theorem s29_76 {x0 : Nat} {x1 : Int32} : ip_WP 29 76 [some (.ref x0), some (.int x1)] [] (G, F, I, J) b post px ↔ ip_WP 29 77 [some (.ref x0), some (.int x1)] [.int x1] (G, F, I, J) b post px := ip_nx_iff ((ip_st_of f29_76).trans rfl)
theorem f29_77 : ip_fetch 29 77 = some (.ifCond .eq (-75), 3) := by decide +kernel
theorem s29_77 {x0 : Nat} {x1 : Int32} {s0 : Int32} : ip_WP 29 77 [some (.ref x0), some (.int x1)] [.int s0] (G, F, I, J) b post px ↔ if s0 = 0 then ip_WP 29 2 [some (.ref x0), some (.int x1)] [] (G, F, I, J) b post px else ip_WP 29 80 [some (.ref x0), some (.int x1)] [] (G, F, I, J) b post px := ip_s_if_eq f29_77 rfl
theorem f29_80 : ip_fetch 29 80 = some (.aload_n 0, 1) := by decide +kernel
theorem s29_80 {x0 : Nat} {x1 : Int32} : ip_WP 29 80 [some (.ref x0), some (.int x1)] [] (G, F, I, J) b post px ↔ ip_WP 29 81 [some (.ref x0), some (.int x1)] [.ref x0] (G, F, I, J) b post px := ip_nx_iff ((ip_st_of f29_80).trans rfl)
theorem f29_81 : ip_fetch 29 81 = some (.getfield 107, 3) := by decide +kernel
set_option maxRecDepth 100000 in
theorem s29_81 {x0 : Nat} {x1 : Int32} {s0 : Nat} : ip_WP 29 81 [some (.ref x0), some (.int x1)] [.ref s0] (G, F, I, J) b post px ↔ (ip_isO G s0 1 = true ∧ ip_WP 29 84 [some (.ref x0), some (.int x1)] [F s0 37] (G, F, I, J) b post px) := ip_s_getf f29_81 (by decide +kernel)
theorem f29_84 : ip_fetch 29 84 = some (.aload_n 0, 1) := by decide +kernel
theorem s29_84 {x0 : Nat} {x1 : Int32} {s0 : Int32} : ip_WP 29 84 [some (.ref x0), some (.int x1)] [.int s0] (G, F, I, J) b post px ↔ ip_WP 29 85 [some (.ref x0), some (.int x1)] [.ref x0, .int s0] (G, F, I, J) b post px := ip_nx_iff ((ip_st_of f29_84).trans rfl)
theorem f29_85 : ip_fetch 29 85 = some (.getfield 110, 3) := by decide +kernel
set_option maxRecDepth 100000 in
theorem s29_85 {x0 : Nat} {x1 : Int32} {s0 : Int32} {s1 : Nat} : ip_WP 29 85 [some (.ref x0), some (.int x1)] [.ref s1, .int s0] (G, F, I, J) b post px ↔ (ip_isO G s1 1 = true ∧ ip_WP 29 88 [some (.ref x0), some (.int x1)] [F s1 8, .int s0] (G, F, I, J) b post px) := ip_s_getf f29_85 (by decide +kernel)
theorem f29_88 : ip_fetch 29 88 = some (.if_icmp .ge (-86), 3) := by decide +kernel
theorem s29_88 {x0 : Nat} {x1 : Int32} {s0 : Int32} {s1 : Int32} : ip_WP 29 88 [some (.ref x0), some (.int x1)] [.int s1, .int s0] (G, F, I, J) b post px ↔ if s1 ≤ s0 then ip_WP 29 2 [some (.ref x0), some (.int x1)] [] (G, F, I, J) b post px else ip_WP 29 91 [some (.ref x0), some (.int x1)] [] (G, F, I, J) b post px := ip_s_ic_ge f29_88 rfl
theorem f29_91 : ip_fetch 29 91 = some (.aload_n 0, 1) := by decide +kernel
theorem s29_91 {x0 : Nat} {x1 : Int32} : ip_WP 29 91 [some (.ref x0), some (.int x1)] [] (G, F, I, J) b post px ↔ ip_WP 29 92 [some (.ref x0), some (.int x1)] [.ref x0] (G, F, I, J) b post px := ip_nx_iff ((ip_st_of f29_91).trans rfl)
theorem f29_92 : ip_fetch 29 92 = some (.getfield 19, 3) := by decide +kernel
set_option maxRecDepth 100000 in
theorem s29_92 {x0 : Nat} {x1 : Int32} {s0 : Nat} : ip_WP 29 92 [some (.ref x0), some (.int x1)] [.ref s0] (G, F, I, J) b post px ↔ (ip_isO G s0 1 = true ∧ ip_WP 29 95 [some (.ref x0), some (.int x1)] [F s0 11] (G, F, I, J) b post px) := ip_s_getf f29_92 (by decide +kernel)
theorem f29_95 : ip_fetch 29 95 = some (.aload_n 0, 1) := by decide +kernel
theorem s29_95 {x0 : Nat} {x1 : Int32} {s0 : Nat} : ip_WP 29 95 [some (.ref x0), some (.int x1)] [.ref s0] (G, F, I, J) b post px ↔ ip_WP 29 96 [some (.ref x0), some (.int x1)] [.ref x0, .ref s0] (G, F, I, J) b post px := ip_nx_iff ((ip_st_of f29_95).trans rfl)
theorem f29_96 : ip_fetch 29 96 = some (.getfield 107, 3) := by decide +kernel
set_option maxRecDepth 100000 in
theorem s29_96 {x0 : Nat} {x1 : Int32} {s0 : Nat} {s1 : Nat} : ip_WP 29 96 [some (.ref x0), some (.int x1)] [.ref s1, .ref s0] (G, F, I, J) b post px ↔ (ip_isO G s1 1 = true ∧ ip_WP 29 99 [some (.ref x0), some (.int x1)] [F s1 37, .ref s0] (G, F, I, J) b post px) := ip_s_getf f29_96 (by decide +kernel)
theorem f29_99 : ip_fetch 29 99 = some (.iaload, 1) := by decide +kernel
theorem s29_99 {x0 : Nat} {x1 : Int32} {s0 : Nat} {s1 : Int32} : ip_WP 29 99 [some (.ref x0), some (.int x1)] [.int s1, .ref s0] (G, F, I, J) b post px ↔ (ip_inA G s0 0 s1 = true ∧ ip_WP 29 100 [some (.ref x0), some (.int x1)] [.int (I s0 s1.toNatClampNeg)] (G, F, I, J) b post px) := ip_ck_iff ((ip_st_of f29_99).trans rfl) ip_nx_iff
theorem f29_100 : ip_fetch 29 100 = some (.bipush 10, 2) := by decide +kernel
theorem s29_100 {x0 : Nat} {x1 : Int32} {s0 : Int32} : ip_WP 29 100 [some (.ref x0), some (.int x1)] [.int s0] (G, F, I, J) b post px ↔ ip_WP 29 102 [some (.ref x0), some (.int x1)] [.int 10, .int s0] (G, F, I, J) b post px := ip_s_bipush f29_100 (by decide)
theorem f29_102 : ip_fetch 29 102 = some (.if_icmp .eq (-100), 3) := by decide +kernel
theorem s29_102 {x0 : Nat} {x1 : Int32} {s0 : Int32} {s1 : Int32} : ip_WP 29 102 [some (.ref x0), some (.int x1)] [.int s1, .int s0] (G, F, I, J) b post px ↔ if s0 = s1 then ip_WP 29 2 [some (.ref x0), some (.int x1)] [] (G, F, I, J) b post px else ip_WP 29 105 [some (.ref x0), some (.int x1)] [] (G, F, I, J) b post px := ip_s_ic_eq f29_102 rfl
theorem f29_105 : ip_fetch 29 105 = some (.aload_n 0, 1) := by decide +kernel
theorem s29_105 {x0 : Nat} {x1 : Int32} : ip_WP 29 105 [some (.ref x0), some (.int x1)] [] (G, F, I, J) b post px ↔ ip_WP 29 106 [some (.ref x0), some (.int x1)] [.ref x0] (G, F, I, J) b post px := ip_nx_iff ((ip_st_of f29_105).trans rfl)
theorem f29_106 : ip_fetch 29 106 = some (.dup, 1) := by decide +kernel
theorem s29_106 {x0 : Nat} {x1 : Int32} {s0 : Nat} : ip_WP 29 106 [some (.ref x0), some (.int x1)] [.ref s0] (G, F, I, J) b post px ↔ ip_WP 29 107 [some (.ref x0), some (.int x1)] [.ref s0, .ref s0] (G, F, I, J) b post px := ip_nx_iff ((ip_st_of f29_106).trans rfl)
theorem f29_107 : ip_fetch 29 107 = some (.getfield 107, 3) := by decide +kernel
set_option maxRecDepth 100000 in
theorem s29_107 {x0 : Nat} {x1 : Int32} {s0 : Nat} {s1 : Nat} : ip_WP 29 107 [some (.ref x0), some (.int x1)] [.ref s1, .ref s0] (G, F, I, J) b post px ↔ (ip_isO G s1 1 = true ∧ ip_WP 29 110 [some (.ref x0), some (.int x1)] [F s1 37, .ref s0] (G, F, I, J) b post px) := ip_s_getf f29_107 (by decide +kernel)
theorem f29_110 : ip_fetch 29 110 = some (.iconst 1, 1) := by decide +kernel
theorem s29_110 {x0 : Nat} {x1 : Int32} {s0 : Nat} {s1 : Int32} : ip_WP 29 110 [some (.ref x0), some (.int x1)] [.int s1, .ref s0] (G, F, I, J) b post px ↔ ip_WP 29 111 [some (.ref x0), some (.int x1)] [.int 1, .int s1, .ref s0] (G, F, I, J) b post px := ip_s_iconst f29_110 (by decide)
theorem f29_111 : ip_fetch 29 111 = some (.iadd, 1) := by decide +kernel
theorem s29_111 {x0 : Nat} {x1 : Int32} {s0 : Nat} {s1 : Int32} {s2 : Int32} : ip_WP 29 111 [some (.ref x0), some (.int x1)] [.int s2, .int s1, .ref s0] (G, F, I, J) b post px ↔ ip_WP 29 112 [some (.ref x0), some (.int x1)] [.int (s1 + s2), .ref s0] (G, F, I, J) b post px := ip_nx_iff ((ip_st_of f29_111).trans rfl)
theorem f29_112 : ip_fetch 29 112 = some (.putfield 107, 3) := by decide +kernel
set_option maxRecDepth 100000 in
theorem s29_112 {x0 : Nat} {x1 : Int32} {s0 : Nat} {s1 : Int32} : ip_WP 29 112 [some (.ref x0), some (.int x1)] [.int s1, .ref s0] (G, F, I, J) b post px ↔ (ip_isO G s0 1 = true ∧ ip_WP 29 115 [some (.ref x0), some (.int x1)] [] (G, ip_up F s0 37 (.int s1), I, J) b post px) := ip_s_put f29_112 (by decide +kernel) rfl
theorem f29_115 : ip_fetch 29 115 = some (.goto (-39), 3) := by decide +kernel
theorem s29_115 {x0 : Nat} {x1 : Int32} : ip_WP 29 115 [some (.ref x0), some (.int x1)] [] (G, F, I, J) b post px ↔ ip_WP 29 76 [some (.ref x0), some (.int x1)] [] (G, F, I, J) b post px := ip_nx_iff ((ip_st_of f29_115).trans rfl)
theorem f29_118 : ip_fetch 29 118 = some (.return_, 1) := by decide +kernel
theorem s29_118 {x0 : Nat} {x1 : Int32} : ip_WP 29 118 [some (.ref x0), some (.int x1)] [] (G, F, I, J) b post px ↔ post none (G, F, I, J) := ip_rt_iff ((ip_st_of f29_118).trans rfl)
theorem f30_0 : ip_fetch 30 0 = some (.iconst 0, 1) := by decide +kernel
theorem s30_0 {x0 : Nat} {x1 : Option Value} {x2 : Option Value} {x3 : Option Value} : ip_WP 30 0 [some (.ref x0), x1, x2, x3] [] (G, F, I, J) b post px ↔ ip_WP 30 1 [some (.ref x0), x1, x2, x3] [.int 0] (G, F, I, J) b post px := ip_s_iconst f30_0 (by decide)
theorem f30_1 : ip_fetch 30 1 = some (.istore_n 1, 1) := by decide +kernel
theorem s30_1 {x0 : Nat} {x1 : Option Value} {x2 : Option Value} {x3 : Option Value} {s0 : Int32} : ip_WP 30 1 [some (.ref x0), x1, x2, x3] [.int s0] (G, F, I, J) b post px ↔ ip_WP 30 2 [some (.ref x0), some (.int s0), x2, x3] [] (G, F, I, J) b post px := ip_nx_iff ((ip_st_of f30_1).trans rfl)
theorem f30_2 : ip_fetch 30 2 = some (.iconst 0, 1) := by decide +kernel
theorem s30_2 {x0 : Nat} {x1 : Int32} {x2 : Option Value} {x3 : Option Value} : ip_WP 30 2 [some (.ref x0), some (.int x1), x2, x3] [] (G, F, I, J) b post px ↔ ip_WP 30 3 [some (.ref x0), some (.int x1), x2, x3] [.int 0] (G, F, I, J) b post px := ip_s_iconst f30_2 (by decide)
theorem f30_3 : ip_fetch 30 3 = some (.istore_n 2, 1) := by decide +kernel
theorem s30_3 {x0 : Nat} {x1 : Int32} {x2 : Option Value} {x3 : Option Value} {s0 : Int32} : ip_WP 30 3 [some (.ref x0), some (.int x1), x2, x3] [.int s0] (G, F, I, J) b post px ↔ ip_WP 30 4 [some (.ref x0), some (.int x1), some (.int s0), x3] [] (G, F, I, J) b post px := ip_nx_iff ((ip_st_of f30_3).trans rfl)
theorem f30_4 : ip_fetch 30 4 = some (.iload_n 2, 1) := by decide +kernel
theorem s30_4 {x0 : Nat} {x1 : Int32} {x2 : Int32} {x3 : Option Value} : ip_WP 30 4 [some (.ref x0), some (.int x1), some (.int x2), x3] [] (G, F, I, J) b post px ↔ ip_WP 30 5 [some (.ref x0), some (.int x1), some (.int x2), x3] [.int x2] (G, F, I, J) b post px := ip_nx_iff ((ip_st_of f30_4).trans rfl)
theorem f30_5 : ip_fetch 30 5 = some (.bipush 17, 2) := by decide +kernel
theorem s30_5 {x0 : Nat} {x1 : Int32} {x2 : Int32} {x3 : Option Value} {s0 : Int32} : ip_WP 30 5 [some (.ref x0), some (.int x1), some (.int x2), x3] [.int s0] (G, F, I, J) b post px ↔ ip_WP 30 7 [some (.ref x0), some (.int x1), some (.int x2), x3] [.int 17, .int s0] (G, F, I, J) b post px := ip_s_bipush f30_5 (by decide)
theorem f30_7 : ip_fetch 30 7 = some (.if_icmp .ge 107, 3) := by decide +kernel
theorem s30_7 {x0 : Nat} {x1 : Int32} {x2 : Int32} {x3 : Option Value} {s0 : Int32} {s1 : Int32} : ip_WP 30 7 [some (.ref x0), some (.int x1), some (.int x2), x3] [.int s1, .int s0] (G, F, I, J) b post px ↔ if s1 ≤ s0 then ip_WP 30 114 [some (.ref x0), some (.int x1), some (.int x2), x3] [] (G, F, I, J) b post px else ip_WP 30 10 [some (.ref x0), some (.int x1), some (.int x2), x3] [] (G, F, I, J) b post px := ip_s_ic_ge f30_7 rfl
theorem f30_10 : ip_fetch 30 10 = some (.iconst 0, 1) := by decide +kernel
theorem s30_10 {x0 : Nat} {x1 : Int32} {x2 : Int32} {x3 : Option Value} : ip_WP 30 10 [some (.ref x0), some (.int x1), some (.int x2), x3] [] (G, F, I, J) b post px ↔ ip_WP 30 11 [some (.ref x0), some (.int x1), some (.int x2), x3] [.int 0] (G, F, I, J) b post px := ip_s_iconst f30_10 (by decide)
theorem f30_11 : ip_fetch 30 11 = some (.istore_n 3, 1) := by decide +kernel
theorem s30_11 {x0 : Nat} {x1 : Int32} {x2 : Int32} {x3 : Option Value} {s0 : Int32} : ip_WP 30 11 [some (.ref x0), some (.int x1), some (.int x2), x3] [.int s0] (G, F, I, J) b post px ↔ ip_WP 30 12 [some (.ref x0), some (.int x1), some (.int x2), some (.int s0)] [] (G, F, I, J) b post px := ip_nx_iff ((ip_st_of f30_11).trans rfl)
theorem f30_12 : ip_fetch 30 12 = some (.aload_n 0, 1) := by decide +kernel
theorem s30_12 {x0 : Nat} {x1 : Int32} {x2 : Int32} {x3 : Int32} : ip_WP 30 12 [some (.ref x0), some (.int x1), some (.int x2), some (.int x3)] [] (G, F, I, J) b post px ↔ ip_WP 30 13 [some (.ref x0), some (.int x1), some (.int x2), some (.int x3)] [.ref x0] (G, F, I, J) b post px := ip_nx_iff ((ip_st_of f30_12).trans rfl)
theorem f30_13 : ip_fetch 30 13 = some (.getfield 7, 3) := by decide +kernel
set_option maxRecDepth 100000 in
theorem s30_13 {x0 : Nat} {x1 : Int32} {x2 : Int32} {x3 : Int32} {s0 : Nat} : ip_WP 30 13 [some (.ref x0), some (.int x1), some (.int x2), some (.int x3)] [.ref s0] (G, F, I, J) b post px ↔ (ip_isO G s0 1 = true ∧ ip_WP 30 16 [some (.ref x0), some (.int x1), some (.int x2), some (.int x3)] [F s0 0] (G, F, I, J) b post px) := ip_s_getf f30_13 (by decide +kernel)
theorem f30_16 : ip_fetch 30 16 = some (.iload_n 1, 1) := by decide +kernel
theorem s30_16 {x0 : Nat} {x1 : Int32} {x2 : Int32} {x3 : Int32} {s0 : Nat} : ip_WP 30 16 [some (.ref x0), some (.int x1), some (.int x2), some (.int x3)] [.ref s0] (G, F, I, J) b post px ↔ ip_WP 30 17 [some (.ref x0), some (.int x1), some (.int x2), some (.int x3)] [.int x1, .ref s0] (G, F, I, J) b post px := ip_nx_iff ((ip_st_of f30_16).trans rfl)
theorem f30_17 : ip_fetch 30 17 = some (.iload_n 3, 1) := by decide +kernel
theorem s30_17 {x0 : Nat} {x1 : Int32} {x2 : Int32} {x3 : Int32} {s0 : Nat} {s1 : Int32} : ip_WP 30 17 [some (.ref x0), some (.int x1), some (.int x2), some (.int x3)] [.int s1, .ref s0] (G, F, I, J) b post px ↔ ip_WP 30 18 [some (.ref x0), some (.int x1), some (.int x2), some (.int x3)] [.int x3, .int s1, .ref s0] (G, F, I, J) b post px := ip_nx_iff ((ip_st_of f30_17).trans rfl)
theorem f30_18 : ip_fetch 30 18 = some (.iadd, 1) := by decide +kernel
theorem s30_18 {x0 : Nat} {x1 : Int32} {x2 : Int32} {x3 : Int32} {s0 : Nat} {s1 : Int32} {s2 : Int32} : ip_WP 30 18 [some (.ref x0), some (.int x1), some (.int x2), some (.int x3)] [.int s2, .int s1, .ref s0] (G, F, I, J) b post px ↔ ip_WP 30 19 [some (.ref x0), some (.int x1), some (.int x2), some (.int x3)] [.int (s1 + s2), .ref s0] (G, F, I, J) b post px := ip_nx_iff ((ip_st_of f30_18).trans rfl)
theorem f30_19 : ip_fetch 30 19 = some (.iaload, 1) := by decide +kernel
theorem s30_19 {x0 : Nat} {x1 : Int32} {x2 : Int32} {x3 : Int32} {s0 : Nat} {s1 : Int32} : ip_WP 30 19 [some (.ref x0), some (.int x1), some (.int x2), some (.int x3)] [.int s1, .ref s0] (G, F, I, J) b post px ↔ (ip_inA G s0 0 s1 = true ∧ ip_WP 30 20 [some (.ref x0), some (.int x1), some (.int x2), some (.int x3)] [.int (I s0 s1.toNatClampNeg)] (G, F, I, J) b post px) := ip_ck_iff ((ip_st_of f30_19).trans rfl) ip_nx_iff
theorem f30_20 : ip_fetch 30 20 = some (.ifCond .eq 44, 3) := by decide +kernel
theorem s30_20 {x0 : Nat} {x1 : Int32} {x2 : Int32} {x3 : Int32} {s0 : Int32} : ip_WP 30 20 [some (.ref x0), some (.int x1), some (.int x2), some (.int x3)] [.int s0] (G, F, I, J) b post px ↔ if s0 = 0 then ip_WP 30 64 [some (.ref x0), some (.int x1), some (.int x2), some (.int x3)] [] (G, F, I, J) b post px else ip_WP 30 23 [some (.ref x0), some (.int x1), some (.int x2), some (.int x3)] [] (G, F, I, J) b post px := ip_s_if_eq f30_20 rfl
theorem f30_23 : ip_fetch 30 23 = some (.aload_n 0, 1) := by decide +kernel
theorem s30_23 {x0 : Nat} {x1 : Int32} {x2 : Int32} {x3 : Int32} : ip_WP 30 23 [some (.ref x0), some (.int x1), some (.int x2), some (.int x3)] [] (G, F, I, J) b post px ↔ ip_WP 30 24 [some (.ref x0), some (.int x1), some (.int x2), some (.int x3)] [.ref x0] (G, F, I, J) b post px := ip_nx_iff ((ip_st_of f30_23).trans rfl)
theorem f30_24 : ip_fetch 30 24 = some (.getfield 117, 3) := by decide +kernel
set_option maxRecDepth 100000 in
theorem s30_24 {x0 : Nat} {x1 : Int32} {x2 : Int32} {x3 : Int32} {s0 : Nat} : ip_WP 30 24 [some (.ref x0), some (.int x1), some (.int x2), some (.int x3)] [.ref s0] (G, F, I, J) b post px ↔ (ip_isO G s0 1 = true ∧ ip_WP 30 27 [some (.ref x0), some (.int x1), some (.int x2), some (.int x3)] [F s0 36] (G, F, I, J) b post px) := ip_s_getf f30_24 (by decide +kernel)
theorem f30_27 : ip_fetch 30 27 = some (.iload_n 3, 1) := by decide +kernel
theorem s30_27 {x0 : Nat} {x1 : Int32} {x2 : Int32} {x3 : Int32} {s0 : Int32} : ip_WP 30 27 [some (.ref x0), some (.int x1), some (.int x2), some (.int x3)] [.int s0] (G, F, I, J) b post px ↔ ip_WP 30 28 [some (.ref x0), some (.int x1), some (.int x2), some (.int x3)] [.int x3, .int s0] (G, F, I, J) b post px := ip_nx_iff ((ip_st_of f30_27).trans rfl)
theorem f30_28 : ip_fetch 30 28 = some (.iadd, 1) := by decide +kernel
theorem s30_28 {x0 : Nat} {x1 : Int32} {x2 : Int32} {x3 : Int32} {s0 : Int32} {s1 : Int32} : ip_WP 30 28 [some (.ref x0), some (.int x1), some (.int x2), some (.int x3)] [.int s1, .int s0] (G, F, I, J) b post px ↔ ip_WP 30 29 [some (.ref x0), some (.int x1), some (.int x2), some (.int x3)] [.int (s0 + s1)] (G, F, I, J) b post px := ip_nx_iff ((ip_st_of f30_28).trans rfl)
theorem f30_29 : ip_fetch 30 29 = some (.aload_n 0, 1) := by decide +kernel
theorem s30_29 {x0 : Nat} {x1 : Int32} {x2 : Int32} {x3 : Int32} {s0 : Int32} : ip_WP 30 29 [some (.ref x0), some (.int x1), some (.int x2), some (.int x3)] [.int s0] (G, F, I, J) b post px ↔ ip_WP 30 30 [some (.ref x0), some (.int x1), some (.int x2), some (.int x3)] [.ref x0, .int s0] (G, F, I, J) b post px := ip_nx_iff ((ip_st_of f30_29).trans rfl)
theorem f30_30 : ip_fetch 30 30 = some (.getfield 107, 3) := by decide +kernel
set_option maxRecDepth 100000 in
theorem s30_30 {x0 : Nat} {x1 : Int32} {x2 : Int32} {x3 : Int32} {s0 : Int32} {s1 : Nat} : ip_WP 30 30 [some (.ref x0), some (.int x1), some (.int x2), some (.int x3)] [.ref s1, .int s0] (G, F, I, J) b post px ↔ (ip_isO G s1 1 = true ∧ ip_WP 30 33 [some (.ref x0), some (.int x1), some (.int x2), some (.int x3)] [F s1 37, .int s0] (G, F, I, J) b post px) := ip_s_getf f30_30 (by decide +kernel)
theorem f30_33 : ip_fetch 30 33 = some (.if_icmp .ge 31, 3) := by decide +kernel
theorem s30_33 {x0 : Nat} {x1 : Int32} {x2 : Int32} {x3 : Int32} {s0 : Int32} {s1 : Int32} : ip_WP 30 33 [some (.ref x0), some (.int x1), some (.int x2), some (.int x3)] [.int s1, .int s0] (G, F, I, J) b post px ↔ if s1 ≤ s0 then ip_WP 30 64 [some (.ref x0), some (.int x1), some (.int x2), some (.int x3)] [] (G, F, I, J) b post px else ip_WP 30 36 [some (.ref x0), some (.int x1), some (.int x2), some (.int x3)] [] (G, F, I, J) b post px := ip_s_ic_ge f30_33 rfl
theorem f30_36 : ip_fetch 30 36 = some (.aload_n 0, 1) := by decide +kernel
theorem s30_36 {x0 : Nat} {x1 : Int32} {x2 : Int32} {x3 : Int32} : ip_WP 30 36 [some (.ref x0), some (.int x1), some (.int x2), some (.int x3)] [] (G, F, I, J) b post px ↔ ip_WP 30 37 [some (.ref x0), some (.int x1), some (.int x2), some (.int x3)] [.ref x0] (G, F, I, J) b post px := ip_nx_iff ((ip_st_of f30_36).trans rfl)
theorem f30_37 : ip_fetch 30 37 = some (.getfield 7, 3) := by decide +kernel
set_option maxRecDepth 100000 in
theorem s30_37 {x0 : Nat} {x1 : Int32} {x2 : Int32} {x3 : Int32} {s0 : Nat} : ip_WP 30 37 [some (.ref x0), some (.int x1), some (.int x2), some (.int x3)] [.ref s0] (G, F, I, J) b post px ↔ (ip_isO G s0 1 = true ∧ ip_WP 30 40 [some (.ref x0), some (.int x1), some (.int x2), some (.int x3)] [F s0 0] (G, F, I, J) b post px) := ip_s_getf f30_37 (by decide +kernel)
theorem f30_40 : ip_fetch 30 40 = some (.iload_n 1, 1) := by decide +kernel
theorem s30_40 {x0 : Nat} {x1 : Int32} {x2 : Int32} {x3 : Int32} {s0 : Nat} : ip_WP 30 40 [some (.ref x0), some (.int x1), some (.int x2), some (.int x3)] [.ref s0] (G, F, I, J) b post px ↔ ip_WP 30 41 [some (.ref x0), some (.int x1), some (.int x2), some (.int x3)] [.int x1, .ref s0] (G, F, I, J) b post px := ip_nx_iff ((ip_st_of f30_40).trans rfl)
theorem f30_41 : ip_fetch 30 41 = some (.iload_n 3, 1) := by decide +kernel
theorem s30_41 {x0 : Nat} {x1 : Int32} {x2 : Int32} {x3 : Int32} {s0 : Nat} {s1 : Int32} : ip_WP 30 41 [some (.ref x0), some (.int x1), some (.int x2), some (.int x3)] [.int s1, .ref s0] (G, F, I, J) b post px ↔ ip_WP 30 42 [some (.ref x0), some (.int x1), some (.int x2), some (.int x3)] [.int x3, .int s1, .ref s0] (G, F, I, J) b post px := ip_nx_iff ((ip_st_of f30_41).trans rfl)
theorem f30_42 : ip_fetch 30 42 = some (.iadd, 1) := by decide +kernel
theorem s30_42 {x0 : Nat} {x1 : Int32} {x2 : Int32} {x3 : Int32} {s0 : Nat} {s1 : Int32} {s2 : Int32} : ip_WP 30 42 [some (.ref x0), some (.int x1), some (.int x2), some (.int x3)] [.int s2, .int s1, .ref s0] (G, F, I, J) b post px ↔ ip_WP 30 43 [some (.ref x0), some (.int x1), some (.int x2), some (.int x3)] [.int (s1 + s2), .ref s0] (G, F, I, J) b post px := ip_nx_iff ((ip_st_of f30_42).trans rfl)
theorem f30_43 : ip_fetch 30 43 = some (.iaload, 1) := by decide +kernel
theorem s30_43 {x0 : Nat} {x1 : Int32} {x2 : Int32} {x3 : Int32} {s0 : Nat} {s1 : Int32} : ip_WP 30 43 [some (.ref x0), some (.int x1), some (.int x2), some (.int x3)] [.int s1, .ref s0] (G, F, I, J) b post px ↔ (ip_inA G s0 0 s1 = true ∧ ip_WP 30 44 [some (.ref x0), some (.int x1), some (.int x2), some (.int x3)] [.int (I s0 s1.toNatClampNeg)] (G, F, I, J) b post px) := ip_ck_iff ((ip_st_of f30_43).trans rfl) ip_nx_iff
theorem f30_44 : ip_fetch 30 44 = some (.aload_n 0, 1) := by decide +kernel
theorem s30_44 {x0 : Nat} {x1 : Int32} {x2 : Int32} {x3 : Int32} {s0 : Int32} : ip_WP 30 44 [some (.ref x0), some (.int x1), some (.int x2), some (.int x3)] [.int s0] (G, F, I, J) b post px ↔ ip_WP 30 45 [some (.ref x0), some (.int x1), some (.int x2), some (.int x3)] [.ref x0, .int s0] (G, F, I, J) b post px := ip_nx_iff ((ip_st_of f30_44).trans rfl)
theorem f30_45 : ip_fetch 30 45 = some (.getfield 19, 3) := by decide +kernel
set_option maxRecDepth 100000 in
theorem s30_45 {x0 : Nat} {x1 : Int32} {x2 : Int32} {x3 : Int32} {s0 : Int32} {s1 : Nat} : ip_WP 30 45 [some (.ref x0), some (.int x1), some (.int x2), some (.int x3)] [.ref s1, .int s0] (G, F, I, J) b post px ↔ (ip_isO G s1 1 = true ∧ ip_WP 30 48 [some (.ref x0), some (.int x1), some (.int x2), some (.int x3)] [F s1 11, .int s0] (G, F, I, J) b post px) := ip_s_getf f30_45 (by decide +kernel)
theorem f30_48 : ip_fetch 30 48 = some (.aload_n 0, 1) := by decide +kernel
theorem s30_48 {x0 : Nat} {x1 : Int32} {x2 : Int32} {x3 : Int32} {s0 : Int32} {s1 : Nat} : ip_WP 30 48 [some (.ref x0), some (.int x1), some (.int x2), some (.int x3)] [.ref s1, .int s0] (G, F, I, J) b post px ↔ ip_WP 30 49 [some (.ref x0), some (.int x1), some (.int x2), some (.int x3)] [.ref x0, .ref s1, .int s0] (G, F, I, J) b post px := ip_nx_iff ((ip_st_of f30_48).trans rfl)
theorem f30_49 : ip_fetch 30 49 = some (.getfield 117, 3) := by decide +kernel
set_option maxRecDepth 100000 in
theorem s30_49 {x0 : Nat} {x1 : Int32} {x2 : Int32} {x3 : Int32} {s0 : Int32} {s1 : Nat} {s2 : Nat} : ip_WP 30 49 [some (.ref x0), some (.int x1), some (.int x2), some (.int x3)] [.ref s2, .ref s1, .int s0] (G, F, I, J) b post px ↔ (ip_isO G s2 1 = true ∧ ip_WP 30 52 [some (.ref x0), some (.int x1), some (.int x2), some (.int x3)] [F s2 36, .ref s1, .int s0] (G, F, I, J) b post px) := ip_s_getf f30_49 (by decide +kernel)
theorem f30_52 : ip_fetch 30 52 = some (.iload_n 3, 1) := by decide +kernel
theorem s30_52 {x0 : Nat} {x1 : Int32} {x2 : Int32} {x3 : Int32} {s0 : Int32} {s1 : Nat} {s2 : Int32} : ip_WP 30 52 [some (.ref x0), some (.int x1), some (.int x2), some (.int x3)] [.int s2, .ref s1, .int s0] (G, F, I, J) b post px ↔ ip_WP 30 53 [some (.ref x0), some (.int x1), some (.int x2), some (.int x3)] [.int x3, .int s2, .ref s1, .int s0] (G, F, I, J) b post px := ip_nx_iff ((ip_st_of f30_52).trans rfl)
theorem f30_53 : ip_fetch 30 53 = some (.iadd, 1) := by decide +kernel
theorem s30_53 {x0 : Nat} {x1 : Int32} {x2 : Int32} {x3 : Int32} {s0 : Int32} {s1 : Nat} {s2 : Int32} {s3 : Int32} : ip_WP 30 53 [some (.ref x0), some (.int x1), some (.int x2), some (.int x3)] [.int s3, .int s2, .ref s1, .int s0] (G, F, I, J) b post px ↔ ip_WP 30 54 [some (.ref x0), some (.int x1), some (.int x2), some (.int x3)] [.int (s2 + s3), .ref s1, .int s0] (G, F, I, J) b post px := ip_nx_iff ((ip_st_of f30_53).trans rfl)
theorem f30_54 : ip_fetch 30 54 = some (.iaload, 1) := by decide +kernel
theorem s30_54 {x0 : Nat} {x1 : Int32} {x2 : Int32} {x3 : Int32} {s0 : Int32} {s1 : Nat} {s2 : Int32} : ip_WP 30 54 [some (.ref x0), some (.int x1), some (.int x2), some (.int x3)] [.int s2, .ref s1, .int s0] (G, F, I, J) b post px ↔ (ip_inA G s1 0 s2 = true ∧ ip_WP 30 55 [some (.ref x0), some (.int x1), some (.int x2), some (.int x3)] [.int (I s1 s2.toNatClampNeg), .int s0] (G, F, I, J) b post px) := ip_ck_iff ((ip_st_of f30_54).trans rfl) ip_nx_iff
theorem f30_55 : ip_fetch 30 55 = some (.if_icmp .ne 9, 3) := by decide +kernel
theorem s30_55 {x0 : Nat} {x1 : Int32} {x2 : Int32} {x3 : Int32} {s0 : Int32} {s1 : Int32} : ip_WP 30 55 [some (.ref x0), some (.int x1), some (.int x2), some (.int x3)] [.int s1, .int s0] (G, F, I, J) b post px ↔ if ¬ s0 = s1 then ip_WP 30 64 [some (.ref x0), some (.int x1), some (.int x2), some (.int x3)] [] (G, F, I, J) b post px else ip_WP 30 58 [some (.ref x0), some (.int x1), some (.int x2), some (.int x3)] [] (G, F, I, J) b post px := ip_s_ic_ne f30_55 rfl
theorem f30_58 : ip_fetch 30 58 = some (.iinc 3 1, 3) := by decide +kernel
theorem s30_58 {x0 : Nat} {x1 : Int32} {x2 : Int32} {x3 : Int32} : ip_WP 30 58 [some (.ref x0), some (.int x1), some (.int x2), some (.int x3)] [] (G, F, I, J) b post px ↔ ip_WP 30 61 [some (.ref x0), some (.int x1), some (.int x2), some (.int (x3 + 1))] [] (G, F, I, J) b post px := ip_s_iinc f30_58 rfl (by decide)
theorem f30_61 : ip_fetch 30 61 = some (.goto (-49), 3) := by decide +kernel
theorem s30_61 {x0 : Nat} {x1 : Int32} {x2 : Int32} {x3 : Int32} : ip_WP 30 61 [some (.ref x0), some (.int x1), some (.int x2), some (.int x3)] [] (G, F, I, J) b post px ↔ ip_WP 30 12 [some (.ref x0), some (.int x1), some (.int x2), some (.int x3)] [] (G, F, I, J) b post px := ip_nx_iff ((ip_st_of f30_61).trans rfl)
theorem f30_64 : ip_fetch 30 64 = some (.aload_n 0, 1) := by decide +kernel
theorem s30_64 {x0 : Nat} {x1 : Int32} {x2 : Int32} {x3 : Int32} : ip_WP 30 64 [some (.ref x0), some (.int x1), some (.int x2), some (.int x3)] [] (G, F, I, J) b post px ↔ ip_WP 30 65 [some (.ref x0), some (.int x1), some (.int x2), some (.int x3)] [.ref x0] (G, F, I, J) b post px := ip_nx_iff ((ip_st_of f30_64).trans rfl)
theorem f30_65 : ip_fetch 30 65 = some (.getfield 7, 3) := by decide +kernel
set_option maxRecDepth 100000 in
theorem s30_65 {x0 : Nat} {x1 : Int32} {x2 : Int32} {x3 : Int32} {s0 : Nat} : ip_WP 30 65 [some (.ref x0), some (.int x1), some (.int x2), some (.int x3)] [.ref s0] (G, F, I, J) b post px ↔ (ip_isO G s0 1 = true ∧ ip_WP 30 68 [some (.ref x0), some (.int x1), some (.int x2), some (.int x3)] [F s0 0] (G, F, I, J) b post px) := ip_s_getf f30_65 (by decide +kernel)
theorem f30_68 : ip_fetch 30 68 = some (.iload_n 1, 1) := by decide +kernel
theorem s30_68 {x0 : Nat} {x1 : Int32} {x2 : Int32} {x3 : Int32} {s0 : Nat} : ip_WP 30 68 [some (.ref x0), some (.int x1), some (.int x2), some (.int x3)] [.ref s0] (G, F, I, J) b post px ↔ ip_WP 30 69 [some (.ref x0), some (.int x1), some (.int x2), some (.int x3)] [.int x1, .ref s0] (G, F, I, J) b post px := ip_nx_iff ((ip_st_of f30_68).trans rfl)
theorem f30_69 : ip_fetch 30 69 = some (.iload_n 3, 1) := by decide +kernel
theorem s30_69 {x0 : Nat} {x1 : Int32} {x2 : Int32} {x3 : Int32} {s0 : Nat} {s1 : Int32} : ip_WP 30 69 [some (.ref x0), some (.int x1), some (.int x2), some (.int x3)] [.int s1, .ref s0] (G, F, I, J) b post px ↔ ip_WP 30 70 [some (.ref x0), some (.int x1), some (.int x2), some (.int x3)] [.int x3, .int s1, .ref s0] (G, F, I, J) b post px := ip_nx_iff ((ip_st_of f30_69).trans rfl)
theorem f30_70 : ip_fetch 30 70 = some (.iadd, 1) := by decide +kernel
theorem s30_70 {x0 : Nat} {x1 : Int32} {x2 : Int32} {x3 : Int32} {s0 : Nat} {s1 : Int32} {s2 : Int32} : ip_WP 30 70 [some (.ref x0), some (.int x1), some (.int x2), some (.int x3)] [.int s2, .int s1, .ref s0] (G, F, I, J) b post px ↔ ip_WP 30 71 [some (.ref x0), some (.int x1), some (.int x2), some (.int x3)] [.int (s1 + s2), .ref s0] (G, F, I, J) b post px := ip_nx_iff ((ip_st_of f30_70).trans rfl)
theorem f30_71 : ip_fetch 30 71 = some (.iaload, 1) := by decide +kernel
theorem s30_71 {x0 : Nat} {x1 : Int32} {x2 : Int32} {x3 : Int32} {s0 : Nat} {s1 : Int32} : ip_WP 30 71 [some (.ref x0), some (.int x1), some (.int x2), some (.int x3)] [.int s1, .ref s0] (G, F, I, J) b post px ↔ (ip_inA G s0 0 s1 = true ∧ ip_WP 30 72 [some (.ref x0), some (.int x1), some (.int x2), some (.int x3)] [.int (I s0 s1.toNatClampNeg)] (G, F, I, J) b post px) := ip_ck_iff ((ip_st_of f30_71).trans rfl) ip_nx_iff
theorem f30_72 : ip_fetch 30 72 = some (.ifCond .ne 18, 3) := by decide +kernel
theorem s30_72 {x0 : Nat} {x1 : Int32} {x2 : Int32} {x3 : Int32} {s0 : Int32} : ip_WP 30 72 [some (.ref x0), some (.int x1), some (.int x2), some (.int x3)] [.int s0] (G, F, I, J) b post px ↔ if ¬ s0 = 0 then ip_WP 30 90 [some (.ref x0), some (.int x1), some (.int x2), some (.int x3)] [] (G, F, I, J) b post px else ip_WP 30 75 [some (.ref x0), some (.int x1), some (.int x2), some (.int x3)] [] (G, F, I, J) b post px := ip_s_if_ne f30_72 rfl
theorem f30_75 : ip_fetch 30 75 = some (.aload_n 0, 1) := by decide +kernel
theorem s30_75 {x0 : Nat} {x1 : Int32} {x2 : Int32} {x3 : Int32} : ip_WP 30 75 [some (.ref x0), some (.int x1), some (.int x2), some (.int x3)] [] (G, F, I, J) b post px ↔ ip_WP 30 76 [some (.ref x0), some (.int x1), some (.int x2), some (.int x3)] [.ref x0] (G, F, I, J) b post px := ip_nx_iff ((ip_st_of f30_75).trans rfl)
theorem f30_76 : ip_fetch 30 76 = some (.getfield 117, 3) := by decide +kernel
set_option maxRecDepth 100000 in
theorem s30_76 {x0 : Nat} {x1 : Int32} {x2 : Int32} {x3 : Int32} {s0 : Nat} : ip_WP 30 76 [some (.ref x0), some (.int x1), some (.int x2), some (.int x3)] [.ref s0] (G, F, I, J) b post px ↔ (ip_isO G s0 1 = true ∧ ip_WP 30 79 [some (.ref x0), some (.int x1), some (.int x2), some (.int x3)] [F s0 36] (G, F, I, J) b post px) := ip_s_getf f30_76 (by decide +kernel)
theorem f30_79 : ip_fetch 30 79 = some (.iload_n 3, 1) := by decide +kernel
theorem s30_79 {x0 : Nat} {x1 : Int32} {x2 : Int32} {x3 : Int32} {s0 : Int32} : ip_WP 30 79 [some (.ref x0), some (.int x1), some (.int x2), some (.int x3)] [.int s0] (G, F, I, J) b post px ↔ ip_WP 30 80 [some (.ref x0), some (.int x1), some (.int x2), some (.int x3)] [.int x3, .int s0] (G, F, I, J) b post px := ip_nx_iff ((ip_st_of f30_79).trans rfl)
theorem f30_80 : ip_fetch 30 80 = some (.iadd, 1) := by decide +kernel
theorem s30_80 {x0 : Nat} {x1 : Int32} {x2 : Int32} {x3 : Int32} {s0 : Int32} {s1 : Int32} : ip_WP 30 80 [some (.ref x0), some (.int x1), some (.int x2), some (.int x3)] [.int s1, .int s0] (G, F, I, J) b post px ↔ ip_WP 30 81 [some (.ref x0), some (.int x1), some (.int x2), some (.int x3)] [.int (s0 + s1)] (G, F, I, J) b post px := ip_nx_iff ((ip_st_of f30_80).trans rfl)
theorem f30_81 : ip_fetch 30 81 = some (.aload_n 0, 1) := by decide +kernel
theorem s30_81 {x0 : Nat} {x1 : Int32} {x2 : Int32} {x3 : Int32} {s0 : Int32} : ip_WP 30 81 [some (.ref x0), some (.int x1), some (.int x2), some (.int x3)] [.int s0] (G, F, I, J) b post px ↔ ip_WP 30 82 [some (.ref x0), some (.int x1), some (.int x2), some (.int x3)] [.ref x0, .int s0] (G, F, I, J) b post px := ip_nx_iff ((ip_st_of f30_81).trans rfl)
theorem f30_82 : ip_fetch 30 82 = some (.getfield 107, 3) := by decide +kernel
set_option maxRecDepth 100000 in
theorem s30_82 {x0 : Nat} {x1 : Int32} {x2 : Int32} {x3 : Int32} {s0 : Int32} {s1 : Nat} : ip_WP 30 82 [some (.ref x0), some (.int x1), some (.int x2), some (.int x3)] [.ref s1, .int s0] (G, F, I, J) b post px ↔ (ip_isO G s1 1 = true ∧ ip_WP 30 85 [some (.ref x0), some (.int x1), some (.int x2), some (.int x3)] [F s1 37, .int s0] (G, F, I, J) b post px) := ip_s_getf f30_82 (by decide +kernel)
theorem f30_85 : ip_fetch 30 85 = some (.if_icmp .ne 5, 3) := by decide +kernel
theorem s30_85 {x0 : Nat} {x1 : Int32} {x2 : Int32} {x3 : Int32} {s0 : Int32} {s1 : Int32} : ip_WP 30 85 [some (.ref x0), some (.int x1), some (.int x2), some (.int x3)] [.int s1, .int s0] (G, F, I, J) b post px ↔ if ¬ s0 = s1 then ip_WP 30 90 [some (.ref x0), some (.int x1), some (.int x2), some (.int x3)] [] (G, F, I, J) b post px else ip_WP 30 88 [some (.ref x0), some (.int x1), some (.int x2), some (.int x3)] [] (G, F, I, J) b post px := ip_s_ic_ne f30_85 rfl
theorem f30_88 : ip_fetch 30 88 = some (.iload_n 2, 1) := by decide +kernel
theorem s30_88 {x0 : Nat} {x1 : Int32} {x2 : Int32} {x3 : Int32} : ip_WP 30 88 [some (.ref x0), some (.int x1), some (.int x2), some (.int x3)] [] (G, F, I, J) b post px ↔ ip_WP 30 89 [some (.ref x0), some (.int x1), some (.int x2), some (.int x3)] [.int x2] (G, F, I, J) b post px := ip_nx_iff ((ip_st_of f30_88).trans rfl)
theorem f30_89 : ip_fetch 30 89 = some (.ireturn, 1) := by decide +kernel
theorem s30_89 {x0 : Nat} {x1 : Int32} {x2 : Int32} {x3 : Int32} {s0 : Int32} : ip_WP 30 89 [some (.ref x0), some (.int x1), some (.int x2), some (.int x3)] [.int s0] (G, F, I, J) b post px ↔ post (some (.int s0)) (G, F, I, J) := ip_rt_iff ((ip_st_of f30_89).trans rfl)
theorem f30_90 : ip_fetch 30 90 = some (.aload_n 0, 1) := by decide +kernel
theorem s30_90 {x0 : Nat} {x1 : Int32} {x2 : Int32} {x3 : Int32} : ip_WP 30 90 [some (.ref x0), some (.int x1), some (.int x2), some (.int x3)] [] (G, F, I, J) b post px ↔ ip_WP 30 91 [some (.ref x0), some (.int x1), some (.int x2), some (.int x3)] [.ref x0] (G, F, I, J) b post px := ip_nx_iff ((ip_st_of f30_90).trans rfl)
theorem f30_91 : ip_fetch 30 91 = some (.getfield 7, 3) := by decide +kernel
set_option maxRecDepth 100000 in
theorem s30_91 {x0 : Nat} {x1 : Int32} {x2 : Int32} {x3 : Int32} {s0 : Nat} : ip_WP 30 91 [some (.ref x0), some (.int x1), some (.int x2), some (.int x3)] [.ref s0] (G, F, I, J) b post px ↔ (ip_isO G s0 1 = true ∧ ip_WP 30 94 [some (.ref x0), some (.int x1), some (.int x2), some (.int x3)] [F s0 0] (G, F, I, J) b post px) := ip_s_getf f30_91 (by decide +kernel)
theorem f30_94 : ip_fetch 30 94 = some (.iload_n 1, 1) := by decide +kernel
theorem s30_94 {x0 : Nat} {x1 : Int32} {x2 : Int32} {x3 : Int32} {s0 : Nat} : ip_WP 30 94 [some (.ref x0), some (.int x1), some (.int x2), some (.int x3)] [.ref s0] (G, F, I, J) b post px ↔ ip_WP 30 95 [some (.ref x0), some (.int x1), some (.int x2), some (.int x3)] [.int x1, .ref s0] (G, F, I, J) b post px := ip_nx_iff ((ip_st_of f30_94).trans rfl)
theorem f30_95 : ip_fetch 30 95 = some (.iaload, 1) := by decide +kernel
theorem s30_95 {x0 : Nat} {x1 : Int32} {x2 : Int32} {x3 : Int32} {s0 : Nat} {s1 : Int32} : ip_WP 30 95 [some (.ref x0), some (.int x1), some (.int x2), some (.int x3)] [.int s1, .ref s0] (G, F, I, J) b post px ↔ (ip_inA G s0 0 s1 = true ∧ ip_WP 30 96 [some (.ref x0), some (.int x1), some (.int x2), some (.int x3)] [.int (I s0 s1.toNatClampNeg)] (G, F, I, J) b post px) := ip_ck_iff ((ip_st_of f30_95).trans rfl) ip_nx_iff
theorem f30_96 : ip_fetch 30 96 = some (.ifCond .eq 9, 3) := by decide +kernel
theorem s30_96 {x0 : Nat} {x1 : Int32} {x2 : Int32} {x3 : Int32} {s0 : Int32} : ip_WP 30 96 [some (.ref x0), some (.int x1), some (.int x2), some (.int x3)] [.int s0] (G, F, I, J) b post px ↔ if s0 = 0 then ip_WP 30 105 [some (.ref x0), some (.int x1), some (.int x2), some (.int x3)] [] (G, F, I, J) b post px else ip_WP 30 99 [some (.ref x0), some (.int x1), some (.int x2), some (.int x3)] [] (G, F, I, J) b post px := ip_s_if_eq f30_96 rfl
theorem f30_99 : ip_fetch 30 99 = some (.iinc 1 1, 3) := by decide +kernel
theorem s30_99 {x0 : Nat} {x1 : Int32} {x2 : Int32} {x3 : Int32} : ip_WP 30 99 [some (.ref x0), some (.int x1), some (.int x2), some (.int x3)] [] (G, F, I, J) b post px ↔ ip_WP 30 102 [some (.ref x0), some (.int (x1 + 1)), some (.int x2), some (.int x3)] [] (G, F, I, J) b post px := ip_s_iinc f30_99 rfl (by decide)
theorem f30_102 : ip_fetch 30 102 = some (.goto (-12), 3) := by decide +kernel
theorem s30_102 {x0 : Nat} {x1 : Int32} {x2 : Int32} {x3 : Int32} : ip_WP 30 102 [some (.ref x0), some (.int x1), some (.int x2), some (.int x3)] [] (G, F, I, J) b post px ↔ ip_WP 30 90 [some (.ref x0), some (.int x1), some (.int x2), some (.int x3)] [] (G, F, I, J) b post px := ip_nx_iff ((ip_st_of f30_102).trans rfl)
theorem f30_105 : ip_fetch 30 105 = some (.iinc 1 1, 3) := by decide +kernel
theorem s30_105 {x0 : Nat} {x1 : Int32} {x2 : Int32} {x3 : Int32} : ip_WP 30 105 [some (.ref x0), some (.int x1), some (.int x2), some (.int x3)] [] (G, F, I, J) b post px ↔ ip_WP 30 108 [some (.ref x0), some (.int (x1 + 1)), some (.int x2), some (.int x3)] [] (G, F, I, J) b post px := ip_s_iinc f30_105 rfl (by decide)
theorem f30_108 : ip_fetch 30 108 = some (.iinc 2 1, 3) := by decide +kernel
theorem s30_108 {x0 : Nat} {x1 : Int32} {x2 : Int32} {x3 : Int32} : ip_WP 30 108 [some (.ref x0), some (.int x1), some (.int x2), some (.int x3)] [] (G, F, I, J) b post px ↔ ip_WP 30 111 [some (.ref x0), some (.int x1), some (.int (x2 + 1)), some (.int x3)] [] (G, F, I, J) b post px := ip_s_iinc f30_108 rfl (by decide)
theorem f30_111 : ip_fetch 30 111 = some (.goto (-107), 3) := by decide +kernel
theorem s30_111 {x0 : Nat} {x1 : Int32} {x2 : Int32} {x3 : Int32} : ip_WP 30 111 [some (.ref x0), some (.int x1), some (.int x2), some (.int x3)] [] (G, F, I, J) b post px ↔ ip_WP 30 4 [some (.ref x0), some (.int x1), some (.int x2), some (.int x3)] [] (G, F, I, J) b post px := ip_nx_iff ((ip_st_of f30_111).trans rfl)
theorem f30_114 : ip_fetch 30 114 = some (.iconst (-1), 1) := by decide +kernel
theorem s30_114 {x0 : Nat} {x1 : Int32} {x2 : Int32} {x3 : Option Value} : ip_WP 30 114 [some (.ref x0), some (.int x1), some (.int x2), x3] [] (G, F, I, J) b post px ↔ ip_WP 30 115 [some (.ref x0), some (.int x1), some (.int x2), x3] [.int (-1)] (G, F, I, J) b post px := ip_s_iconst f30_114 (by decide)
theorem f30_115 : ip_fetch 30 115 = some (.ireturn, 1) := by decide +kernel
theorem s30_115 {x0 : Nat} {x1 : Int32} {x2 : Int32} {x3 : Option Value} {s0 : Int32} : ip_WP 30 115 [some (.ref x0), some (.int x1), some (.int x2), x3] [.int s0] (G, F, I, J) b post px ↔ post (some (.int s0)) (G, F, I, J) := ip_rt_iff ((ip_st_of f30_115).trans rfl)
theorem f31_0 : ip_fetch 31 0 = some (.aload_n 0, 1) := by decide +kernel
theorem s31_0 {x0 : Nat} {x1 : Option Value} : ip_WP 31 0 [some (.ref x0), x1] [] (G, F, I, J) b post px ↔ ip_WP 31 1 [some (.ref x0), x1] [.ref x0] (G, F, I, J) b post px := ip_nx_iff ((ip_st_of f31_0).trans rfl)
theorem f31_1 : ip_fetch 31 1 = some (.invokevirtual 120, 3) := by decide +kernel
set_option maxRecDepth 100000 in
theorem s31_1 {x0 : Nat} {x1 : Option Value} {s0 : Nat} : ip_WP 31 1 [some (.ref x0), x1] [.ref s0] (G, F, I, J) b post px ↔ (ip_isO G s0 1 = true ∧ ip_WP 29 0 [some (.ref s0), none] [] (G, F, I, J) (0, 0) (fun r h' => ip_WP 31 4 [some (.ref x0), x1] (r.toList ++ []) h' b post px) (fun _ _ => False)) := ip_ck_iff (x := ip_cl 29 [some (.ref s0), none] [] (0, 0) b) ((ip_st_of f31_1).trans rfl) (ip_cl_iff)
theorem f31_4 : ip_fetch 31 4 = some (.aload_n 0, 1) := by decide +kernel
theorem s31_4 {x0 : Nat} {x1 : Option Value} : ip_WP 31 4 [some (.ref x0), x1] [] (G, F, I, J) b post px ↔ ip_WP 31 5 [some (.ref x0), x1] [.ref x0] (G, F, I, J) b post px := ip_nx_iff ((ip_st_of f31_4).trans rfl)
theorem f31_5 : ip_fetch 31 5 = some (.aload_n 0, 1) := by decide +kernel
theorem s31_5 {x0 : Nat} {x1 : Option Value} {s0 : Nat} : ip_WP 31 5 [some (.ref x0), x1] [.ref s0] (G, F, I, J) b post px ↔ ip_WP 31 6 [some (.ref x0), x1] [.ref x0, .ref s0] (G, F, I, J) b post px := ip_nx_iff ((ip_st_of f31_5).trans rfl)
theorem f31_6 : ip_fetch 31 6 = some (.getfield 107, 3) := by decide +kernel
set_option maxRecDepth 100000 in
theorem s31_6 {x0 : Nat} {x1 : Option Value} {s0 : Nat} {s1 : Nat} : ip_WP 31 6 [some (.ref x0), x1] [.ref s1, .ref s0] (G, F, I, J) b post px ↔ (ip_isO G s1 1 = true ∧ ip_WP 31 9 [some (.ref x0), x1] [F s1 37, .ref s0] (G, F, I, J) b post px) := ip_s_getf f31_6 (by decide +kernel)
theorem f31_9 : ip_fetch 31 9 = some (.putfield 117, 3) := by decide +kernel
set_option maxRecDepth 100000 in
theorem s31_9 {x0 : Nat} {x1 : Option Value} {s0 : Nat} {s1 : Int32} : ip_WP 31 9 [some (.ref x0), x1] [.int s1, .ref s0] (G, F, I, J) b post px ↔ (ip_isO G s0 1 = true ∧ ip_WP 31 12 [some (.ref x0), x1] [] (G, ip_up F s0 36 (.int s1), I, J) b post px) := ip_s_put f31_9 (by decide +kernel) rfl
theorem f31_12 : ip_fetch 31 12 = some (.aload_n 0, 1) := by decide +kernel
theorem s31_12 {x0 : Nat} {x1 : Option Value} : ip_WP 31 12 [some (.ref x0), x1] [] (G, F, I, J) b post px ↔ ip_WP 31 13 [some (.ref x0), x1] [.ref x0] (G, F, I, J) b post px := ip_nx_iff ((ip_st_of f31_12).trans rfl)
theorem f31_13 : ip_fetch 31 13 = some (.iconst 0, 1) := by decide +kernel
theorem s31_13 {x0 : Nat} {x1 : Option Value} {s0 : Nat} : ip_WP 31 13 [some (.ref x0), x1] [.ref s0] (G, F, I, J) b post px ↔ ip_WP 31 14 [some (.ref x0), x1] [.int 0, .ref s0] (G, F, I, J) b post px := ip_s_iconst f31_13 (by decide)
theorem f31_14 : ip_fetch 31 14 = some (.putfield 123, 3) := by decide +kernel
set_option maxRecDepth 100000 in
theorem s31_14 {x0 : Nat} {x1 : Option Value} {s0 : Nat} {s1 : Int32} : ip_WP 31 14 [some (.ref x0), x1] [.int s1, .ref s0] (G, F, I, J) b post px ↔ (ip_isO G s0 1 = true ∧ ip_WP 31 17 [some (.ref x0), x1] [] (G, ip_up F s0 35 (.int s1), I, J) b post px) := ip_s_put f31_14 (by decide +kernel) rfl
theorem f31_17 : ip_fetch 31 17 = some (.aload_n 0, 1) := by decide +kernel
theorem s31_17 {x0 : Nat} {x1 : Option Value} : ip_WP 31 17 [some (.ref x0), x1] [] (G, F, I, J) b post px ↔ ip_WP 31 18 [some (.ref x0), x1] [.ref x0] (G, F, I, J) b post px := ip_nx_iff ((ip_st_of f31_17).trans rfl)
theorem f31_18 : ip_fetch 31 18 = some (.getfield 117, 3) := by decide +kernel
set_option maxRecDepth 100000 in
theorem s31_18 {x0 : Nat} {x1 : Option Value} {s0 : Nat} : ip_WP 31 18 [some (.ref x0), x1] [.ref s0] (G, F, I, J) b post px ↔ (ip_isO G s0 1 = true ∧ ip_WP 31 21 [some (.ref x0), x1] [F s0 36] (G, F, I, J) b post px) := ip_s_getf f31_18 (by decide +kernel)
theorem f31_21 : ip_fetch 31 21 = some (.aload_n 0, 1) := by decide +kernel
theorem s31_21 {x0 : Nat} {x1 : Option Value} {s0 : Int32} : ip_WP 31 21 [some (.ref x0), x1] [.int s0] (G, F, I, J) b post px ↔ ip_WP 31 22 [some (.ref x0), x1] [.ref x0, .int s0] (G, F, I, J) b post px := ip_nx_iff ((ip_st_of f31_21).trans rfl)
theorem f31_22 : ip_fetch 31 22 = some (.getfield 110, 3) := by decide +kernel
set_option maxRecDepth 100000 in
theorem s31_22 {x0 : Nat} {x1 : Option Value} {s0 : Int32} {s1 : Nat} : ip_WP 31 22 [some (.ref x0), x1] [.ref s1, .int s0] (G, F, I, J) b post px ↔ (ip_isO G s1 1 = true ∧ ip_WP 31 25 [some (.ref x0), x1] [F s1 8, .int s0] (G, F, I, J) b post px) := ip_s_getf f31_22 (by decide +kernel)
theorem f31_25 : ip_fetch 31 25 = some (.if_icmp .ne 4, 3) := by decide +kernel
theorem s31_25 {x0 : Nat} {x1 : Option Value} {s0 : Int32} {s1 : Int32} : ip_WP 31 25 [some (.ref x0), x1] [.int s1, .int s0] (G, F, I, J) b post px ↔ if ¬ s0 = s1 then ip_WP 31 29 [some (.ref x0), x1] [] (G, F, I, J) b post px else ip_WP 31 28 [some (.ref x0), x1] [] (G, F, I, J) b post px := ip_s_ic_ne f31_25 rfl
theorem f31_28 : ip_fetch 31 28 = some (.return_, 1) := by decide +kernel
theorem s31_28 {x0 : Nat} {x1 : Option Value} : ip_WP 31 28 [some (.ref x0), x1] [] (G, F, I, J) b post px ↔ post none (G, F, I, J) := ip_rt_iff ((ip_st_of f31_28).trans rfl)
theorem f31_29 : ip_fetch 31 29 = some (.aload_n 0, 1) := by decide +kernel
theorem s31_29 {x0 : Nat} {x1 : Option Value} : ip_WP 31 29 [some (.ref x0), x1] [] (G, F, I, J) b post px ↔ ip_WP 31 30 [some (.ref x0), x1] [.ref x0] (G, F, I, J) b post px := ip_nx_iff ((ip_st_of f31_29).trans rfl)
theorem f31_30 : ip_fetch 31 30 = some (.getfield 19, 3) := by decide +kernel
set_option maxRecDepth 100000 in
theorem s31_30 {x0 : Nat} {x1 : Option Value} {s0 : Nat} : ip_WP 31 30 [some (.ref x0), x1] [.ref s0] (G, F, I, J) b post px ↔ (ip_isO G s0 1 = true ∧ ip_WP 31 33 [some (.ref x0), x1] [F s0 11] (G, F, I, J) b post px) := ip_s_getf f31_30 (by decide +kernel)
theorem f31_33 : ip_fetch 31 33 = some (.aload_n 0, 1) := by decide +kernel
theorem s31_33 {x0 : Nat} {x1 : Option Value} {s0 : Nat} : ip_WP 31 33 [some (.ref x0), x1] [.ref s0] (G, F, I, J) b post px ↔ ip_WP 31 34 [some (.ref x0), x1] [.ref x0, .ref s0] (G, F, I, J) b post px := ip_nx_iff ((ip_st_of f31_33).trans rfl)
theorem f31_34 : ip_fetch 31 34 = some (.getfield 117, 3) := by decide +kernel
set_option maxRecDepth 100000 in
theorem s31_34 {x0 : Nat} {x1 : Option Value} {s0 : Nat} {s1 : Nat} : ip_WP 31 34 [some (.ref x0), x1] [.ref s1, .ref s0] (G, F, I, J) b post px ↔ (ip_isO G s1 1 = true ∧ ip_WP 31 37 [some (.ref x0), x1] [F s1 36, .ref s0] (G, F, I, J) b post px) := ip_s_getf f31_34 (by decide +kernel)
theorem f31_37 : ip_fetch 31 37 = some (.iaload, 1) := by decide +kernel
theorem s31_37 {x0 : Nat} {x1 : Option Value} {s0 : Nat} {s1 : Int32} : ip_WP 31 37 [some (.ref x0), x1] [.int s1, .ref s0] (G, F, I, J) b post px ↔ (ip_inA G s0 0 s1 = true ∧ ip_WP 31 38 [some (.ref x0), x1] [.int (I s0 s1.toNatClampNeg)] (G, F, I, J) b post px) := ip_ck_iff ((ip_st_of f31_37).trans rfl) ip_nx_iff
theorem f31_38 : ip_fetch 31 38 = some (.istore_n 1, 1) := by decide +kernel
theorem s31_38 {x0 : Nat} {x1 : Option Value} {s0 : Int32} : ip_WP 31 38 [some (.ref x0), x1] [.int s0] (G, F, I, J) b post px ↔ ip_WP 31 39 [some (.ref x0), some (.int s0)] [] (G, F, I, J) b post px := ip_nx_iff ((ip_st_of f31_38).trans rfl)
theorem f31_39 : ip_fetch 31 39 = some (.iload_n 1, 1) := by decide +kernel
theorem s31_39 {x0 : Nat} {x1 : Int32} : ip_WP 31 39 [some (.ref x0), some (.int x1)] [] (G, F, I, J) b post px ↔ ip_WP 31 40 [some (.ref x0), some (.int x1)] [.int x1] (G, F, I, J) b post px := ip_nx_iff ((ip_st_of f31_39).trans rfl)
theorem f31_40 : ip_fetch 31 40 = some (.invokestatic 126, 3) := by decide +kernel
set_option maxRecDepth 100000 in
theorem s31_40 {x0 : Nat} {x1 : Int32} {s0 : Int32} : ip_WP 31 40 [some (.ref x0), some (.int x1)] [.int s0] (G, F, I, J) b post px ↔ ip_WP 26 0 [some (.int s0)] [] (G, F, I, J) (0, 0) (fun r h' => ip_WP 31 43 [some (.ref x0), some (.int x1)] (r.toList ++ []) h' b post px) (fun _ _ => False) := ip_cl_iff ((ip_st_of f31_40).trans (rfl : _ = ip_cl 26 [some (.int s0)] [] (0, 0) b))
theorem f31_43 : ip_fetch 31 43 = some (.ifCond .eq 107, 3) := by decide +kernel
theorem s31_43 {x0 : Nat} {x1 : Int32} {s0 : Int32} : ip_WP 31 43 [some (.ref x0), some (.int x1)] [.int s0] (G, F, I, J) b post px ↔ if s0 = 0 then ip_WP 31 150 [some (.ref x0), some (.int x1)] [] (G, F, I, J) b post px else ip_WP 31 46 [some (.ref x0), some (.int x1)] [] (G, F, I, J) b post px := ip_s_if_eq f31_43 rfl
theorem f31_46 : ip_fetch 31 46 = some (.aload_n 0, 1) := by decide +kernel
theorem s31_46 {x0 : Nat} {x1 : Int32} : ip_WP 31 46 [some (.ref x0), some (.int x1)] [] (G, F, I, J) b post px ↔ ip_WP 31 47 [some (.ref x0), some (.int x1)] [.ref x0] (G, F, I, J) b post px := ip_nx_iff ((ip_st_of f31_46).trans rfl)
theorem f31_47 : ip_fetch 31 47 = some (.getfield 107, 3) := by decide +kernel
set_option maxRecDepth 100000 in
theorem s31_47 {x0 : Nat} {x1 : Int32} {s0 : Nat} : ip_WP 31 47 [some (.ref x0), some (.int x1)] [.ref s0] (G, F, I, J) b post px ↔ (ip_isO G s0 1 = true ∧ ip_WP 31 50 [some (.ref x0), some (.int x1)] [F s0 37] (G, F, I, J) b post px) := ip_s_getf f31_47 (by decide +kernel)
theorem f31_50 : ip_fetch 31 50 = some (.aload_n 0, 1) := by decide +kernel
theorem s31_50 {x0 : Nat} {x1 : Int32} {s0 : Int32} : ip_WP 31 50 [some (.ref x0), some (.int x1)] [.int s0] (G, F, I, J) b post px ↔ ip_WP 31 51 [some (.ref x0), some (.int x1)] [.ref x0, .int s0] (G, F, I, J) b post px := ip_nx_iff ((ip_st_of f31_50).trans rfl)
theorem f31_51 : ip_fetch 31 51 = some (.getfield 110, 3) := by decide +kernel
set_option maxRecDepth 100000 in
theorem s31_51 {x0 : Nat} {x1 : Int32} {s0 : Int32} {s1 : Nat} : ip_WP 31 51 [some (.ref x0), some (.int x1)] [.ref s1, .int s0] (G, F, I, J) b post px ↔ (ip_isO G s1 1 = true ∧ ip_WP 31 54 [some (.ref x0), some (.int x1)] [F s1 8, .int s0] (G, F, I, J) b post px) := ip_s_getf f31_51 (by decide +kernel)
theorem f31_54 : ip_fetch 31 54 = some (.if_icmp .ge 46, 3) := by decide +kernel
theorem s31_54 {x0 : Nat} {x1 : Int32} {s0 : Int32} {s1 : Int32} : ip_WP 31 54 [some (.ref x0), some (.int x1)] [.int s1, .int s0] (G, F, I, J) b post px ↔ if s1 ≤ s0 then ip_WP 31 100 [some (.ref x0), some (.int x1)] [] (G, F, I, J) b post px else ip_WP 31 57 [some (.ref x0), some (.int x1)] [] (G, F, I, J) b post px := ip_s_ic_ge f31_54 rfl
theorem f31_57 : ip_fetch 31 57 = some (.aload_n 0, 1) := by decide +kernel
theorem s31_57 {x0 : Nat} {x1 : Int32} : ip_WP 31 57 [some (.ref x0), some (.int x1)] [] (G, F, I, J) b post px ↔ ip_WP 31 58 [some (.ref x0), some (.int x1)] [.ref x0] (G, F, I, J) b post px := ip_nx_iff ((ip_st_of f31_57).trans rfl)
theorem f31_58 : ip_fetch 31 58 = some (.getfield 19, 3) := by decide +kernel
set_option maxRecDepth 100000 in
theorem s31_58 {x0 : Nat} {x1 : Int32} {s0 : Nat} : ip_WP 31 58 [some (.ref x0), some (.int x1)] [.ref s0] (G, F, I, J) b post px ↔ (ip_isO G s0 1 = true ∧ ip_WP 31 61 [some (.ref x0), some (.int x1)] [F s0 11] (G, F, I, J) b post px) := ip_s_getf f31_58 (by decide +kernel)
theorem f31_61 : ip_fetch 31 61 = some (.aload_n 0, 1) := by decide +kernel
theorem s31_61 {x0 : Nat} {x1 : Int32} {s0 : Nat} : ip_WP 31 61 [some (.ref x0), some (.int x1)] [.ref s0] (G, F, I, J) b post px ↔ ip_WP 31 62 [some (.ref x0), some (.int x1)] [.ref x0, .ref s0] (G, F, I, J) b post px := ip_nx_iff ((ip_st_of f31_61).trans rfl)
theorem f31_62 : ip_fetch 31 62 = some (.getfield 107, 3) := by decide +kernel
set_option maxRecDepth 100000 in
theorem s31_62 {x0 : Nat} {x1 : Int32} {s0 : Nat} {s1 : Nat} : ip_WP 31 62 [some (.ref x0), some (.int x1)] [.ref s1, .ref s0] (G, F, I, J) b post px ↔ (ip_isO G s1 1 = true ∧ ip_WP 31 65 [some (.ref x0), some (.int x1)] [F s1 37, .ref s0] (G, F, I, J) b post px) := ip_s_getf f31_62 (by decide +kernel)
theorem f31_65 : ip_fetch 31 65 = some (.iaload, 1) := by decide +kernel
theorem s31_65 {x0 : Nat} {x1 : Int32} {s0 : Nat} {s1 : Int32} : ip_WP 31 65 [some (.ref x0), some (.int x1)] [.int s1, .ref s0] (G, F, I, J) b post px ↔ (ip_inA G s0 0 s1 = true ∧ ip_WP 31 66 [some (.ref x0), some (.int x1)] [.int (I s0 s1.toNatClampNeg)] (G, F, I, J) b post px) := ip_ck_iff ((ip_st_of f31_65).trans rfl) ip_nx_iff
theorem f31_66 : ip_fetch 31 66 = some (.invokestatic 126, 3) := by decide +kernel
set_option maxRecDepth 100000 in
theorem s31_66 {x0 : Nat} {x1 : Int32} {s0 : Int32} : ip_WP 31 66 [some (.ref x0), some (.int x1)] [.int s0] (G, F, I, J) b post px ↔ ip_WP 26 0 [some (.int s0)] [] (G, F, I, J) (0, 0) (fun r h' => ip_WP 31 69 [some (.ref x0), some (.int x1)] (r.toList ++ []) h' b post px) (fun _ _ => False) := ip_cl_iff ((ip_st_of f31_66).trans (rfl : _ = ip_cl 26 [some (.int s0)] [] (0, 0) b))
theorem f31_69 : ip_fetch 31 69 = some (.ifCond .ne 18, 3) := by decide +kernel
theorem s31_69 {x0 : Nat} {x1 : Int32} {s0 : Int32} : ip_WP 31 69 [some (.ref x0), some (.int x1)] [.int s0] (G, F, I, J) b post px ↔ if ¬ s0 = 0 then ip_WP 31 87 [some (.ref x0), some (.int x1)] [] (G, F, I, J) b post px else ip_WP 31 72 [some (.ref x0), some (.int x1)] [] (G, F, I, J) b post px := ip_s_if_ne f31_69 rfl
theorem f31_72 : ip_fetch 31 72 = some (.aload_n 0, 1) := by decide +kernel
theorem s31_72 {x0 : Nat} {x1 : Int32} : ip_WP 31 72 [some (.ref x0), some (.int x1)] [] (G, F, I, J) b post px ↔ ip_WP 31 73 [some (.ref x0), some (.int x1)] [.ref x0] (G, F, I, J) b post px := ip_nx_iff ((ip_st_of f31_72).trans rfl)
theorem f31_73 : ip_fetch 31 73 = some (.getfield 19, 3) := by decide +kernel
set_option maxRecDepth 100000 in
theorem s31_73 {x0 : Nat} {x1 : Int32} {s0 : Nat} : ip_WP 31 73 [some (.ref x0), some (.int x1)] [.ref s0] (G, F, I, J) b post px ↔ (ip_isO G s0 1 = true ∧ ip_WP 31 76 [some (.ref x0), some (.int x1)] [F s0 11] (G, F, I, J) b post px) := ip_s_getf f31_73 (by decide +kernel)
theorem f31_76 : ip_fetch 31 76 = some (.aload_n 0, 1) := by decide +kernel
theorem s31_76 {x0 : Nat} {x1 : Int32} {s0 : Nat} : ip_WP 31 76 [some (.ref x0), some (.int x1)] [.ref s0] (G, F, I, J) b post px ↔ ip_WP 31 77 [some (.ref x0), some (.int x1)] [.ref x0, .ref s0] (G, F, I, J) b post px := ip_nx_iff ((ip_st_of f31_76).trans rfl)
theorem f31_77 : ip_fetch 31 77 = some (.getfield 107, 3) := by decide +kernel
set_option maxRecDepth 100000 in
theorem s31_77 {x0 : Nat} {x1 : Int32} {s0 : Nat} {s1 : Nat} : ip_WP 31 77 [some (.ref x0), some (.int x1)] [.ref s1, .ref s0] (G, F, I, J) b post px ↔ (ip_isO G s1 1 = true ∧ ip_WP 31 80 [some (.ref x0), some (.int x1)] [F s1 37, .ref s0] (G, F, I, J) b post px) := ip_s_getf f31_77 (by decide +kernel)
theorem f31_80 : ip_fetch 31 80 = some (.iaload, 1) := by decide +kernel
theorem s31_80 {x0 : Nat} {x1 : Int32} {s0 : Nat} {s1 : Int32} : ip_WP 31 80 [some (.ref x0), some (.int x1)] [.int s1, .ref s0] (G, F, I, J) b post px ↔ (ip_inA G s0 0 s1 = true ∧ ip_WP 31 81 [some (.ref x0), some (.int x1)] [.int (I s0 s1.toNatClampNeg)] (G, F, I, J) b post px) := ip_ck_iff ((ip_st_of f31_80).trans rfl) ip_nx_iff
theorem f31_81 : ip_fetch 31 81 = some (.invokestatic 129, 3) := by decide +kernel
set_option maxRecDepth 100000 in
theorem s31_81 {x0 : Nat} {x1 : Int32} {s0 : Int32} : ip_WP 31 81 [some (.ref x0), some (.int x1)] [.int s0] (G, F, I, J) b post px ↔ ip_WP 27 0 [some (.int s0)] [] (G, F, I, J) (0, 0) (fun r h' => ip_WP 31 84 [some (.ref x0), some (.int x1)] (r.toList ++ []) h' b post px) (fun _ _ => False) := ip_cl_iff ((ip_st_of f31_81).trans (rfl : _ = ip_cl 27 [some (.int s0)] [] (0, 0) b))
theorem f31_84 : ip_fetch 31 84 = some (.ifCond .eq 16, 3) := by decide +kernel
theorem s31_84 {x0 : Nat} {x1 : Int32} {s0 : Int32} : ip_WP 31 84 [some (.ref x0), some (.int x1)] [.int s0] (G, F, I, J) b post px ↔ if s0 = 0 then ip_WP 31 100 [some (.ref x0), some (.int x1)] [] (G, F, I, J) b post px else ip_WP 31 87 [some (.ref x0), some (.int x1)] [] (G, F, I, J) b post px := ip_s_if_eq f31_84 rfl
theorem f31_87 : ip_fetch 31 87 = some (.aload_n 0, 1) := by decide +kernel
theorem s31_87 {x0 : Nat} {x1 : Int32} : ip_WP 31 87 [some (.ref x0), some (.int x1)] [] (G, F, I, J) b post px ↔ ip_WP 31 88 [some (.ref x0), some (.int x1)] [.ref x0] (G, F, I, J) b post px := ip_nx_iff ((ip_st_of f31_87).trans rfl)
theorem f31_88 : ip_fetch 31 88 = some (.dup, 1) := by decide +kernel
theorem s31_88 {x0 : Nat} {x1 : Int32} {s0 : Nat} : ip_WP 31 88 [some (.ref x0), some (.int x1)] [.ref s0] (G, F, I, J) b post px ↔ ip_WP 31 89 [some (.ref x0), some (.int x1)] [.ref s0, .ref s0] (G, F, I, J) b post px := ip_nx_iff ((ip_st_of f31_88).trans rfl)
theorem f31_89 : ip_fetch 31 89 = some (.getfield 107, 3) := by decide +kernel
set_option maxRecDepth 100000 in
theorem s31_89 {x0 : Nat} {x1 : Int32} {s0 : Nat} {s1 : Nat} : ip_WP 31 89 [some (.ref x0), some (.int x1)] [.ref s1, .ref s0] (G, F, I, J) b post px ↔ (ip_isO G s1 1 = true ∧ ip_WP 31 92 [some (.ref x0), some (.int x1)] [F s1 37, .ref s0] (G, F, I, J) b post px) := ip_s_getf f31_89 (by decide +kernel)
theorem f31_92 : ip_fetch 31 92 = some (.iconst 1, 1) := by decide +kernel
theorem s31_92 {x0 : Nat} {x1 : Int32} {s0 : Nat} {s1 : Int32} : ip_WP 31 92 [some (.ref x0), some (.int x1)] [.int s1, .ref s0] (G, F, I, J) b post px ↔ ip_WP 31 93 [some (.ref x0), some (.int x1)] [.int 1, .int s1, .ref s0] (G, F, I, J) b post px := ip_s_iconst f31_92 (by decide)
theorem f31_93 : ip_fetch 31 93 = some (.iadd, 1) := by decide +kernel
theorem s31_93 {x0 : Nat} {x1 : Int32} {s0 : Nat} {s1 : Int32} {s2 : Int32} : ip_WP 31 93 [some (.ref x0), some (.int x1)] [.int s2, .int s1, .ref s0] (G, F, I, J) b post px ↔ ip_WP 31 94 [some (.ref x0), some (.int x1)] [.int (s1 + s2), .ref s0] (G, F, I, J) b post px := ip_nx_iff ((ip_st_of f31_93).trans rfl)
theorem f31_94 : ip_fetch 31 94 = some (.putfield 107, 3) := by decide +kernel
set_option maxRecDepth 100000 in
theorem s31_94 {x0 : Nat} {x1 : Int32} {s0 : Nat} {s1 : Int32} : ip_WP 31 94 [some (.ref x0), some (.int x1)] [.int s1, .ref s0] (G, F, I, J) b post px ↔ (ip_isO G s0 1 = true ∧ ip_WP 31 97 [some (.ref x0), some (.int x1)] [] (G, ip_up F s0 37 (.int s1), I, J) b post px) := ip_s_put f31_94 (by decide +kernel) rfl
theorem f31_97 : ip_fetch 31 97 = some (.goto (-51), 3) := by decide +kernel
theorem s31_97 {x0 : Nat} {x1 : Int32} : ip_WP 31 97 [some (.ref x0), some (.int x1)] [] (G, F, I, J) b post px ↔ ip_WP 31 46 [some (.ref x0), some (.int x1)] [] (G, F, I, J) b post px := ip_nx_iff ((ip_st_of f31_97).trans rfl)
theorem f31_100 : ip_fetch 31 100 = some (.aload_n 0, 1) := by decide +kernel
theorem s31_100 {x0 : Nat} {x1 : Int32} : ip_WP 31 100 [some (.ref x0), some (.int x1)] [] (G, F, I, J) b post px ↔ ip_WP 31 101 [some (.ref x0), some (.int x1)] [.ref x0] (G, F, I, J) b post px := ip_nx_iff ((ip_st_of f31_100).trans rfl)
theorem f31_101 : ip_fetch 31 101 = some (.aload_n 0, 1) := by decide +kernel
theorem s31_101 {x0 : Nat} {x1 : Int32} {s0 : Nat} : ip_WP 31 101 [some (.ref x0), some (.int x1)] [.ref s0] (G, F, I, J) b post px ↔ ip_WP 31 102 [some (.ref x0), some (.int x1)] [.ref x0, .ref s0] (G, F, I, J) b post px := ip_nx_iff ((ip_st_of f31_101).trans rfl)
theorem f31_102 : ip_fetch 31 102 = some (.invokevirtual 132, 3) := by decide +kernel
set_option maxRecDepth 100000 in
theorem s31_102 {x0 : Nat} {x1 : Int32} {s0 : Nat} {s1 : Nat} : ip_WP 31 102 [some (.ref x0), some (.int x1)] [.ref s1, .ref s0] (G, F, I, J) b post px ↔ (ip_isO G s1 1 = true ∧ ip_WP 30 0 [some (.ref s1), none, none, none] [] (G, F, I, J) (0, 0) (fun r h' => ip_WP 31 105 [some (.ref x0), some (.int x1)] (r.toList ++ [.ref s0]) h' b post px) (fun _ _ => False)) := ip_ck_iff (x := ip_cl 30 [some (.ref s1), none, none, none] [.ref s0] (0, 0) b) ((ip_st_of f31_102).trans rfl) (ip_cl_iff)
theorem f31_105 : ip_fetch 31 105 = some (.putfield 136, 3) := by decide +kernel
set_option maxRecDepth 100000 in
theorem s31_105 {x0 : Nat} {x1 : Int32} {s0 : Nat} {s1 : Int32} : ip_WP 31 105 [some (.ref x0), some (.int x1)] [.int s1, .ref s0] (G, F, I, J) b post px ↔ (ip_isO G s0 1 = true ∧ ip_WP 31 108 [some (.ref x0), some (.int x1)] [] (G, ip_up F s0 38 (.int s1), I, J) b post px) := ip_s_put f31_105 (by decide +kernel) rfl
theorem f31_108 : ip_fetch 31 108 = some (.aload_n 0, 1) := by decide +kernel
theorem s31_108 {x0 : Nat} {x1 : Int32} : ip_WP 31 108 [some (.ref x0), some (.int x1)] [] (G, F, I, J) b post px ↔ ip_WP 31 109 [some (.ref x0), some (.int x1)] [.ref x0] (G, F, I, J) b post px := ip_nx_iff ((ip_st_of f31_108).trans rfl)
theorem f31_109 : ip_fetch 31 109 = some (.aload_n 0, 1) := by decide +kernel
theorem s31_109 {x0 : Nat} {x1 : Int32} {s0 : Nat} : ip_WP 31 109 [some (.ref x0), some (.int x1)] [.ref s0] (G, F, I, J) b post px ↔ ip_WP 31 110 [some (.ref x0), some (.int x1)] [.ref x0, .ref s0] (G, F, I, J) b post px := ip_nx_iff ((ip_st_of f31_109).trans rfl)
theorem f31_110 : ip_fetch 31 110 = some (.getfield 136, 3) := by decide +kernel
set_option maxRecDepth 100000 in
theorem s31_110 {x0 : Nat} {x1 : Int32} {s0 : Nat} {s1 : Nat} : ip_WP 31 110 [some (.ref x0), some (.int x1)] [.ref s1, .ref s0] (G, F, I, J) b post px ↔ (ip_isO G s1 1 = true ∧ ip_WP 31 113 [some (.ref x0), some (.int x1)] [F s1 38, .ref s0] (G, F, I, J) b post px) := ip_s_getf f31_110 (by decide +kernel)
theorem f31_113 : ip_fetch 31 113 = some (.ifCond .ge 7, 3) := by decide +kernel
theorem s31_113 {x0 : Nat} {x1 : Int32} {s0 : Nat} {s1 : Int32} : ip_WP 31 113 [some (.ref x0), some (.int x1)] [.int s1, .ref s0] (G, F, I, J) b post px ↔ if 0 ≤ s1 then ip_WP 31 120 [some (.ref x0), some (.int x1)] [.ref s0] (G, F, I, J) b post px else ip_WP 31 116 [some (.ref x0), some (.int x1)] [.ref s0] (G, F, I, J) b post px := ip_s_if_ge f31_113 rfl
theorem f31_116 : ip_fetch 31 116 = some (.iconst 1, 1) := by decide +kernel
theorem s31_116 {x0 : Nat} {x1 : Int32} {s0 : Nat} : ip_WP 31 116 [some (.ref x0), some (.int x1)] [.ref s0] (G, F, I, J) b post px ↔ ip_WP 31 117 [some (.ref x0), some (.int x1)] [.int 1, .ref s0] (G, F, I, J) b post px := ip_s_iconst f31_116 (by decide)
theorem f31_117 : ip_fetch 31 117 = some (.goto 4, 3) := by decide +kernel
theorem s31_117 {x0 : Nat} {x1 : Int32} {s0 : Nat} {s1 : Int32} : ip_WP 31 117 [some (.ref x0), some (.int x1)] [.int s1, .ref s0] (G, F, I, J) b post px ↔ ip_WP 31 121 [some (.ref x0), some (.int x1)] [.int s1, .ref s0] (G, F, I, J) b post px := ip_nx_iff ((ip_st_of f31_117).trans rfl)
theorem f31_120 : ip_fetch 31 120 = some (.iconst 4, 1) := by decide +kernel
theorem s31_120 {x0 : Nat} {x1 : Int32} {s0 : Nat} : ip_WP 31 120 [some (.ref x0), some (.int x1)] [.ref s0] (G, F, I, J) b post px ↔ ip_WP 31 121 [some (.ref x0), some (.int x1)] [.int 4, .ref s0] (G, F, I, J) b post px := ip_s_iconst f31_120 (by decide)
theorem f31_121 : ip_fetch 31 121 = some (.putfield 123, 3) := by decide +kernel
set_option maxRecDepth 100000 in
theorem s31_121 {x0 : Nat} {x1 : Int32} {s0 : Nat} {s1 : Int32} : ip_WP 31 121 [some (.ref x0), some (.int x1)] [.int s1, .ref s0] (G, F, I, J) b post px ↔ (ip_isO G s0 1 = true ∧ ip_WP 31 124 [some (.ref x0), some (.int x1)] [] (G, ip_up F s0 35 (.int s1), I, J) b post px) := ip_s_put f31_121 (by decide +kernel) rfl
theorem f31_124 : ip_fetch 31 124 = some (.aload_n 0, 1) := by decide +kernel
theorem s31_124 {x0 : Nat} {x1 : Int32} : ip_WP 31 124 [some (.ref x0), some (.int x1)] [] (G, F, I, J) b post px ↔ ip_WP 31 125 [some (.ref x0), some (.int x1)] [.ref x0] (G, F, I, J) b post px := ip_nx_iff ((ip_st_of f31_124).trans rfl)
theorem f31_125 : ip_fetch 31 125 = some (.getfield 107, 3) := by decide +kernel
set_option maxRecDepth 100000 in
theorem s31_125 {x0 : Nat} {x1 : Int32} {s0 : Nat} : ip_WP 31 125 [some (.ref x0), some (.int x1)] [.ref s0] (G, F, I, J) b post px ↔ (ip_isO G s0 1 = true ∧ ip_WP 31 128 [some (.ref x0), some (.int x1)] [F s0 37] (G, F, I, J) b post px) := ip_s_getf f31_125 (by decide +kernel)
theorem f31_128 : ip_fetch 31 128 = some (.aload_n 0, 1) := by decide +kernel
theorem s31_128 {x0 : Nat} {x1 : Int32} {s0 : Int32} : ip_WP 31 128 [some (.ref x0), some (.int x1)] [.int s0] (G, F, I, J) b post px ↔ ip_WP 31 129 [some (.ref x0), some (.int x1)] [.ref x0, .int s0] (G, F, I, J) b post px := ip_nx_iff ((ip_st_of f31_128).trans rfl)
theorem f31_129 : ip_fetch 31 129 = some (.getfield 117, 3) := by decide +kernel
set_option maxRecDepth 100000 in
theorem s31_129 {x0 : Nat} {x1 : Int32} {s0 : Int32} {s1 : Nat} : ip_WP 31 129 [some (.ref x0), some (.int x1)] [.ref s1, .int s0] (G, F, I, J) b post px ↔ (ip_isO G s1 1 = true ∧ ip_WP 31 132 [some (.ref x0), some (.int x1)] [F s1 36, .int s0] (G, F, I, J) b post px) := ip_s_getf f31_129 (by decide +kernel)
theorem f31_132 : ip_fetch 31 132 = some (.isub, 1) := by decide +kernel
theorem s31_132 {x0 : Nat} {x1 : Int32} {s0 : Int32} {s1 : Int32} : ip_WP 31 132 [some (.ref x0), some (.int x1)] [.int s1, .int s0] (G, F, I, J) b post px ↔ ip_WP 31 133 [some (.ref x0), some (.int x1)] [.int (s0 - s1)] (G, F, I, J) b post px := ip_nx_iff ((ip_st_of f31_132).trans rfl)
theorem f31_133 : ip_fetch 31 133 = some (.bipush 12, 2) := by decide +kernel
theorem s31_133 {x0 : Nat} {x1 : Int32} {s0 : Int32} : ip_WP 31 133 [some (.ref x0), some (.int x1)] [.int s0] (G, F, I, J) b post px ↔ ip_WP 31 135 [some (.ref x0), some (.int x1)] [.int 12, .int s0] (G, F, I, J) b post px := ip_s_bipush f31_133 (by decide)
theorem f31_135 : ip_fetch 31 135 = some (.if_icmp .le 174, 3) := by decide +kernel
theorem s31_135 {x0 : Nat} {x1 : Int32} {s0 : Int32} {s1 : Int32} : ip_WP 31 135 [some (.ref x0), some (.int x1)] [.int s1, .int s0] (G, F, I, J) b post px ↔ if s0 ≤ s1 then ip_WP 31 309 [some (.ref x0), some (.int x1)] [] (G, F, I, J) b post px else ip_WP 31 138 [some (.ref x0), some (.int x1)] [] (G, F, I, J) b post px := ip_s_ic_le f31_135 rfl
theorem f31_138 : ip_fetch 31 138 = some (.aload_n 0, 1) := by decide +kernel
theorem s31_138 {x0 : Nat} {x1 : Int32} : ip_WP 31 138 [some (.ref x0), some (.int x1)] [] (G, F, I, J) b post px ↔ ip_WP 31 139 [some (.ref x0), some (.int x1)] [.ref x0] (G, F, I, J) b post px := ip_nx_iff ((ip_st_of f31_138).trans rfl)
theorem f31_139 : ip_fetch 31 139 = some (.iconst 1, 1) := by decide +kernel
theorem s31_139 {x0 : Nat} {x1 : Int32} {s0 : Nat} : ip_WP 31 139 [some (.ref x0), some (.int x1)] [.ref s0] (G, F, I, J) b post px ↔ ip_WP 31 140 [some (.ref x0), some (.int x1)] [.int 1, .ref s0] (G, F, I, J) b post px := ip_s_iconst f31_139 (by decide)
theorem f31_140 : ip_fetch 31 140 = some (.aload_n 0, 1) := by decide +kernel
theorem s31_140 {x0 : Nat} {x1 : Int32} {s0 : Nat} {s1 : Int32} : ip_WP 31 140 [some (.ref x0), some (.int x1)] [.int s1, .ref s0] (G, F, I, J) b post px ↔ ip_WP 31 141 [some (.ref x0), some (.int x1)] [.ref x0, .int s1, .ref s0] (G, F, I, J) b post px := ip_nx_iff ((ip_st_of f31_140).trans rfl)
theorem f31_141 : ip_fetch 31 141 = some (.getfield 117, 3) := by decide +kernel
set_option maxRecDepth 100000 in
theorem s31_141 {x0 : Nat} {x1 : Int32} {s0 : Nat} {s1 : Int32} {s2 : Nat} : ip_WP 31 141 [some (.ref x0), some (.int x1)] [.ref s2, .int s1, .ref s0] (G, F, I, J) b post px ↔ (ip_isO G s2 1 = true ∧ ip_WP 31 144 [some (.ref x0), some (.int x1)] [F s2 36, .int s1, .ref s0] (G, F, I, J) b post px) := ip_s_getf f31_141 (by decide +kernel)
theorem f31_144 : ip_fetch 31 144 = some (.invokevirtual 139, 3) := by decide +kernel
set_option maxRecDepth 100000 in
theorem s31_144 {x0 : Nat} {x1 : Int32} {s0 : Nat} {s1 : Int32} {s2 : Int32} : ip_WP 31 144 [some (.ref x0), some (.int x1)] [.int s2, .int s1, .ref s0] (G, F, I, J) b post px ↔ (ip_isO G s0 1 = true ∧ ip_WP 25 0 [some (.ref s0), some (.int s1), some (.int s2)] [] (G, F, I, J) (0, 0) (fun r h' => ip_WP 31 147 [some (.ref x0), some (.int x1)] (r.toList ++ []) h' b post px) (fun _ _ => False)) := ip_ck_iff (x := ip_cl 25 [some (.ref s0), some (.int s1), some (.int s2)] [] (0, 0) b) ((ip_st_of f31_144).trans rfl) (ip_cl_iff)
theorem f31_147 : ip_fetch 31 147 = some (.goto 162, 3) := by decide +kernel
theorem s31_147 {x0 : Nat} {x1 : Int32} : ip_WP 31 147 [some (.ref x0), some (.int x1)] [] (G, F, I, J) b post px ↔ ip_WP 31 309 [some (.ref x0), some (.int x1)] [] (G, F, I, J) b post px := ip_nx_iff ((ip_st_of f31_147).trans rfl)
theorem f31_150 : ip_fetch 31 150 = some (.iload_n 1, 1) := by decide +kernel
theorem s31_150 {x0 : Nat} {x1 : Int32} : ip_WP 31 150 [some (.ref x0), some (.int x1)] [] (G, F, I, J) b post px ↔ ip_WP 31 151 [some (.ref x0), some (.int x1)] [.int x1] (G, F, I, J) b post px := ip_nx_iff ((ip_st_of f31_150).trans rfl)
theorem f31_151 : ip_fetch 31 151 = some (.invokestatic 129, 3) := by decide +kernel
set_option maxRecDepth 100000 in
theorem s31_151 {x0 : Nat} {x1 : Int32} {s0 : Int32} : ip_WP 31 151 [some (.ref x0), some (.int x1)] [.int s0] (G, F, I, J) b post px ↔ ip_WP 27 0 [some (.int s0)] [] (G, F, I, J) (0, 0) (fun r h' => ip_WP 31 154 [some (.ref x0), some (.int x1)] (r.toList ++ []) h' b post px) (fun _ _ => False) := ip_cl_iff ((ip_st_of f31_151).trans (rfl : _ = ip_cl 27 [some (.int s0)] [] (0, 0) b))
theorem f31_154 : ip_fetch 31 154 = some (.ifCond .eq 93, 3) := by decide +kernel
theorem s31_154 {x0 : Nat} {x1 : Int32} {s0 : Int32} : ip_WP 31 154 [some (.ref x0), some (.int x1)] [.int s0] (G, F, I, J) b post px ↔ if s0 = 0 then ip_WP 31 247 [some (.ref x0), some (.int x1)] [] (G, F, I, J) b post px else ip_WP 31 157 [some (.ref x0), some (.int x1)] [] (G, F, I, J) b post px := ip_s_if_eq f31_154 rfl
theorem f31_157 : ip_fetch 31 157 = some (.aload_n 0, 1) := by decide +kernel
theorem s31_157 {x0 : Nat} {x1 : Int32} : ip_WP 31 157 [some (.ref x0), some (.int x1)] [] (G, F, I, J) b post px ↔ ip_WP 31 158 [some (.ref x0), some (.int x1)] [.ref x0] (G, F, I, J) b post px := ip_nx_iff ((ip_st_of f31_157).trans rfl)
theorem f31_158 : ip_fetch 31 158 = some (.iconst 2, 1) := by decide +kernel
theorem s31_158 {x0 : Nat} {x1 : Int32} {s0 : Nat} : ip_WP 31 158 [some (.ref x0), some (.int x1)] [.ref s0] (G, F, I, J) b post px ↔ ip_WP 31 159 [some (.ref x0), some (.int x1)] [.int 2, .ref s0] (G, F, I, J) b post px := ip_s_iconst f31_158 (by decide)
theorem f31_159 : ip_fetch 31 159 = some (.putfield 123, 3) := by decide +kernel
set_option maxRecDepth 100000 in
theorem s31_159 {x0 : Nat} {x1 : Int32} {s0 : Nat} {s1 : Int32} : ip_WP 31 159 [some (.ref x0), some (.int x1)] [.int s1, .ref s0] (G, F, I, J) b post px ↔ (ip_isO G s0 1 = true ∧ ip_WP 31 162 [some (.ref x0), some (.int x1)] [] (G, ip_up F s0 35 (.int s1), I, J) b post px) := ip_s_put f31_159 (by decide +kernel) rfl
theorem f31_162 : ip_fetch 31 162 = some (.aload_n 0, 1) := by decide +kernel
theorem s31_162 {x0 : Nat} {x1 : Int32} : ip_WP 31 162 [some (.ref x0), some (.int x1)] [] (G, F, I, J) b post px ↔ ip_WP 31 163 [some (.ref x0), some (.int x1)] [.ref x0] (G, F, I, J) b post px := ip_nx_iff ((ip_st_of f31_162).trans rfl)
theorem f31_163 : ip_fetch 31 163 = some (.iconst 0, 1) := by decide +kernel
theorem s31_163 {x0 : Nat} {x1 : Int32} {s0 : Nat} : ip_WP 31 163 [some (.ref x0), some (.int x1)] [.ref s0] (G, F, I, J) b post px ↔ ip_WP 31 164 [some (.ref x0), some (.int x1)] [.int 0, .ref s0] (G, F, I, J) b post px := ip_s_iconst f31_163 (by decide)
theorem f31_164 : ip_fetch 31 164 = some (.putfield 136, 3) := by decide +kernel
set_option maxRecDepth 100000 in
theorem s31_164 {x0 : Nat} {x1 : Int32} {s0 : Nat} {s1 : Int32} : ip_WP 31 164 [some (.ref x0), some (.int x1)] [.int s1, .ref s0] (G, F, I, J) b post px ↔ (ip_isO G s0 1 = true ∧ ip_WP 31 167 [some (.ref x0), some (.int x1)] [] (G, ip_up F s0 38 (.int s1), I, J) b post px) := ip_s_put f31_164 (by decide +kernel) rfl
theorem f31_167 : ip_fetch 31 167 = some (.aload_n 0, 1) := by decide +kernel
theorem s31_167 {x0 : Nat} {x1 : Int32} : ip_WP 31 167 [some (.ref x0), some (.int x1)] [] (G, F, I, J) b post px ↔ ip_WP 31 168 [some (.ref x0), some (.int x1)] [.ref x0] (G, F, I, J) b post px := ip_nx_iff ((ip_st_of f31_167).trans rfl)
theorem f31_168 : ip_fetch 31 168 = some (.getfield 107, 3) := by decide +kernel
set_option maxRecDepth 100000 in
theorem s31_168 {x0 : Nat} {x1 : Int32} {s0 : Nat} : ip_WP 31 168 [some (.ref x0), some (.int x1)] [.ref s0] (G, F, I, J) b post px ↔ (ip_isO G s0 1 = true ∧ ip_WP 31 171 [some (.ref x0), some (.int x1)] [F s0 37] (G, F, I, J) b post px) := ip_s_getf f31_168 (by decide +kernel)
theorem f31_171 : ip_fetch 31 171 = some (.aload_n 0, 1) := by decide +kernel
theorem s31_171 {x0 : Nat} {x1 : Int32} {s0 : Int32} : ip_WP 31 171 [some (.ref x0), some (.int x1)] [.int s0] (G, F, I, J) b post px ↔ ip_WP 31 172 [some (.ref x0), some (.int x1)] [.ref x0, .int s0] (G, F, I, J) b post px := ip_nx_iff ((ip_st_of f31_171).trans rfl)
theorem f31_172 : ip_fetch 31 172 = some (.getfield 110, 3) := by decide +kernel
set_option maxRecDepth 100000 in
theorem s31_172 {x0 : Nat} {x1 : Int32} {s0 : Int32} {s1 : Nat} : ip_WP 31 172 [some (.ref x0), some (.int x1)] [.ref s1, .int s0] (G, F, I, J) b post px ↔ (ip_isO G s1 1 = true ∧ ip_WP 31 175 [some (.ref x0), some (.int x1)] [F s1 8, .int s0] (G, F, I, J) b post px) := ip_s_getf f31_172 (by decide +kernel)
theorem f31_175 : ip_fetch 31 175 = some (.if_icmp .ge 134, 3) := by decide +kernel
theorem s31_175 {x0 : Nat} {x1 : Int32} {s0 : Int32} {s1 : Int32} : ip_WP 31 175 [some (.ref x0), some (.int x1)] [.int s1, .int s0] (G, F, I, J) b post px ↔ if s1 ≤ s0 then ip_WP 31 309 [some (.ref x0), some (.int x1)] [] (G, F, I, J) b post px else ip_WP 31 178 [some (.ref x0), some (.int x1)] [] (G, F, I, J) b post px := ip_s_ic_ge f31_175 rfl
theorem f31_178 : ip_fetch 31 178 = some (.aload_n 0, 1) := by decide +kernel
theorem s31_178 {x0 : Nat} {x1 : Int32} : ip_WP 31 178 [some (.ref x0), some (.int x1)] [] (G, F, I, J) b post px ↔ ip_WP 31 179 [some (.ref x0), some (.int x1)] [.ref x0] (G, F, I, J) b post px := ip_nx_iff ((ip_st_of f31_178).trans rfl)
theorem f31_179 : ip_fetch 31 179 = some (.getfield 19, 3) := by decide +kernel
set_option maxRecDepth 100000 in
theorem s31_179 {x0 : Nat} {x1 : Int32} {s0 : Nat} : ip_WP 31 179 [some (.ref x0), some (.int x1)] [.ref s0] (G, F, I, J) b post px ↔ (ip_isO G s0 1 = true ∧ ip_WP 31 182 [some (.ref x0), some (.int x1)] [F s0 11] (G, F, I, J) b post px) := ip_s_getf f31_179 (by decide +kernel)
theorem f31_182 : ip_fetch 31 182 = some (.aload_n 0, 1) := by decide +kernel
theorem s31_182 {x0 : Nat} {x1 : Int32} {s0 : Nat} : ip_WP 31 182 [some (.ref x0), some (.int x1)] [.ref s0] (G, F, I, J) b post px ↔ ip_WP 31 183 [some (.ref x0), some (.int x1)] [.ref x0, .ref s0] (G, F, I, J) b post px := ip_nx_iff ((ip_st_of f31_182).trans rfl)
theorem f31_183 : ip_fetch 31 183 = some (.getfield 107, 3) := by decide +kernel
set_option maxRecDepth 100000 in
theorem s31_183 {x0 : Nat} {x1 : Int32} {s0 : Nat} {s1 : Nat} : ip_WP 31 183 [some (.ref x0), some (.int x1)] [.ref s1, .ref s0] (G, F, I, J) b post px ↔ (ip_isO G s1 1 = true ∧ ip_WP 31 186 [some (.ref x0), some (.int x1)] [F s1 37, .ref s0] (G, F, I, J) b post px) := ip_s_getf f31_183 (by decide +kernel)
theorem f31_186 : ip_fetch 31 186 = some (.iaload, 1) := by decide +kernel
theorem s31_186 {x0 : Nat} {x1 : Int32} {s0 : Nat} {s1 : Int32} : ip_WP 31 186 [some (.ref x0), some (.int x1)] [.int s1, .ref s0] (G, F, I, J) b post px ↔ (ip_inA G s0 0 s1 = true ∧ ip_WP 31 187 [some (.ref x0), some (.int x1)] [.int (I s0 s1.toNatClampNeg)] (G, F, I, J) b post px) := ip_ck_iff ((ip_st_of f31_186).trans rfl) ip_nx_iff
theorem f31_187 : ip_fetch 31 187 = some (.invokestatic 129, 3) := by decide +kernel
set_option maxRecDepth 100000 in
theorem s31_187 {x0 : Nat} {x1 : Int32} {s0 : Int32} : ip_WP 31 187 [some (.ref x0), some (.int x1)] [.int s0] (G, F, I, J) b post px ↔ ip_WP 27 0 [some (.int s0)] [] (G, F, I, J) (0, 0) (fun r h' => ip_WP 31 190 [some (.ref x0), some (.int x1)] (r.toList ++ []) h' b post px) (fun _ _ => False) := ip_cl_iff ((ip_st_of f31_187).trans (rfl : _ = ip_cl 27 [some (.int s0)] [] (0, 0) b))
theorem f31_190 : ip_fetch 31 190 = some (.ifCond .eq 119, 3) := by decide +kernel
theorem s31_190 {x0 : Nat} {x1 : Int32} {s0 : Int32} : ip_WP 31 190 [some (.ref x0), some (.int x1)] [.int s0] (G, F, I, J) b post px ↔ if s0 = 0 then ip_WP 31 309 [some (.ref x0), some (.int x1)] [] (G, F, I, J) b post px else ip_WP 31 193 [some (.ref x0), some (.int x1)] [] (G, F, I, J) b post px := ip_s_if_eq f31_190 rfl
theorem f31_193 : ip_fetch 31 193 = some (.aload_n 0, 1) := by decide +kernel
theorem s31_193 {x0 : Nat} {x1 : Int32} : ip_WP 31 193 [some (.ref x0), some (.int x1)] [] (G, F, I, J) b post px ↔ ip_WP 31 194 [some (.ref x0), some (.int x1)] [.ref x0] (G, F, I, J) b post px := ip_nx_iff ((ip_st_of f31_193).trans rfl)
theorem f31_194 : ip_fetch 31 194 = some (.aload_n 0, 1) := by decide +kernel
theorem s31_194 {x0 : Nat} {x1 : Int32} {s0 : Nat} : ip_WP 31 194 [some (.ref x0), some (.int x1)] [.ref s0] (G, F, I, J) b post px ↔ ip_WP 31 195 [some (.ref x0), some (.int x1)] [.ref x0, .ref s0] (G, F, I, J) b post px := ip_nx_iff ((ip_st_of f31_194).trans rfl)
theorem f31_195 : ip_fetch 31 195 = some (.getfield 136, 3) := by decide +kernel
set_option maxRecDepth 100000 in
theorem s31_195 {x0 : Nat} {x1 : Int32} {s0 : Nat} {s1 : Nat} : ip_WP 31 195 [some (.ref x0), some (.int x1)] [.ref s1, .ref s0] (G, F, I, J) b post px ↔ (ip_isO G s1 1 = true ∧ ip_WP 31 198 [some (.ref x0), some (.int x1)] [F s1 38, .ref s0] (G, F, I, J) b post px) := ip_s_getf f31_195 (by decide +kernel)
theorem f31_198 : ip_fetch 31 198 = some (.sipush 999, 3) := by decide +kernel
theorem s31_198 {x0 : Nat} {x1 : Int32} {s0 : Nat} {s1 : Int32} : ip_WP 31 198 [some (.ref x0), some (.int x1)] [.int s1, .ref s0] (G, F, I, J) b post px ↔ ip_WP 31 201 [some (.ref x0), some (.int x1)] [.int 999, .int s1, .ref s0] (G, F, I, J) b post px := ip_s_sipush f31_198 (by decide)
theorem f31_201 : ip_fetch 31 201 = some (.if_icmp .le 10, 3) := by decide +kernel
theorem s31_201 {x0 : Nat} {x1 : Int32} {s0 : Nat} {s1 : Int32} {s2 : Int32} : ip_WP 31 201 [some (.ref x0), some (.int x1)] [.int s2, .int s1, .ref s0] (G, F, I, J) b post px ↔ if s1 ≤ s2 then ip_WP 31 211 [some (.ref x0), some (.int x1)] [.ref s0] (G, F, I, J) b post px else ip_WP 31 204 [some (.ref x0), some (.int x1)] [.ref s0] (G, F, I, J) b post px := ip_s_ic_le f31_201 rfl
theorem f31_204 : ip_fetch 31 204 = some (.aload_n 0, 1) := by decide +kernel
theorem s31_204 {x0 : Nat} {x1 : Int32} {s0 : Nat} : ip_WP 31 204 [some (.ref x0), some (.int x1)] [.ref s0] (G, F, I, J) b post px ↔ ip_WP 31 205 [some (.ref x0), some (.int x1)] [.ref x0, .ref s0] (G, F, I, J) b post px := ip_nx_iff ((ip_st_of f31_204).trans rfl)
theorem f31_205 : ip_fetch 31 205 = some (.getfield 136, 3) := by decide +kernel
set_option maxRecDepth 100000 in
theorem s31_205 {x0 : Nat} {x1 : Int32} {s0 : Nat} {s1 : Nat} : ip_WP 31 205 [some (.ref x0), some (.int x1)] [.ref s1, .ref s0] (G, F, I, J) b post px ↔ (ip_isO G s1 1 = true ∧ ip_WP 31 208 [some (.ref x0), some (.int x1)] [F s1 38, .ref s0] (G, F, I, J) b post px) := ip_s_getf f31_205 (by decide +kernel)
theorem f31_208 : ip_fetch 31 208 = some (.goto 23, 3) := by decide +kernel
theorem s31_208 {x0 : Nat} {x1 : Int32} {s0 : Nat} {s1 : Int32} : ip_WP 31 208 [some (.ref x0), some (.int x1)] [.int s1, .ref s0] (G, F, I, J) b post px ↔ ip_WP 31 231 [some (.ref x0), some (.int x1)] [.int s1, .ref s0] (G, F, I, J) b post px := ip_nx_iff ((ip_st_of f31_208).trans rfl)
theorem f31_211 : ip_fetch 31 211 = some (.bipush 10, 2) := by decide +kernel
theorem s31_211 {x0 : Nat} {x1 : Int32} {s0 : Nat} : ip_WP 31 211 [some (.ref x0), some (.int x1)] [.ref s0] (G, F, I, J) b post px ↔ ip_WP 31 213 [some (.ref x0), some (.int x1)] [.int 10, .ref s0] (G, F, I, J) b post px := ip_s_bipush f31_211 (by decide)
theorem f31_213 : ip_fetch 31 213 = some (.aload_n 0, 1) := by decide +kernel
theorem s31_213 {x0 : Nat} {x1 : Int32} {s0 : Nat} {s1 : Int32} : ip_WP 31 213 [some (.ref x0), some (.int x1)] [.int s1, .ref s0] (G, F, I, J) b post px ↔ ip_WP 31 214 [some (.ref x0), some (.int x1)] [.ref x0, .int s1, .ref s0] (G, F, I, J) b post px := ip_nx_iff ((ip_st_of f31_213).trans rfl)
theorem f31_214 : ip_fetch 31 214 = some (.getfield 136, 3) := by decide +kernel
set_option maxRecDepth 100000 in
theorem s31_214 {x0 : Nat} {x1 : Int32} {s0 : Nat} {s1 : Int32} {s2 : Nat} : ip_WP 31 214 [some (.ref x0), some (.int x1)] [.ref s2, .int s1, .ref s0] (G, F, I, J) b post px ↔ (ip_isO G s2 1 = true ∧ ip_WP 31 217 [some (.ref x0), some (.int x1)] [F s2 38, .int s1, .ref s0] (G, F, I, J) b post px) := ip_s_getf f31_214 (by decide +kernel)
theorem f31_217 : ip_fetch 31 217 = some (.imul, 1) := by decide +kernel
theorem s31_217 {x0 : Nat} {x1 : Int32} {s0 : Nat} {s1 : Int32} {s2 : Int32} : ip_WP 31 217 [some (.ref x0), some (.int x1)] [.int s2, .int s1, .ref s0] (G, F, I, J) b post px ↔ ip_WP 31 218 [some (.ref x0), some (.int x1)] [.int (s1 * s2), .ref s0] (G, F, I, J) b post px := ip_nx_iff ((ip_st_of f31_217).trans rfl)
theorem f31_218 : ip_fetch 31 218 = some (.aload_n 0, 1) := by decide +kernel
theorem s31_218 {x0 : Nat} {x1 : Int32} {s0 : Nat} {s1 : Int32} : ip_WP 31 218 [some (.ref x0), some (.int x1)] [.int s1, .ref s0] (G, F, I, J) b post px ↔ ip_WP 31 219 [some (.ref x0), some (.int x1)] [.ref x0, .int s1, .ref s0] (G, F, I, J) b post px := ip_nx_iff ((ip_st_of f31_218).trans rfl)
theorem f31_219 : ip_fetch 31 219 = some (.getfield 19, 3) := by decide +kernel
set_option maxRecDepth 100000 in
theorem s31_219 {x0 : Nat} {x1 : Int32} {s0 : Nat} {s1 : Int32} {s2 : Nat} : ip_WP 31 219 [some (.ref x0), some (.int x1)] [.ref s2, .int s1, .ref s0] (G, F, I, J) b post px ↔ (ip_isO G s2 1 = true ∧ ip_WP 31 222 [some (.ref x0), some (.int x1)] [F s2 11, .int s1, .ref s0] (G, F, I, J) b post px) := ip_s_getf f31_219 (by decide +kernel)
theorem f31_222 : ip_fetch 31 222 = some (.aload_n 0, 1) := by decide +kernel
theorem s31_222 {x0 : Nat} {x1 : Int32} {s0 : Nat} {s1 : Int32} {s2 : Nat} : ip_WP 31 222 [some (.ref x0), some (.int x1)] [.ref s2, .int s1, .ref s0] (G, F, I, J) b post px ↔ ip_WP 31 223 [some (.ref x0), some (.int x1)] [.ref x0, .ref s2, .int s1, .ref s0] (G, F, I, J) b post px := ip_nx_iff ((ip_st_of f31_222).trans rfl)
theorem f31_223 : ip_fetch 31 223 = some (.getfield 107, 3) := by decide +kernel
set_option maxRecDepth 100000 in
theorem s31_223 {x0 : Nat} {x1 : Int32} {s0 : Nat} {s1 : Int32} {s2 : Nat} {s3 : Nat} : ip_WP 31 223 [some (.ref x0), some (.int x1)] [.ref s3, .ref s2, .int s1, .ref s0] (G, F, I, J) b post px ↔ (ip_isO G s3 1 = true ∧ ip_WP 31 226 [some (.ref x0), some (.int x1)] [F s3 37, .ref s2, .int s1, .ref s0] (G, F, I, J) b post px) := ip_s_getf f31_223 (by decide +kernel)
theorem f31_226 : ip_fetch 31 226 = some (.iaload, 1) := by decide +kernel
theorem s31_226 {x0 : Nat} {x1 : Int32} {s0 : Nat} {s1 : Int32} {s2 : Nat} {s3 : Int32} : ip_WP 31 226 [some (.ref x0), some (.int x1)] [.int s3, .ref s2, .int s1, .ref s0] (G, F, I, J) b post px ↔ (ip_inA G s2 0 s3 = true ∧ ip_WP 31 227 [some (.ref x0), some (.int x1)] [.int (I s2 s3.toNatClampNeg), .int s1, .ref s0] (G, F, I, J) b post px) := ip_ck_iff ((ip_st_of f31_226).trans rfl) ip_nx_iff
theorem f31_227 : ip_fetch 31 227 = some (.iadd, 1) := by decide +kernel
theorem s31_227 {x0 : Nat} {x1 : Int32} {s0 : Nat} {s1 : Int32} {s2 : Int32} : ip_WP 31 227 [some (.ref x0), some (.int x1)] [.int s2, .int s1, .ref s0] (G, F, I, J) b post px ↔ ip_WP 31 228 [some (.ref x0), some (.int x1)] [.int (s1 + s2), .ref s0] (G, F, I, J) b post px := ip_nx_iff ((ip_st_of f31_227).trans rfl)
theorem f31_228 : ip_fetch 31 228 = some (.bipush 48, 2) := by decide +kernel
theorem s31_228 {x0 : Nat} {x1 : Int32} {s0 : Nat} {s1 : Int32} : ip_WP 31 228 [some (.ref x0), some (.int x1)] [.int s1, .ref s0] (G, F, I, J) b post px ↔ ip_WP 31 230 [some (.ref x0), some (.int x1)] [.int 48, .int s1, .ref s0] (G, F, I, J) b post px := ip_s_bipush f31_228 (by decide)
theorem f31_230 : ip_fetch 31 230 = some (.isub, 1) := by decide +kernel
theorem s31_230 {x0 : Nat} {x1 : Int32} {s0 : Nat} {s1 : Int32} {s2 : Int32} : ip_WP 31 230 [some (.ref x0), some (.int x1)] [.int s2, .int s1, .ref s0] (G, F, I, J) b post px ↔ ip_WP 31 231 [some (.ref x0), some (.int x1)] [.int (s1 - s2), .ref s0] (G, F, I, J) b post px := ip_nx_iff ((ip_st_of f31_230).trans rfl)
theorem f31_231 : ip_fetch 31 231 = some (.putfield 136, 3) := by decide +kernel
set_option maxRecDepth 100000 in
theorem s31_231 {x0 : Nat} {x1 : Int32} {s0 : Nat} {s1 : Int32} : ip_WP 31 231 [some (.ref x0), some (.int x1)] [.int s1, .ref s0] (G, F, I, J) b post px ↔ (ip_isO G s0 1 = true ∧ ip_WP 31 234 [some (.ref x0), some (.int x1)] [] (G, ip_up F s0 38 (.int s1), I, J) b post px) := ip_s_put f31_231 (by decide +kernel) rfl
theorem f31_234 : ip_fetch 31 234 = some (.aload_n 0, 1) := by decide +kernel
theorem s31_234 {x0 : Nat} {x1 : Int32} : ip_WP 31 234 [some (.ref x0), some (.int x1)] [] (G, F, I, J) b post px ↔ ip_WP 31 235 [some (.ref x0), some (.int x1)] [.ref x0] (G, F, I, J) b post px := ip_nx_iff ((ip_st_of f31_234).trans rfl)
theorem f31_235 : ip_fetch 31 235 = some (.dup, 1) := by decide +kernel
theorem s31_235 {x0 : Nat} {x1 : Int32} {s0 : Nat} : ip_WP 31 235 [some (.ref x0), some (.int x1)] [.ref s0] (G, F, I, J) b post px ↔ ip_WP 31 236 [some (.ref x0), some (.int x1)] [.ref s0, .ref s0] (G, F, I, J) b post px := ip_nx_iff ((ip_st_of f31_235).trans rfl)
theorem f31_236 : ip_fetch 31 236 = some (.getfield 107, 3) := by decide +kernel
set_option maxRecDepth 100000 in
theorem s31_236 {x0 : Nat} {x1 : Int32} {s0 : Nat} {s1 : Nat} : ip_WP 31 236 [some (.ref x0), some (.int x1)] [.ref s1, .ref s0] (G, F, I, J) b post px ↔ (ip_isO G s1 1 = true ∧ ip_WP 31 239 [some (.ref x0), some (.int x1)] [F s1 37, .ref s0] (G, F, I, J) b post px) := ip_s_getf f31_236 (by decide +kernel)
theorem f31_239 : ip_fetch 31 239 = some (.iconst 1, 1) := by decide +kernel
theorem s31_239 {x0 : Nat} {x1 : Int32} {s0 : Nat} {s1 : Int32} : ip_WP 31 239 [some (.ref x0), some (.int x1)] [.int s1, .ref s0] (G, F, I, J) b post px ↔ ip_WP 31 240 [some (.ref x0), some (.int x1)] [.int 1, .int s1, .ref s0] (G, F, I, J) b post px := ip_s_iconst f31_239 (by decide)
theorem f31_240 : ip_fetch 31 240 = some (.iadd, 1) := by decide +kernel
theorem s31_240 {x0 : Nat} {x1 : Int32} {s0 : Nat} {s1 : Int32} {s2 : Int32} : ip_WP 31 240 [some (.ref x0), some (.int x1)] [.int s2, .int s1, .ref s0] (G, F, I, J) b post px ↔ ip_WP 31 241 [some (.ref x0), some (.int x1)] [.int (s1 + s2), .ref s0] (G, F, I, J) b post px := ip_nx_iff ((ip_st_of f31_240).trans rfl)
theorem f31_241 : ip_fetch 31 241 = some (.putfield 107, 3) := by decide +kernel
set_option maxRecDepth 100000 in
theorem s31_241 {x0 : Nat} {x1 : Int32} {s0 : Nat} {s1 : Int32} : ip_WP 31 241 [some (.ref x0), some (.int x1)] [.int s1, .ref s0] (G, F, I, J) b post px ↔ (ip_isO G s0 1 = true ∧ ip_WP 31 244 [some (.ref x0), some (.int x1)] [] (G, ip_up F s0 37 (.int s1), I, J) b post px) := ip_s_put f31_241 (by decide +kernel) rfl
theorem f31_244 : ip_fetch 31 244 = some (.goto (-77), 3) := by decide +kernel
theorem s31_244 {x0 : Nat} {x1 : Int32} : ip_WP 31 244 [some (.ref x0), some (.int x1)] [] (G, F, I, J) b post px ↔ ip_WP 31 167 [some (.ref x0), some (.int x1)] [] (G, F, I, J) b post px := ip_nx_iff ((ip_st_of f31_244).trans rfl)
theorem f31_247 : ip_fetch 31 247 = some (.iload_n 1, 1) := by decide +kernel
theorem s31_247 {x0 : Nat} {x1 : Int32} : ip_WP 31 247 [some (.ref x0), some (.int x1)] [] (G, F, I, J) b post px ↔ ip_WP 31 248 [some (.ref x0), some (.int x1)] [.int x1] (G, F, I, J) b post px := ip_nx_iff ((ip_st_of f31_247).trans rfl)
theorem f31_248 : ip_fetch 31 248 = some (.bipush 58, 2) := by decide +kernel
theorem s31_248 {x0 : Nat} {x1 : Int32} {s0 : Int32} : ip_WP 31 248 [some (.ref x0), some (.int x1)] [.int s0] (G, F, I, J) b post px ↔ ip_WP 31 250 [some (.ref x0), some (.int x1)] [.int 58, .int s0] (G, F, I, J) b post px := ip_s_bipush f31_248 (by decide)
theorem f31_250 : ip_fetch 31 250 = some (.if_icmp .eq 27, 3) := by decide +kernel
theorem s31_250 {x0 : Nat} {x1 : Int32} {s0 : Int32} {s1 : Int32} : ip_WP 31 250 [some (.ref x0), some (.int x1)] [.int s1, .int s0] (G, F, I, J) b post px ↔ if s0 = s1 then ip_WP 31 277 [some (.ref x0), some (.int x1)] [] (G, F, I, J) b post px else ip_WP 31 253 [some (.ref x0), some (.int x1)] [] (G, F, I, J) b post px := ip_s_ic_eq f31_250 rfl
theorem f31_253 : ip_fetch 31 253 = some (.iload_n 1, 1) := by decide +kernel
theorem s31_253 {x0 : Nat} {x1 : Int32} : ip_WP 31 253 [some (.ref x0), some (.int x1)] [] (G, F, I, J) b post px ↔ ip_WP 31 254 [some (.ref x0), some (.int x1)] [.int x1] (G, F, I, J) b post px := ip_nx_iff ((ip_st_of f31_253).trans rfl)
theorem f31_254 : ip_fetch 31 254 = some (.bipush 59, 2) := by decide +kernel
theorem s31_254 {x0 : Nat} {x1 : Int32} {s0 : Int32} : ip_WP 31 254 [some (.ref x0), some (.int x1)] [.int s0] (G, F, I, J) b post px ↔ ip_WP 31 256 [some (.ref x0), some (.int x1)] [.int 59, .int s0] (G, F, I, J) b post px := ip_s_bipush f31_254 (by decide)
theorem f31_256 : ip_fetch 31 256 = some (.if_icmp .eq 21, 3) := by decide +kernel
theorem s31_256 {x0 : Nat} {x1 : Int32} {s0 : Int32} {s1 : Int32} : ip_WP 31 256 [some (.ref x0), some (.int x1)] [.int s1, .int s0] (G, F, I, J) b post px ↔ if s0 = s1 then ip_WP 31 277 [some (.ref x0), some (.int x1)] [] (G, F, I, J) b post px else ip_WP 31 259 [some (.ref x0), some (.int x1)] [] (G, F, I, J) b post px := ip_s_ic_eq f31_256 rfl
theorem f31_259 : ip_fetch 31 259 = some (.iload_n 1, 1) := by decide +kernel
theorem s31_259 {x0 : Nat} {x1 : Int32} : ip_WP 31 259 [some (.ref x0), some (.int x1)] [] (G, F, I, J) b post px ↔ ip_WP 31 260 [some (.ref x0), some (.int x1)] [.int x1] (G, F, I, J) b post px := ip_nx_iff ((ip_st_of f31_259).trans rfl)
theorem f31_260 : ip_fetch 31 260 = some (.bipush 44, 2) := by decide +kernel
theorem s31_260 {x0 : Nat} {x1 : Int32} {s0 : Int32} : ip_WP 31 260 [some (.ref x0), some (.int x1)] [.int s0] (G, F, I, J) b post px ↔ ip_WP 31 262 [some (.ref x0), some (.int x1)] [.int 44, .int s0] (G, F, I, J) b post px := ip_s_bipush f31_260 (by decide)
theorem f31_262 : ip_fetch 31 262 = some (.if_icmp .eq 15, 3) := by decide +kernel
theorem s31_262 {x0 : Nat} {x1 : Int32} {s0 : Int32} {s1 : Int32} : ip_WP 31 262 [some (.ref x0), some (.int x1)] [.int s1, .int s0] (G, F, I, J) b post px ↔ if s0 = s1 then ip_WP 31 277 [some (.ref x0), some (.int x1)] [] (G, F, I, J) b post px else ip_WP 31 265 [some (.ref x0), some (.int x1)] [] (G, F, I, J) b post px := ip_s_ic_eq f31_262 rfl
theorem f31_265 : ip_fetch 31 265 = some (.iload_n 1, 1) := by decide +kernel
theorem s31_265 {x0 : Nat} {x1 : Int32} : ip_WP 31 265 [some (.ref x0), some (.int x1)] [] (G, F, I, J) b post px ↔ ip_WP 31 266 [some (.ref x0), some (.int x1)] [.int x1] (G, F, I, J) b post px := ip_nx_iff ((ip_st_of f31_265).trans rfl)
theorem f31_266 : ip_fetch 31 266 = some (.bipush 62, 2) := by decide +kernel
theorem s31_266 {x0 : Nat} {x1 : Int32} {s0 : Int32} : ip_WP 31 266 [some (.ref x0), some (.int x1)] [.int s0] (G, F, I, J) b post px ↔ ip_WP 31 268 [some (.ref x0), some (.int x1)] [.int 62, .int s0] (G, F, I, J) b post px := ip_s_bipush f31_266 (by decide)
theorem f31_268 : ip_fetch 31 268 = some (.if_icmp .eq 9, 3) := by decide +kernel
theorem s31_268 {x0 : Nat} {x1 : Int32} {s0 : Int32} {s1 : Int32} : ip_WP 31 268 [some (.ref x0), some (.int x1)] [.int s1, .int s0] (G, F, I, J) b post px ↔ if s0 = s1 then ip_WP 31 277 [some (.ref x0), some (.int x1)] [] (G, F, I, J) b post px else ip_WP 31 271 [some (.ref x0), some (.int x1)] [] (G, F, I, J) b post px := ip_s_ic_eq f31_268 rfl
theorem f31_271 : ip_fetch 31 271 = some (.iload_n 1, 1) := by decide +kernel
theorem s31_271 {x0 : Nat} {x1 : Int32} : ip_WP 31 271 [some (.ref x0), some (.int x1)] [] (G, F, I, J) b post px ↔ ip_WP 31 272 [some (.ref x0), some (.int x1)] [.int x1] (G, F, I, J) b post px := ip_nx_iff ((ip_st_of f31_271).trans rfl)
theorem f31_272 : ip_fetch 31 272 = some (.bipush 61, 2) := by decide +kernel
theorem s31_272 {x0 : Nat} {x1 : Int32} {s0 : Int32} : ip_WP 31 272 [some (.ref x0), some (.int x1)] [.int s0] (G, F, I, J) b post px ↔ ip_WP 31 274 [some (.ref x0), some (.int x1)] [.int 61, .int s0] (G, F, I, J) b post px := ip_s_bipush f31_272 (by decide)
theorem f31_274 : ip_fetch 31 274 = some (.if_icmp .ne 26, 3) := by decide +kernel
theorem s31_274 {x0 : Nat} {x1 : Int32} {s0 : Int32} {s1 : Int32} : ip_WP 31 274 [some (.ref x0), some (.int x1)] [.int s1, .int s0] (G, F, I, J) b post px ↔ if ¬ s0 = s1 then ip_WP 31 300 [some (.ref x0), some (.int x1)] [] (G, F, I, J) b post px else ip_WP 31 277 [some (.ref x0), some (.int x1)] [] (G, F, I, J) b post px := ip_s_ic_ne f31_274 rfl
theorem f31_277 : ip_fetch 31 277 = some (.aload_n 0, 1) := by decide +kernel
theorem s31_277 {x0 : Nat} {x1 : Int32} : ip_WP 31 277 [some (.ref x0), some (.int x1)] [] (G, F, I, J) b post px ↔ ip_WP 31 278 [some (.ref x0), some (.int x1)] [.ref x0] (G, F, I, J) b post px := ip_nx_iff ((ip_st_of f31_277).trans rfl)
theorem f31_278 : ip_fetch 31 278 = some (.iconst 3, 1) := by decide +kernel
theorem s31_278 {x0 : Nat} {x1 : Int32} {s0 : Nat} : ip_WP 31 278 [some (.ref x0), some (.int x1)] [.ref s0] (G, F, I, J) b post px ↔ ip_WP 31 279 [some (.ref x0), some (.int x1)] [.int 3, .ref s0] (G, F, I, J) b post px := ip_s_iconst f31_278 (by decide)
theorem f31_279 : ip_fetch 31 279 = some (.putfield 123, 3) := by decide +kernel
set_option maxRecDepth 100000 in
theorem s31_279 {x0 : Nat} {x1 : Int32} {s0 : Nat} {s1 : Int32} : ip_WP 31 279 [some (.ref x0), some (.int x1)] [.int s1, .ref s0] (G, F, I, J) b post px ↔ (ip_isO G s0 1 = true ∧ ip_WP 31 282 [some (.ref x0), some (.int x1)] [] (G, ip_up F s0 35 (.int s1), I, J) b post px) := ip_s_put f31_279 (by decide +kernel) rfl
theorem f31_282 : ip_fetch 31 282 = some (.aload_n 0, 1) := by decide +kernel
theorem s31_282 {x0 : Nat} {x1 : Int32} : ip_WP 31 282 [some (.ref x0), some (.int x1)] [] (G, F, I, J) b post px ↔ ip_WP 31 283 [some (.ref x0), some (.int x1)] [.ref x0] (G, F, I, J) b post px := ip_nx_iff ((ip_st_of f31_282).trans rfl)
theorem f31_283 : ip_fetch 31 283 = some (.iload_n 1, 1) := by decide +kernel
theorem s31_283 {x0 : Nat} {x1 : Int32} {s0 : Nat} : ip_WP 31 283 [some (.ref x0), some (.int x1)] [.ref s0] (G, F, I, J) b post px ↔ ip_WP 31 284 [some (.ref x0), some (.int x1)] [.int x1, .ref s0] (G, F, I, J) b post px := ip_nx_iff ((ip_st_of f31_283).trans rfl)
theorem f31_284 : ip_fetch 31 284 = some (.putfield 136, 3) := by decide +kernel
set_option maxRecDepth 100000 in
theorem s31_284 {x0 : Nat} {x1 : Int32} {s0 : Nat} {s1 : Int32} : ip_WP 31 284 [some (.ref x0), some (.int x1)] [.int s1, .ref s0] (G, F, I, J) b post px ↔ (ip_isO G s0 1 = true ∧ ip_WP 31 287 [some (.ref x0), some (.int x1)] [] (G, ip_up F s0 38 (.int s1), I, J) b post px) := ip_s_put f31_284 (by decide +kernel) rfl
theorem f31_287 : ip_fetch 31 287 = some (.aload_n 0, 1) := by decide +kernel
theorem s31_287 {x0 : Nat} {x1 : Int32} : ip_WP 31 287 [some (.ref x0), some (.int x1)] [] (G, F, I, J) b post px ↔ ip_WP 31 288 [some (.ref x0), some (.int x1)] [.ref x0] (G, F, I, J) b post px := ip_nx_iff ((ip_st_of f31_287).trans rfl)
theorem f31_288 : ip_fetch 31 288 = some (.dup, 1) := by decide +kernel
theorem s31_288 {x0 : Nat} {x1 : Int32} {s0 : Nat} : ip_WP 31 288 [some (.ref x0), some (.int x1)] [.ref s0] (G, F, I, J) b post px ↔ ip_WP 31 289 [some (.ref x0), some (.int x1)] [.ref s0, .ref s0] (G, F, I, J) b post px := ip_nx_iff ((ip_st_of f31_288).trans rfl)
theorem f31_289 : ip_fetch 31 289 = some (.getfield 107, 3) := by decide +kernel
set_option maxRecDepth 100000 in
theorem s31_289 {x0 : Nat} {x1 : Int32} {s0 : Nat} {s1 : Nat} : ip_WP 31 289 [some (.ref x0), some (.int x1)] [.ref s1, .ref s0] (G, F, I, J) b post px ↔ (ip_isO G s1 1 = true ∧ ip_WP 31 292 [some (.ref x0), some (.int x1)] [F s1 37, .ref s0] (G, F, I, J) b post px) := ip_s_getf f31_289 (by decide +kernel)
theorem f31_292 : ip_fetch 31 292 = some (.iconst 1, 1) := by decide +kernel
theorem s31_292 {x0 : Nat} {x1 : Int32} {s0 : Nat} {s1 : Int32} : ip_WP 31 292 [some (.ref x0), some (.int x1)] [.int s1, .ref s0] (G, F, I, J) b post px ↔ ip_WP 31 293 [some (.ref x0), some (.int x1)] [.int 1, .int s1, .ref s0] (G, F, I, J) b post px := ip_s_iconst f31_292 (by decide)
theorem f31_293 : ip_fetch 31 293 = some (.iadd, 1) := by decide +kernel
theorem s31_293 {x0 : Nat} {x1 : Int32} {s0 : Nat} {s1 : Int32} {s2 : Int32} : ip_WP 31 293 [some (.ref x0), some (.int x1)] [.int s2, .int s1, .ref s0] (G, F, I, J) b post px ↔ ip_WP 31 294 [some (.ref x0), some (.int x1)] [.int (s1 + s2), .ref s0] (G, F, I, J) b post px := ip_nx_iff ((ip_st_of f31_293).trans rfl)
theorem f31_294 : ip_fetch 31 294 = some (.putfield 107, 3) := by decide +kernel
set_option maxRecDepth 100000 in
theorem s31_294 {x0 : Nat} {x1 : Int32} {s0 : Nat} {s1 : Int32} : ip_WP 31 294 [some (.ref x0), some (.int x1)] [.int s1, .ref s0] (G, F, I, J) b post px ↔ (ip_isO G s0 1 = true ∧ ip_WP 31 297 [some (.ref x0), some (.int x1)] [] (G, ip_up F s0 37 (.int s1), I, J) b post px) := ip_s_put f31_294 (by decide +kernel) rfl
theorem f31_297 : ip_fetch 31 297 = some (.goto 12, 3) := by decide +kernel
theorem s31_297 {x0 : Nat} {x1 : Int32} : ip_WP 31 297 [some (.ref x0), some (.int x1)] [] (G, F, I, J) b post px ↔ ip_WP 31 309 [some (.ref x0), some (.int x1)] [] (G, F, I, J) b post px := ip_nx_iff ((ip_st_of f31_297).trans rfl)
theorem f31_300 : ip_fetch 31 300 = some (.aload_n 0, 1) := by decide +kernel
theorem s31_300 {x0 : Nat} {x1 : Int32} : ip_WP 31 300 [some (.ref x0), some (.int x1)] [] (G, F, I, J) b post px ↔ ip_WP 31 301 [some (.ref x0), some (.int x1)] [.ref x0] (G, F, I, J) b post px := ip_nx_iff ((ip_st_of f31_300).trans rfl)
theorem f31_301 : ip_fetch 31 301 = some (.iconst 1, 1) := by decide +kernel
theorem s31_301 {x0 : Nat} {x1 : Int32} {s0 : Nat} : ip_WP 31 301 [some (.ref x0), some (.int x1)] [.ref s0] (G, F, I, J) b post px ↔ ip_WP 31 302 [some (.ref x0), some (.int x1)] [.int 1, .ref s0] (G, F, I, J) b post px := ip_s_iconst f31_301 (by decide)
theorem f31_302 : ip_fetch 31 302 = some (.aload_n 0, 1) := by decide +kernel
theorem s31_302 {x0 : Nat} {x1 : Int32} {s0 : Nat} {s1 : Int32} : ip_WP 31 302 [some (.ref x0), some (.int x1)] [.int s1, .ref s0] (G, F, I, J) b post px ↔ ip_WP 31 303 [some (.ref x0), some (.int x1)] [.ref x0, .int s1, .ref s0] (G, F, I, J) b post px := ip_nx_iff ((ip_st_of f31_302).trans rfl)
theorem f31_303 : ip_fetch 31 303 = some (.getfield 117, 3) := by decide +kernel
set_option maxRecDepth 100000 in
theorem s31_303 {x0 : Nat} {x1 : Int32} {s0 : Nat} {s1 : Int32} {s2 : Nat} : ip_WP 31 303 [some (.ref x0), some (.int x1)] [.ref s2, .int s1, .ref s0] (G, F, I, J) b post px ↔ (ip_isO G s2 1 = true ∧ ip_WP 31 306 [some (.ref x0), some (.int x1)] [F s2 36, .int s1, .ref s0] (G, F, I, J) b post px) := ip_s_getf f31_303 (by decide +kernel)
theorem f31_306 : ip_fetch 31 306 = some (.invokevirtual 139, 3) := by decide +kernel
set_option maxRecDepth 100000 in
theorem s31_306 {x0 : Nat} {x1 : Int32} {s0 : Nat} {s1 : Int32} {s2 : Int32} : ip_WP 31 306 [some (.ref x0), some (.int x1)] [.int s2, .int s1, .ref s0] (G, F, I, J) b post px ↔ (ip_isO G s0 1 = true ∧ ip_WP 25 0 [some (.ref s0), some (.int s1), some (.int s2)] [] (G, F, I, J) (0, 0) (fun r h' => ip_WP 31 309 [some (.ref x0), some (.int x1)] (r.toList ++ []) h' b post px) (fun _ _ => False)) := ip_ck_iff (x := ip_cl 25 [some (.ref s0), some (.int s1), some (.int s2)] [] (0, 0) b) ((ip_st_of f31_306).trans rfl) (ip_cl_iff)
theorem f31_309 : ip_fetch 31 309 = some (.return_, 1) := by decide +kernel
theorem s31_309 {x0 : Nat} {x1 : Int32} : ip_WP 31 309 [some (.ref x0), some (.int x1)] [] (G, F, I, J) b post px ↔ post none (G, F, I, J) := ip_rt_iff ((ip_st_of f31_309).trans rfl)
theorem f32_0 : ip_fetch 32 0 = some (.aload_n 0, 1) := by decide +kernel
theorem s32_0 {x0 : Nat} {x1 : Int32} : ip_WP 32 0 [some (.ref x0), some (.int x1)] [] (G, F, I, J) b post px ↔ ip_WP 32 1 [some (.ref x0), some (.int x1)] [.ref x0] (G, F, I, J) b post px := ip_nx_iff ((ip_st_of f32_0).trans rfl)
theorem f32_1 : ip_fetch 32 1 = some (.getfield 101, 3) := by decide +kernel
set_option maxRecDepth 100000 in
theorem s32_1 {x0 : Nat} {x1 : Int32} {s0 : Nat} : ip_WP 32 1 [some (.ref x0), some (.int x1)] [.ref s0] (G, F, I, J) b post px ↔ (ip_isO G s0 1 = true ∧ ip_WP 32 4 [some (.ref x0), some (.int x1)] [F s0 6] (G, F, I, J) b post px) := ip_s_getf f32_1 (by decide +kernel)
theorem f32_4 : ip_fetch 32 4 = some (.ifCond .ne 23, 3) := by decide +kernel
theorem s32_4 {x0 : Nat} {x1 : Int32} {s0 : Int32} : ip_WP 32 4 [some (.ref x0), some (.int x1)] [.int s0] (G, F, I, J) b post px ↔ if ¬ s0 = 0 then ip_WP 32 27 [some (.ref x0), some (.int x1)] [] (G, F, I, J) b post px else ip_WP 32 7 [some (.ref x0), some (.int x1)] [] (G, F, I, J) b post px := ip_s_if_ne f32_4 rfl
theorem f32_7 : ip_fetch 32 7 = some (.aload_n 0, 1) := by decide +kernel
theorem s32_7 {x0 : Nat} {x1 : Int32} : ip_WP 32 7 [some (.ref x0), some (.int x1)] [] (G, F, I, J) b post px ↔ ip_WP 32 8 [some (.ref x0), some (.int x1)] [.ref x0] (G, F, I, J) b post px := ip_nx_iff ((ip_st_of f32_7).trans rfl)
theorem f32_8 : ip_fetch 32 8 = some (.getfield 123, 3) := by decide +kernel
set_option maxRecDepth 100000 in
theorem s32_8 {x0 : Nat} {x1 : Int32} {s0 : Nat} : ip_WP 32 8 [some (.ref x0), some (.int x1)] [.ref s0] (G, F, I, J) b post px ↔ (ip_isO G s0 1 = true ∧ ip_WP 32 11 [some (.ref x0), some (.int x1)] [F s0 35] (G, F, I, J) b post px) := ip_s_getf f32_8 (by decide +kernel)
theorem f32_11 : ip_fetch 32 11 = some (.iconst 3, 1) := by decide +kernel
theorem s32_11 {x0 : Nat} {x1 : Int32} {s0 : Int32} : ip_WP 32 11 [some (.ref x0), some (.int x1)] [.int s0] (G, F, I, J) b post px ↔ ip_WP 32 12 [some (.ref x0), some (.int x1)] [.int 3, .int s0] (G, F, I, J) b post px := ip_s_iconst f32_11 (by decide)
theorem f32_12 : ip_fetch 32 12 = some (.if_icmp .ne 15, 3) := by decide +kernel
theorem s32_12 {x0 : Nat} {x1 : Int32} {s0 : Int32} {s1 : Int32} : ip_WP 32 12 [some (.ref x0), some (.int x1)] [.int s1, .int s0] (G, F, I, J) b post px ↔ if ¬ s0 = s1 then ip_WP 32 27 [some (.ref x0), some (.int x1)] [] (G, F, I, J) b post px else ip_WP 32 15 [some (.ref x0), some (.int x1)] [] (G, F, I, J) b post px := ip_s_ic_ne f32_12 rfl
theorem f32_15 : ip_fetch 32 15 = some (.aload_n 0, 1) := by decide +kernel
theorem s32_15 {x0 : Nat} {x1 : Int32} : ip_WP 32 15 [some (.ref x0), some (.int x1)] [] (G, F, I, J) b post px ↔ ip_WP 32 16 [some (.ref x0), some (.int x1)] [.ref x0] (G, F, I, J) b post px := ip_nx_iff ((ip_st_of f32_15).trans rfl)
theorem f32_16 : ip_fetch 32 16 = some (.getfield 136, 3) := by decide +kernel
set_option maxRecDepth 100000 in
theorem s32_16 {x0 : Nat} {x1 : Int32} {s0 : Nat} : ip_WP 32 16 [some (.ref x0), some (.int x1)] [.ref s0] (G, F, I, J) b post px ↔ (ip_isO G s0 1 = true ∧ ip_WP 32 19 [some (.ref x0), some (.int x1)] [F s0 38] (G, F, I, J) b post px) := ip_s_getf f32_16 (by decide +kernel)
theorem f32_19 : ip_fetch 32 19 = some (.iload_n 1, 1) := by decide +kernel
theorem s32_19 {x0 : Nat} {x1 : Int32} {s0 : Int32} : ip_WP 32 19 [some (.ref x0), some (.int x1)] [.int s0] (G, F, I, J) b post px ↔ ip_WP 32 20 [some (.ref x0), some (.int x1)] [.int x1, .int s0] (G, F, I, J) b post px := ip_nx_iff ((ip_st_of f32_19).trans rfl)
theorem f32_20 : ip_fetch 32 20 = some (.if_icmp .ne 7, 3) := by decide +kernel
theorem s32_20 {x0 : Nat} {x1 : Int32} {s0 : Int32} {s1 : Int32} : ip_WP 32 20 [some (.ref x0), some (.int x1)] [.int s1, .int s0] (G, F, I, J) b post px ↔ if ¬ s0 = s1 then ip_WP 32 27 [some (.ref x0), some (.int x1)] [] (G, F, I, J) b post px else ip_WP 32 23 [some (.ref x0), some (.int x1)] [] (G, F, I, J) b post px := ip_s_ic_ne f32_20 rfl
theorem f32_23 : ip_fetch 32 23 = some (.iconst 1, 1) := by decide +kernel
theorem s32_23 {x0 : Nat} {x1 : Int32} : ip_WP 32 23 [some (.ref x0), some (.int x1)] [] (G, F, I, J) b post px ↔ ip_WP 32 24 [some (.ref x0), some (.int x1)] [.int 1] (G, F, I, J) b post px := ip_s_iconst f32_23 (by decide)
theorem f32_24 : ip_fetch 32 24 = some (.goto 4, 3) := by decide +kernel
theorem s32_24 {x0 : Nat} {x1 : Int32} {s0 : Int32} : ip_WP 32 24 [some (.ref x0), some (.int x1)] [.int s0] (G, F, I, J) b post px ↔ ip_WP 32 28 [some (.ref x0), some (.int x1)] [.int s0] (G, F, I, J) b post px := ip_nx_iff ((ip_st_of f32_24).trans rfl)
theorem f32_27 : ip_fetch 32 27 = some (.iconst 0, 1) := by decide +kernel
theorem s32_27 {x0 : Nat} {x1 : Int32} : ip_WP 32 27 [some (.ref x0), some (.int x1)] [] (G, F, I, J) b post px ↔ ip_WP 32 28 [some (.ref x0), some (.int x1)] [.int 0] (G, F, I, J) b post px := ip_s_iconst f32_27 (by decide)
theorem f32_28 : ip_fetch 32 28 = some (.ireturn, 1) := by decide +kernel
theorem s32_28 {x0 : Nat} {x1 : Int32} {s0 : Int32} : ip_WP 32 28 [some (.ref x0), some (.int x1)] [.int s0] (G, F, I, J) b post px ↔ ((s0 = 0 ∨ s0 = 1) ∧ post (some (.int s0)) (G, F, I, J)) := ip_s_zret ((ip_st_of f32_28).trans rfl)
theorem f33_0 : ip_fetch 33 0 = some (.aload_n 0, 1) := by decide +kernel
theorem s33_0 {x0 : Nat} {x1 : Int32} : ip_WP 33 0 [some (.ref x0), some (.int x1)] [] (G, F, I, J) b post px ↔ ip_WP 33 1 [some (.ref x0), some (.int x1)] [.ref x0] (G, F, I, J) b post px := ip_nx_iff ((ip_st_of f33_0).trans rfl)
theorem f33_1 : ip_fetch 33 1 = some (.getfield 101, 3) := by decide +kernel
set_option maxRecDepth 100000 in
theorem s33_1 {x0 : Nat} {x1 : Int32} {s0 : Nat} : ip_WP 33 1 [some (.ref x0), some (.int x1)] [.ref s0] (G, F, I, J) b post px ↔ (ip_isO G s0 1 = true ∧ ip_WP 33 4 [some (.ref x0), some (.int x1)] [F s0 6] (G, F, I, J) b post px) := ip_s_getf f33_1 (by decide +kernel)
theorem f33_4 : ip_fetch 33 4 = some (.ifCond .ne 23, 3) := by decide +kernel
theorem s33_4 {x0 : Nat} {x1 : Int32} {s0 : Int32} : ip_WP 33 4 [some (.ref x0), some (.int x1)] [.int s0] (G, F, I, J) b post px ↔ if ¬ s0 = 0 then ip_WP 33 27 [some (.ref x0), some (.int x1)] [] (G, F, I, J) b post px else ip_WP 33 7 [some (.ref x0), some (.int x1)] [] (G, F, I, J) b post px := ip_s_if_ne f33_4 rfl
theorem f33_7 : ip_fetch 33 7 = some (.aload_n 0, 1) := by decide +kernel
theorem s33_7 {x0 : Nat} {x1 : Int32} : ip_WP 33 7 [some (.ref x0), some (.int x1)] [] (G, F, I, J) b post px ↔ ip_WP 33 8 [some (.ref x0), some (.int x1)] [.ref x0] (G, F, I, J) b post px := ip_nx_iff ((ip_st_of f33_7).trans rfl)
theorem f33_8 : ip_fetch 33 8 = some (.getfield 123, 3) := by decide +kernel
set_option maxRecDepth 100000 in
theorem s33_8 {x0 : Nat} {x1 : Int32} {s0 : Nat} : ip_WP 33 8 [some (.ref x0), some (.int x1)] [.ref s0] (G, F, I, J) b post px ↔ (ip_isO G s0 1 = true ∧ ip_WP 33 11 [some (.ref x0), some (.int x1)] [F s0 35] (G, F, I, J) b post px) := ip_s_getf f33_8 (by decide +kernel)
theorem f33_11 : ip_fetch 33 11 = some (.iconst 4, 1) := by decide +kernel
theorem s33_11 {x0 : Nat} {x1 : Int32} {s0 : Int32} : ip_WP 33 11 [some (.ref x0), some (.int x1)] [.int s0] (G, F, I, J) b post px ↔ ip_WP 33 12 [some (.ref x0), some (.int x1)] [.int 4, .int s0] (G, F, I, J) b post px := ip_s_iconst f33_11 (by decide)
theorem f33_12 : ip_fetch 33 12 = some (.if_icmp .ne 15, 3) := by decide +kernel
theorem s33_12 {x0 : Nat} {x1 : Int32} {s0 : Int32} {s1 : Int32} : ip_WP 33 12 [some (.ref x0), some (.int x1)] [.int s1, .int s0] (G, F, I, J) b post px ↔ if ¬ s0 = s1 then ip_WP 33 27 [some (.ref x0), some (.int x1)] [] (G, F, I, J) b post px else ip_WP 33 15 [some (.ref x0), some (.int x1)] [] (G, F, I, J) b post px := ip_s_ic_ne f33_12 rfl
theorem f33_15 : ip_fetch 33 15 = some (.aload_n 0, 1) := by decide +kernel
theorem s33_15 {x0 : Nat} {x1 : Int32} : ip_WP 33 15 [some (.ref x0), some (.int x1)] [] (G, F, I, J) b post px ↔ ip_WP 33 16 [some (.ref x0), some (.int x1)] [.ref x0] (G, F, I, J) b post px := ip_nx_iff ((ip_st_of f33_15).trans rfl)
theorem f33_16 : ip_fetch 33 16 = some (.getfield 136, 3) := by decide +kernel
set_option maxRecDepth 100000 in
theorem s33_16 {x0 : Nat} {x1 : Int32} {s0 : Nat} : ip_WP 33 16 [some (.ref x0), some (.int x1)] [.ref s0] (G, F, I, J) b post px ↔ (ip_isO G s0 1 = true ∧ ip_WP 33 19 [some (.ref x0), some (.int x1)] [F s0 38] (G, F, I, J) b post px) := ip_s_getf f33_16 (by decide +kernel)
theorem f33_19 : ip_fetch 33 19 = some (.iload_n 1, 1) := by decide +kernel
theorem s33_19 {x0 : Nat} {x1 : Int32} {s0 : Int32} : ip_WP 33 19 [some (.ref x0), some (.int x1)] [.int s0] (G, F, I, J) b post px ↔ ip_WP 33 20 [some (.ref x0), some (.int x1)] [.int x1, .int s0] (G, F, I, J) b post px := ip_nx_iff ((ip_st_of f33_19).trans rfl)
theorem f33_20 : ip_fetch 33 20 = some (.if_icmp .ne 7, 3) := by decide +kernel
theorem s33_20 {x0 : Nat} {x1 : Int32} {s0 : Int32} {s1 : Int32} : ip_WP 33 20 [some (.ref x0), some (.int x1)] [.int s1, .int s0] (G, F, I, J) b post px ↔ if ¬ s0 = s1 then ip_WP 33 27 [some (.ref x0), some (.int x1)] [] (G, F, I, J) b post px else ip_WP 33 23 [some (.ref x0), some (.int x1)] [] (G, F, I, J) b post px := ip_s_ic_ne f33_20 rfl
theorem f33_23 : ip_fetch 33 23 = some (.iconst 1, 1) := by decide +kernel
theorem s33_23 {x0 : Nat} {x1 : Int32} : ip_WP 33 23 [some (.ref x0), some (.int x1)] [] (G, F, I, J) b post px ↔ ip_WP 33 24 [some (.ref x0), some (.int x1)] [.int 1] (G, F, I, J) b post px := ip_s_iconst f33_23 (by decide)
theorem f33_24 : ip_fetch 33 24 = some (.goto 4, 3) := by decide +kernel
theorem s33_24 {x0 : Nat} {x1 : Int32} {s0 : Int32} : ip_WP 33 24 [some (.ref x0), some (.int x1)] [.int s0] (G, F, I, J) b post px ↔ ip_WP 33 28 [some (.ref x0), some (.int x1)] [.int s0] (G, F, I, J) b post px := ip_nx_iff ((ip_st_of f33_24).trans rfl)
theorem f33_27 : ip_fetch 33 27 = some (.iconst 0, 1) := by decide +kernel
theorem s33_27 {x0 : Nat} {x1 : Int32} : ip_WP 33 27 [some (.ref x0), some (.int x1)] [] (G, F, I, J) b post px ↔ ip_WP 33 28 [some (.ref x0), some (.int x1)] [.int 0] (G, F, I, J) b post px := ip_s_iconst f33_27 (by decide)
theorem f33_28 : ip_fetch 33 28 = some (.ireturn, 1) := by decide +kernel
theorem s33_28 {x0 : Nat} {x1 : Int32} {s0 : Int32} : ip_WP 33 28 [some (.ref x0), some (.int x1)] [.int s0] (G, F, I, J) b post px ↔ ((s0 = 0 ∨ s0 = 1) ∧ post (some (.int s0)) (G, F, I, J)) := ip_s_zret ((ip_st_of f33_28).trans rfl)
theorem f34_0 : ip_fetch 34 0 = some (.aload_n 0, 1) := by decide +kernel
theorem s34_0 {x0 : Nat} {x1 : Int32} : ip_WP 34 0 [some (.ref x0), some (.int x1)] [] (G, F, I, J) b post px ↔ ip_WP 34 1 [some (.ref x0), some (.int x1)] [.ref x0] (G, F, I, J) b post px := ip_nx_iff ((ip_st_of f34_0).trans rfl)
theorem f34_1 : ip_fetch 34 1 = some (.getfield 101, 3) := by decide +kernel
set_option maxRecDepth 100000 in
theorem s34_1 {x0 : Nat} {x1 : Int32} {s0 : Nat} : ip_WP 34 1 [some (.ref x0), some (.int x1)] [.ref s0] (G, F, I, J) b post px ↔ (ip_isO G s0 1 = true ∧ ip_WP 34 4 [some (.ref x0), some (.int x1)] [F s0 6] (G, F, I, J) b post px) := ip_s_getf f34_1 (by decide +kernel)
theorem f34_4 : ip_fetch 34 4 = some (.ifCond .le 4, 3) := by decide +kernel
theorem s34_4 {x0 : Nat} {x1 : Int32} {s0 : Int32} : ip_WP 34 4 [some (.ref x0), some (.int x1)] [.int s0] (G, F, I, J) b post px ↔ if s0 ≤ 0 then ip_WP 34 8 [some (.ref x0), some (.int x1)] [] (G, F, I, J) b post px else ip_WP 34 7 [some (.ref x0), some (.int x1)] [] (G, F, I, J) b post px := ip_s_if_le f34_4 rfl
theorem f34_7 : ip_fetch 34 7 = some (.return_, 1) := by decide +kernel
theorem s34_7 {x0 : Nat} {x1 : Int32} : ip_WP 34 7 [some (.ref x0), some (.int x1)] [] (G, F, I, J) b post px ↔ post none (G, F, I, J) := ip_rt_iff ((ip_st_of f34_7).trans rfl)
theorem f34_8 : ip_fetch 34 8 = some (.aload_n 0, 1) := by decide +kernel
theorem s34_8 {x0 : Nat} {x1 : Int32} : ip_WP 34 8 [some (.ref x0), some (.int x1)] [] (G, F, I, J) b post px ↔ ip_WP 34 9 [some (.ref x0), some (.int x1)] [.ref x0] (G, F, I, J) b post px := ip_nx_iff ((ip_st_of f34_8).trans rfl)
theorem f34_9 : ip_fetch 34 9 = some (.iload_n 1, 1) := by decide +kernel
theorem s34_9 {x0 : Nat} {x1 : Int32} {s0 : Nat} : ip_WP 34 9 [some (.ref x0), some (.int x1)] [.ref s0] (G, F, I, J) b post px ↔ ip_WP 34 10 [some (.ref x0), some (.int x1)] [.int x1, .ref s0] (G, F, I, J) b post px := ip_nx_iff ((ip_st_of f34_9).trans rfl)
theorem f34_10 : ip_fetch 34 10 = some (.invokevirtual 143, 3) := by decide +kernel
set_option maxRecDepth 100000 in
theorem s34_10 {x0 : Nat} {x1 : Int32} {s0 : Nat} {s1 : Int32} : ip_WP 34 10 [some (.ref x0), some (.int x1)] [.int s1, .ref s0] (G, F, I, J) b post px ↔ (ip_isO G s0 1 = true ∧ ip_WP 32 0 [some (.ref s0), some (.int s1)] [] (G, F, I, J) (0, 0) (fun r h' => ip_WP 34 13 [some (.ref x0), some (.int x1)] (r.toList ++ []) h' b post px) (fun _ _ => False)) := ip_ck_iff (x := ip_cl 32 [some (.ref s0), some (.int s1)] [] (0, 0) b) ((ip_st_of f34_10).trans rfl) (ip_cl_iff)
theorem f34_13 : ip_fetch 34 13 = some (.ifCond .ne 15, 3) := by decide +kernel
theorem s34_13 {x0 : Nat} {x1 : Int32} {s0 : Int32} : ip_WP 34 13 [some (.ref x0), some (.int x1)] [.int s0] (G, F, I, J) b post px ↔ if ¬ s0 = 0 then ip_WP 34 28 [some (.ref x0), some (.int x1)] [] (G, F, I, J) b post px else ip_WP 34 16 [some (.ref x0), some (.int x1)] [] (G, F, I, J) b post px := ip_s_if_ne f34_13 rfl
theorem f34_16 : ip_fetch 34 16 = some (.aload_n 0, 1) := by decide +kernel
theorem s34_16 {x0 : Nat} {x1 : Int32} : ip_WP 34 16 [some (.ref x0), some (.int x1)] [] (G, F, I, J) b post px ↔ ip_WP 34 17 [some (.ref x0), some (.int x1)] [.ref x0] (G, F, I, J) b post px := ip_nx_iff ((ip_st_of f34_16).trans rfl)
theorem f34_17 : ip_fetch 34 17 = some (.iconst 2, 1) := by decide +kernel
theorem s34_17 {x0 : Nat} {x1 : Int32} {s0 : Nat} : ip_WP 34 17 [some (.ref x0), some (.int x1)] [.ref s0] (G, F, I, J) b post px ↔ ip_WP 34 18 [some (.ref x0), some (.int x1)] [.int 2, .ref s0] (G, F, I, J) b post px := ip_s_iconst f34_17 (by decide)
theorem f34_18 : ip_fetch 34 18 = some (.aload_n 0, 1) := by decide +kernel
theorem s34_18 {x0 : Nat} {x1 : Int32} {s0 : Nat} {s1 : Int32} : ip_WP 34 18 [some (.ref x0), some (.int x1)] [.int s1, .ref s0] (G, F, I, J) b post px ↔ ip_WP 34 19 [some (.ref x0), some (.int x1)] [.ref x0, .int s1, .ref s0] (G, F, I, J) b post px := ip_nx_iff ((ip_st_of f34_18).trans rfl)
theorem f34_19 : ip_fetch 34 19 = some (.getfield 117, 3) := by decide +kernel
set_option maxRecDepth 100000 in
theorem s34_19 {x0 : Nat} {x1 : Int32} {s0 : Nat} {s1 : Int32} {s2 : Nat} : ip_WP 34 19 [some (.ref x0), some (.int x1)] [.ref s2, .int s1, .ref s0] (G, F, I, J) b post px ↔ (ip_isO G s2 1 = true ∧ ip_WP 34 22 [some (.ref x0), some (.int x1)] [F s2 36, .int s1, .ref s0] (G, F, I, J) b post px) := ip_s_getf f34_19 (by decide +kernel)
theorem f34_22 : ip_fetch 34 22 = some (.invokevirtual 139, 3) := by decide +kernel
set_option maxRecDepth 100000 in
theorem s34_22 {x0 : Nat} {x1 : Int32} {s0 : Nat} {s1 : Int32} {s2 : Int32} : ip_WP 34 22 [some (.ref x0), some (.int x1)] [.int s2, .int s1, .ref s0] (G, F, I, J) b post px ↔ (ip_isO G s0 1 = true ∧ ip_WP 25 0 [some (.ref s0), some (.int s1), some (.int s2)] [] (G, F, I, J) (0, 0) (fun r h' => ip_WP 34 25 [some (.ref x0), some (.int x1)] (r.toList ++ []) h' b post px) (fun _ _ => False)) := ip_ck_iff (x := ip_cl 25 [some (.ref s0), some (.int s1), some (.int s2)] [] (0, 0) b) ((ip_st_of f34_22).trans rfl) (ip_cl_iff)
theorem f34_25 : ip_fetch 34 25 = some (.goto 7, 3) := by decide +kernel
theorem s34_25 {x0 : Nat} {x1 : Int32} : ip_WP 34 25 [some (.ref x0), some (.int x1)] [] (G, F, I, J) b post px ↔ ip_WP 34 32 [some (.ref x0), some (.int x1)] [] (G, F, I, J) b post px := ip_nx_iff ((ip_st_of f34_25).trans rfl)
theorem f34_28 : ip_fetch 34 28 = some (.aload_n 0, 1) := by decide +kernel
theorem s34_28 {x0 : Nat} {x1 : Int32} : ip_WP 34 28 [some (.ref x0), some (.int x1)] [] (G, F, I, J) b post px ↔ ip_WP 34 29 [some (.ref x0), some (.int x1)] [.ref x0] (G, F, I, J) b post px := ip_nx_iff ((ip_st_of f34_28).trans rfl)
theorem f34_29 : ip_fetch 34 29 = some (.invokevirtual 146, 3) := by decide +kernel
set_option maxRecDepth 100000 in
theorem s34_29 {x0 : Nat} {x1 : Int32} {s0 : Nat} : ip_WP 34 29 [some (.ref x0), some (.int x1)] [.ref s0] (G, F, I, J) b post px ↔ (ip_isO G s0 1 = true ∧ ip_WP 31 0 [some (.ref s0), none] [] (G, F, I, J) (0, 0) (fun r h' => ip_WP 34 32 [some (.ref x0), some (.int x1)] (r.toList ++ []) h' b post px) (fun _ _ => False)) := ip_ck_iff (x := ip_cl 31 [some (.ref s0), none] [] (0, 0) b) ((ip_st_of f34_29).trans rfl) (ip_cl_iff)
theorem f34_32 : ip_fetch 34 32 = some (.return_, 1) := by decide +kernel
theorem s34_32 {x0 : Nat} {x1 : Int32} : ip_WP 34 32 [some (.ref x0), some (.int x1)] [] (G, F, I, J) b post px ↔ post none (G, F, I, J) := ip_rt_iff ((ip_st_of f34_32).trans rfl)
theorem f35_0 : ip_fetch 35 0 = some (.aload_n 0, 1) := by decide +kernel
theorem s35_0 {x0 : Nat} : ip_WP 35 0 [some (.ref x0)] [] (G, F, I, J) b post px ↔ ip_WP 35 1 [some (.ref x0)] [.ref x0] (G, F, I, J) b post px := ip_nx_iff ((ip_st_of f35_0).trans rfl)
theorem f35_1 : ip_fetch 35 1 = some (.bipush 44, 2) := by decide +kernel
theorem s35_1 {x0 : Nat} {s0 : Nat} : ip_WP 35 1 [some (.ref x0)] [.ref s0] (G, F, I, J) b post px ↔ ip_WP 35 3 [some (.ref x0)] [.int 44, .ref s0] (G, F, I, J) b post px := ip_s_bipush f35_1 (by decide)
theorem f35_3 : ip_fetch 35 3 = some (.invokevirtual 143, 3) := by decide +kernel
set_option maxRecDepth 100000 in
theorem s35_3 {x0 : Nat} {s0 : Nat} {s1 : Int32} : ip_WP 35 3 [some (.ref x0)] [.int s1, .ref s0] (G, F, I, J) b post px ↔ (ip_isO G s0 1 = true ∧ ip_WP 32 0 [some (.ref s0), some (.int s1)] [] (G, F, I, J) (0, 0) (fun r h' => ip_WP 35 6 [some (.ref x0)] (r.toList ++ []) h' b post px) (fun _ _ => False)) := ip_ck_iff (x := ip_cl 32 [some (.ref s0), some (.int s1)] [] (0, 0) b) ((ip_st_of f35_3).trans rfl) (ip_cl_iff)
theorem f35_6 : ip_fetch 35 6 = some (.ifCond .ne 5, 3) := by decide +kernel
theorem s35_6 {x0 : Nat} {s0 : Int32} : ip_WP 35 6 [some (.ref x0)] [.int s0] (G, F, I, J) b post px ↔ if ¬ s0 = 0 then ip_WP 35 11 [some (.ref x0)] [] (G, F, I, J) b post px else ip_WP 35 9 [some (.ref x0)] [] (G, F, I, J) b post px := ip_s_if_ne f35_6 rfl
theorem f35_9 : ip_fetch 35 9 = some (.iconst 0, 1) := by decide +kernel
theorem s35_9 {x0 : Nat} : ip_WP 35 9 [some (.ref x0)] [] (G, F, I, J) b post px ↔ ip_WP 35 10 [some (.ref x0)] [.int 0] (G, F, I, J) b post px := ip_s_iconst f35_9 (by decide)
theorem f35_10 : ip_fetch 35 10 = some (.ireturn, 1) := by decide +kernel
theorem s35_10 {x0 : Nat} {s0 : Int32} : ip_WP 35 10 [some (.ref x0)] [.int s0] (G, F, I, J) b post px ↔ ((s0 = 0 ∨ s0 = 1) ∧ post (some (.int s0)) (G, F, I, J)) := ip_s_zret ((ip_st_of f35_10).trans rfl)
theorem f35_11 : ip_fetch 35 11 = some (.aload_n 0, 1) := by decide +kernel
theorem s35_11 {x0 : Nat} : ip_WP 35 11 [some (.ref x0)] [] (G, F, I, J) b post px ↔ ip_WP 35 12 [some (.ref x0)] [.ref x0] (G, F, I, J) b post px := ip_nx_iff ((ip_st_of f35_11).trans rfl)
theorem f35_12 : ip_fetch 35 12 = some (.invokevirtual 146, 3) := by decide +kernel
set_option maxRecDepth 100000 in
theorem s35_12 {x0 : Nat} {s0 : Nat} : ip_WP 35 12 [some (.ref x0)] [.ref s0] (G, F, I, J) b post px ↔ (ip_isO G s0 1 = true ∧ ip_WP 31 0 [some (.ref s0), none] [] (G, F, I, J) (0, 0) (fun r h' => ip_WP 35 15 [some (.ref x0)] (r.toList ++ []) h' b post px) (fun _ _ => False)) := ip_ck_iff (x := ip_cl 31 [some (.ref s0), none] [] (0, 0) b) ((ip_st_of f35_12).trans rfl) (ip_cl_iff)
theorem f35_15 : ip_fetch 35 15 = some (.aload_n 0, 1) := by decide +kernel
theorem s35_15 {x0 : Nat} : ip_WP 35 15 [some (.ref x0)] [] (G, F, I, J) b post px ↔ ip_WP 35 16 [some (.ref x0)] [.ref x0] (G, F, I, J) b post px := ip_nx_iff ((ip_st_of f35_15).trans rfl)
theorem f35_16 : ip_fetch 35 16 = some (.getfield 101, 3) := by decide +kernel
set_option maxRecDepth 100000 in
theorem s35_16 {x0 : Nat} {s0 : Nat} : ip_WP 35 16 [some (.ref x0)] [.ref s0] (G, F, I, J) b post px ↔ (ip_isO G s0 1 = true ∧ ip_WP 35 19 [some (.ref x0)] [F s0 6] (G, F, I, J) b post px) := ip_s_getf f35_16 (by decide +kernel)
theorem f35_19 : ip_fetch 35 19 = some (.ifCond .ne 7, 3) := by decide +kernel
theorem s35_19 {x0 : Nat} {s0 : Int32} : ip_WP 35 19 [some (.ref x0)] [.int s0] (G, F, I, J) b post px ↔ if ¬ s0 = 0 then ip_WP 35 26 [some (.ref x0)] [] (G, F, I, J) b post px else ip_WP 35 22 [some (.ref x0)] [] (G, F, I, J) b post px := ip_s_if_ne f35_19 rfl
theorem f35_22 : ip_fetch 35 22 = some (.iconst 1, 1) := by decide +kernel
theorem s35_22 {x0 : Nat} : ip_WP 35 22 [some (.ref x0)] [] (G, F, I, J) b post px ↔ ip_WP 35 23 [some (.ref x0)] [.int 1] (G, F, I, J) b post px := ip_s_iconst f35_22 (by decide)
theorem f35_23 : ip_fetch 35 23 = some (.goto 4, 3) := by decide +kernel
theorem s35_23 {x0 : Nat} {s0 : Int32} : ip_WP 35 23 [some (.ref x0)] [.int s0] (G, F, I, J) b post px ↔ ip_WP 35 27 [some (.ref x0)] [.int s0] (G, F, I, J) b post px := ip_nx_iff ((ip_st_of f35_23).trans rfl)
theorem f35_26 : ip_fetch 35 26 = some (.iconst 0, 1) := by decide +kernel
theorem s35_26 {x0 : Nat} : ip_WP 35 26 [some (.ref x0)] [] (G, F, I, J) b post px ↔ ip_WP 35 27 [some (.ref x0)] [.int 0] (G, F, I, J) b post px := ip_s_iconst f35_26 (by decide)
theorem f35_27 : ip_fetch 35 27 = some (.ireturn, 1) := by decide +kernel
theorem s35_27 {x0 : Nat} {s0 : Int32} : ip_WP 35 27 [some (.ref x0)] [.int s0] (G, F, I, J) b post px ↔ ((s0 = 0 ∨ s0 = 1) ∧ post (some (.int s0)) (G, F, I, J)) := ip_s_zret ((ip_st_of f35_27).trans rfl)
theorem f36_0 : ip_fetch 36 0 = some (.aload_n 0, 1) := by decide +kernel
theorem s36_0 {x0 : Nat} {x1 : Int32} {x2 : Option Value} : ip_WP 36 0 [some (.ref x0), some (.int x1), x2] [] (G, F, I, J) b post px ↔ ip_WP 36 1 [some (.ref x0), some (.int x1), x2] [.ref x0] (G, F, I, J) b post px := ip_nx_iff ((ip_st_of f36_0).trans rfl)
theorem f36_1 : ip_fetch 36 1 = some (.getfield 101, 3) := by decide +kernel
set_option maxRecDepth 100000 in
theorem s36_1 {x0 : Nat} {x1 : Int32} {x2 : Option Value} {s0 : Nat} : ip_WP 36 1 [some (.ref x0), some (.int x1), x2] [.ref s0] (G, F, I, J) b post px ↔ (ip_isO G s0 1 = true ∧ ip_WP 36 4 [some (.ref x0), some (.int x1), x2] [F s0 6] (G, F, I, J) b post px) := ip_s_getf f36_1 (by decide +kernel)
theorem f36_4 : ip_fetch 36 4 = some (.ifCond .le 5, 3) := by decide +kernel
theorem s36_4 {x0 : Nat} {x1 : Int32} {x2 : Option Value} {s0 : Int32} : ip_WP 36 4 [some (.ref x0), some (.int x1), x2] [.int s0] (G, F, I, J) b post px ↔ if s0 ≤ 0 then ip_WP 36 9 [some (.ref x0), some (.int x1), x2] [] (G, F, I, J) b post px else ip_WP 36 7 [some (.ref x0), some (.int x1), x2] [] (G, F, I, J) b post px := ip_s_if_le f36_4 rfl
theorem f36_7 : ip_fetch 36 7 = some (.iconst 0, 1) := by decide +kernel
theorem s36_7 {x0 : Nat} {x1 : Int32} {x2 : Option Value} : ip_WP 36 7 [some (.ref x0), some (.int x1), x2] [] (G, F, I, J) b post px ↔ ip_WP 36 8 [some (.ref x0), some (.int x1), x2] [.int 0] (G, F, I, J) b post px := ip_s_iconst f36_7 (by decide)
theorem f36_8 : ip_fetch 36 8 = some (.ireturn, 1) := by decide +kernel
theorem s36_8 {x0 : Nat} {x1 : Int32} {x2 : Option Value} {s0 : Int32} : ip_WP 36 8 [some (.ref x0), some (.int x1), x2] [.int s0] (G, F, I, J) b post px ↔ post (some (.int s0)) (G, F, I, J) := ip_rt_iff ((ip_st_of f36_8).trans rfl)
theorem f36_9 : ip_fetch 36 9 = some (.aload_n 0, 1) := by decide +kernel
theorem s36_9 {x0 : Nat} {x1 : Int32} {x2 : Option Value} : ip_WP 36 9 [some (.ref x0), some (.int x1), x2] [] (G, F, I, J) b post px ↔ ip_WP 36 10 [some (.ref x0), some (.int x1), x2] [.ref x0] (G, F, I, J) b post px := ip_nx_iff ((ip_st_of f36_9).trans rfl)
theorem f36_10 : ip_fetch 36 10 = some (.getfield 136, 3) := by decide +kernel
set_option maxRecDepth 100000 in
theorem s36_10 {x0 : Nat} {x1 : Int32} {x2 : Option Value} {s0 : Nat} : ip_WP 36 10 [some (.ref x0), some (.int x1), x2] [.ref s0] (G, F, I, J) b post px ↔ (ip_isO G s0 1 = true ∧ ip_WP 36 13 [some (.ref x0), some (.int x1), x2] [F s0 38] (G, F, I, J) b post px) := ip_s_getf f36_10 (by decide +kernel)
theorem f36_13 : ip_fetch 36 13 = some (.istore_n 2, 1) := by decide +kernel
theorem s36_13 {x0 : Nat} {x1 : Int32} {x2 : Option Value} {s0 : Int32} : ip_WP 36 13 [some (.ref x0), some (.int x1), x2] [.int s0] (G, F, I, J) b post px ↔ ip_WP 36 14 [some (.ref x0), some (.int x1), some (.int s0)] [] (G, F, I, J) b post px := ip_nx_iff ((ip_st_of f36_13).trans rfl)
theorem f36_14 : ip_fetch 36 14 = some (.aload_n 0, 1) := by decide +kernel
theorem s36_14 {x0 : Nat} {x1 : Int32} {x2 : Int32} : ip_WP 36 14 [some (.ref x0), some (.int x1), some (.int x2)] [] (G, F, I, J) b post px ↔ ip_WP 36 15 [some (.ref x0), some (.int x1), some (.int x2)] [.ref x0] (G, F, I, J) b post px := ip_nx_iff ((ip_st_of f36_14).trans rfl)
theorem f36_15 : ip_fetch 36 15 = some (.getfield 123, 3) := by decide +kernel
set_option maxRecDepth 100000 in
theorem s36_15 {x0 : Nat} {x1 : Int32} {x2 : Int32} {s0 : Nat} : ip_WP 36 15 [some (.ref x0), some (.int x1), some (.int x2)] [.ref s0] (G, F, I, J) b post px ↔ (ip_isO G s0 1 = true ∧ ip_WP 36 18 [some (.ref x0), some (.int x1), some (.int x2)] [F s0 35] (G, F, I, J) b post px) := ip_s_getf f36_15 (by decide +kernel)
theorem f36_18 : ip_fetch 36 18 = some (.iconst 2, 1) := by decide +kernel
theorem s36_18 {x0 : Nat} {x1 : Int32} {x2 : Int32} {s0 : Int32} : ip_WP 36 18 [some (.ref x0), some (.int x1), some (.int x2)] [.int s0] (G, F, I, J) b post px ↔ ip_WP 36 19 [some (.ref x0), some (.int x1), some (.int x2)] [.int 2, .int s0] (G, F, I, J) b post px := ip_s_iconst f36_18 (by decide)
theorem f36_19 : ip_fetch 36 19 = some (.if_icmp .eq 15, 3) := by decide +kernel
theorem s36_19 {x0 : Nat} {x1 : Int32} {x2 : Int32} {s0 : Int32} {s1 : Int32} : ip_WP 36 19 [some (.ref x0), some (.int x1), some (.int x2)] [.int s1, .int s0] (G, F, I, J) b post px ↔ if s0 = s1 then ip_WP 36 34 [some (.ref x0), some (.int x1), some (.int x2)] [] (G, F, I, J) b post px else ip_WP 36 22 [some (.ref x0), some (.int x1), some (.int x2)] [] (G, F, I, J) b post px := ip_s_ic_eq f36_19 rfl
theorem f36_22 : ip_fetch 36 22 = some (.aload_n 0, 1) := by decide +kernel
theorem s36_22 {x0 : Nat} {x1 : Int32} {x2 : Int32} : ip_WP 36 22 [some (.ref x0), some (.int x1), some (.int x2)] [] (G, F, I, J) b post px ↔ ip_WP 36 23 [some (.ref x0), some (.int x1), some (.int x2)] [.ref x0] (G, F, I, J) b post px := ip_nx_iff ((ip_st_of f36_22).trans rfl)
theorem f36_23 : ip_fetch 36 23 = some (.iconst 2, 1) := by decide +kernel
theorem s36_23 {x0 : Nat} {x1 : Int32} {x2 : Int32} {s0 : Nat} : ip_WP 36 23 [some (.ref x0), some (.int x1), some (.int x2)] [.ref s0] (G, F, I, J) b post px ↔ ip_WP 36 24 [some (.ref x0), some (.int x1), some (.int x2)] [.int 2, .ref s0] (G, F, I, J) b post px := ip_s_iconst f36_23 (by decide)
theorem f36_24 : ip_fetch 36 24 = some (.aload_n 0, 1) := by decide +kernel
theorem s36_24 {x0 : Nat} {x1 : Int32} {x2 : Int32} {s0 : Nat} {s1 : Int32} : ip_WP 36 24 [some (.ref x0), some (.int x1), some (.int x2)] [.int s1, .ref s0] (G, F, I, J) b post px ↔ ip_WP 36 25 [some (.ref x0), some (.int x1), some (.int x2)] [.ref x0, .int s1, .ref s0] (G, F, I, J) b post px := ip_nx_iff ((ip_st_of f36_24).trans rfl)
theorem f36_25 : ip_fetch 36 25 = some (.getfield 117, 3) := by decide +kernel
set_option maxRecDepth 100000 in
theorem s36_25 {x0 : Nat} {x1 : Int32} {x2 : Int32} {s0 : Nat} {s1 : Int32} {s2 : Nat} : ip_WP 36 25 [some (.ref x0), some (.int x1), some (.int x2)] [.ref s2, .int s1, .ref s0] (G, F, I, J) b post px ↔ (ip_isO G s2 1 = true ∧ ip_WP 36 28 [some (.ref x0), some (.int x1), some (.int x2)] [F s2 36, .int s1, .ref s0] (G, F, I, J) b post px) := ip_s_getf f36_25 (by decide +kernel)
theorem f36_28 : ip_fetch 36 28 = some (.invokevirtual 139, 3) := by decide +kernel
set_option maxRecDepth 100000 in
theorem s36_28 {x0 : Nat} {x1 : Int32} {x2 : Int32} {s0 : Nat} {s1 : Int32} {s2 : Int32} : ip_WP 36 28 [some (.ref x0), some (.int x1), some (.int x2)] [.int s2, .int s1, .ref s0] (G, F, I, J) b post px ↔ (ip_isO G s0 1 = true ∧ ip_WP 25 0 [some (.ref s0), some (.int s1), some (.int s2)] [] (G, F, I, J) (0, 0) (fun r h' => ip_WP 36 31 [some (.ref x0), some (.int x1), some (.int x2)] (r.toList ++ []) h' b post px) (fun _ _ => False)) := ip_ck_iff (x := ip_cl 25 [some (.ref s0), some (.int s1), some (.int s2)] [] (0, 0) b) ((ip_st_of f36_28).trans rfl) (ip_cl_iff)
theorem f36_31 : ip_fetch 36 31 = some (.goto 29, 3) := by decide +kernel
theorem s36_31 {x0 : Nat} {x1 : Int32} {x2 : Int32} : ip_WP 36 31 [some (.ref x0), some (.int x1), some (.int x2)] [] (G, F, I, J) b post px ↔ ip_WP 36 60 [some (.ref x0), some (.int x1), some (.int x2)] [] (G, F, I, J) b post px := ip_nx_iff ((ip_st_of f36_31).trans rfl)
theorem f36_34 : ip_fetch 36 34 = some (.iload_n 2, 1) := by decide +kernel
theorem s36_34 {x0 : Nat} {x1 : Int32} {x2 : Int32} : ip_WP 36 34 [some (.ref x0), some (.int x1), some (.int x2)] [] (G, F, I, J) b post px ↔ ip_WP 36 35 [some (.ref x0), some (.int x1), some (.int x2)] [.int x2] (G, F, I, J) b post px := ip_nx_iff ((ip_st_of f36_34).trans rfl)
theorem f36_35 : ip_fetch 36 35 = some (.iconst 1, 1) := by decide +kernel
theorem s36_35 {x0 : Nat} {x1 : Int32} {x2 : Int32} {s0 : Int32} : ip_WP 36 35 [some (.ref x0), some (.int x1), some (.int x2)] [.int s0] (G, F, I, J) b post px ↔ ip_WP 36 36 [some (.ref x0), some (.int x1), some (.int x2)] [.int 1, .int s0] (G, F, I, J) b post px := ip_s_iconst f36_35 (by decide)
theorem f36_36 : ip_fetch 36 36 = some (.iload_n 1, 1) := by decide +kernel
theorem s36_36 {x0 : Nat} {x1 : Int32} {x2 : Int32} {s0 : Int32} {s1 : Int32} : ip_WP 36 36 [some (.ref x0), some (.int x1), some (.int x2)] [.int s1, .int s0] (G, F, I, J) b post px ↔ ip_WP 36 37 [some (.ref x0), some (.int x1), some (.int x2)] [.int x1, .int s1, .int s0] (G, F, I, J) b post px := ip_nx_iff ((ip_st_of f36_36).trans rfl)
theorem f36_37 : ip_fetch 36 37 = some (.invokestatic 97, 3) := by decide +kernel
set_option maxRecDepth 100000 in
theorem s36_37 {x0 : Nat} {x1 : Int32} {x2 : Int32} {s0 : Int32} {s1 : Int32} {s2 : Int32} : ip_WP 36 37 [some (.ref x0), some (.int x1), some (.int x2)] [.int s2, .int s1, .int s0] (G, F, I, J) b post px ↔ ip_WP 22 0 [some (.int s0), some (.int s1), some (.int s2)] [] (G, F, I, J) (0, 0) (fun r h' => ip_WP 36 40 [some (.ref x0), some (.int x1), some (.int x2)] (r.toList ++ []) h' b post px) (fun _ _ => False) := ip_cl_iff ((ip_st_of f36_37).trans (rfl : _ = ip_cl 22 [some (.int s0), some (.int s1), some (.int s2)] [] (0, 0) b))
theorem f36_40 : ip_fetch 36 40 = some (.ifCond .ne 16, 3) := by decide +kernel
theorem s36_40 {x0 : Nat} {x1 : Int32} {x2 : Int32} {s0 : Int32} : ip_WP 36 40 [some (.ref x0), some (.int x1), some (.int x2)] [.int s0] (G, F, I, J) b post px ↔ if ¬ s0 = 0 then ip_WP 36 56 [some (.ref x0), some (.int x1), some (.int x2)] [] (G, F, I, J) b post px else ip_WP 36 43 [some (.ref x0), some (.int x1), some (.int x2)] [] (G, F, I, J) b post px := ip_s_if_ne f36_40 rfl
theorem f36_43 : ip_fetch 36 43 = some (.aload_n 0, 1) := by decide +kernel
theorem s36_43 {x0 : Nat} {x1 : Int32} {x2 : Int32} : ip_WP 36 43 [some (.ref x0), some (.int x1), some (.int x2)] [] (G, F, I, J) b post px ↔ ip_WP 36 44 [some (.ref x0), some (.int x1), some (.int x2)] [.ref x0] (G, F, I, J) b post px := ip_nx_iff ((ip_st_of f36_43).trans rfl)
theorem f36_44 : ip_fetch 36 44 = some (.bipush 8, 2) := by decide +kernel
theorem s36_44 {x0 : Nat} {x1 : Int32} {x2 : Int32} {s0 : Nat} : ip_WP 36 44 [some (.ref x0), some (.int x1), some (.int x2)] [.ref s0] (G, F, I, J) b post px ↔ ip_WP 36 46 [some (.ref x0), some (.int x1), some (.int x2)] [.int 8, .ref s0] (G, F, I, J) b post px := ip_s_bipush f36_44 (by decide)
theorem f36_46 : ip_fetch 36 46 = some (.aload_n 0, 1) := by decide +kernel
theorem s36_46 {x0 : Nat} {x1 : Int32} {x2 : Int32} {s0 : Nat} {s1 : Int32} : ip_WP 36 46 [some (.ref x0), some (.int x1), some (.int x2)] [.int s1, .ref s0] (G, F, I, J) b post px ↔ ip_WP 36 47 [some (.ref x0), some (.int x1), some (.int x2)] [.ref x0, .int s1, .ref s0] (G, F, I, J) b post px := ip_nx_iff ((ip_st_of f36_46).trans rfl)
theorem f36_47 : ip_fetch 36 47 = some (.getfield 117, 3) := by decide +kernel
set_option maxRecDepth 100000 in
theorem s36_47 {x0 : Nat} {x1 : Int32} {x2 : Int32} {s0 : Nat} {s1 : Int32} {s2 : Nat} : ip_WP 36 47 [some (.ref x0), some (.int x1), some (.int x2)] [.ref s2, .int s1, .ref s0] (G, F, I, J) b post px ↔ (ip_isO G s2 1 = true ∧ ip_WP 36 50 [some (.ref x0), some (.int x1), some (.int x2)] [F s2 36, .int s1, .ref s0] (G, F, I, J) b post px) := ip_s_getf f36_47 (by decide +kernel)
theorem f36_50 : ip_fetch 36 50 = some (.invokevirtual 139, 3) := by decide +kernel
set_option maxRecDepth 100000 in
theorem s36_50 {x0 : Nat} {x1 : Int32} {x2 : Int32} {s0 : Nat} {s1 : Int32} {s2 : Int32} : ip_WP 36 50 [some (.ref x0), some (.int x1), some (.int x2)] [.int s2, .int s1, .ref s0] (G, F, I, J) b post px ↔ (ip_isO G s0 1 = true ∧ ip_WP 25 0 [some (.ref s0), some (.int s1), some (.int s2)] [] (G, F, I, J) (0, 0) (fun r h' => ip_WP 36 53 [some (.ref x0), some (.int x1), some (.int x2)] (r.toList ++ []) h' b post px) (fun _ _ => False)) := ip_ck_iff (x := ip_cl 25 [some (.ref s0), some (.int s1), some (.int s2)] [] (0, 0) b) ((ip_st_of f36_50).trans rfl) (ip_cl_iff)
theorem f36_53 : ip_fetch 36 53 = some (.goto 7, 3) := by decide +kernel
theorem s36_53 {x0 : Nat} {x1 : Int32} {x2 : Int32} : ip_WP 36 53 [some (.ref x0), some (.int x1), some (.int x2)] [] (G, F, I, J) b post px ↔ ip_WP 36 60 [some (.ref x0), some (.int x1), some (.int x2)] [] (G, F, I, J) b post px := ip_nx_iff ((ip_st_of f36_53).trans rfl)
theorem f36_56 : ip_fetch 36 56 = some (.aload_n 0, 1) := by decide +kernel
theorem s36_56 {x0 : Nat} {x1 : Int32} {x2 : Int32} : ip_WP 36 56 [some (.ref x0), some (.int x1), some (.int x2)] [] (G, F, I, J) b post px ↔ ip_WP 36 57 [some (.ref x0), some (.int x1), some (.int x2)] [.ref x0] (G, F, I, J) b post px := ip_nx_iff ((ip_st_of f36_56).trans rfl)
theorem f36_57 : ip_fetch 36 57 = some (.invokevirtual 146, 3) := by decide +kernel
set_option maxRecDepth 100000 in
theorem s36_57 {x0 : Nat} {x1 : Int32} {x2 : Int32} {s0 : Nat} : ip_WP 36 57 [some (.ref x0), some (.int x1), some (.int x2)] [.ref s0] (G, F, I, J) b post px ↔ (ip_isO G s0 1 = true ∧ ip_WP 31 0 [some (.ref s0), none] [] (G, F, I, J) (0, 0) (fun r h' => ip_WP 36 60 [some (.ref x0), some (.int x1), some (.int x2)] (r.toList ++ []) h' b post px) (fun _ _ => False)) := ip_ck_iff (x := ip_cl 31 [some (.ref s0), none] [] (0, 0) b) ((ip_st_of f36_57).trans rfl) (ip_cl_iff)
theorem f36_60 : ip_fetch 36 60 = some (.iload_n 2, 1) := by decide +kernel
theorem s36_60 {x0 : Nat} {x1 : Int32} {x2 : Int32} : ip_WP 36 60 [some (.ref x0), some (.int x1), some (.int x2)] [] (G, F, I, J) b post px ↔ ip_WP 36 61 [some (.ref x0), some (.int x1), some (.int x2)] [.int x2] (G, F, I, J) b post px := ip_nx_iff ((ip_st_of f36_60).trans rfl)
theorem f36_61 : ip_fetch 36 61 = some (.ireturn, 1) := by decide +kernel
theorem s36_61 {x0 : Nat} {x1 : Int32} {x2 : Int32} {s0 : Int32} : ip_WP 36 61 [some (.ref x0), some (.int x1), some (.int x2)] [.int s0] (G, F, I, J) b post px ↔ post (some (.int s0)) (G, F, I, J) := ip_rt_iff ((ip_st_of f36_61).trans rfl)
theorem f37_0 : ip_fetch 37 0 = some (.aload_n 0, 1) := by decide +kernel
theorem s37_0 {x0 : Nat} {x1 : Int32} {x2 : Option Value} {x3 : Option Value} : ip_WP 37 0 [some (.ref x0), some (.int x1), x2, x3] [] (G, F, I, J) b post px ↔ ip_WP 37 1 [some (.ref x0), some (.int x1), x2, x3] [.ref x0] (G, F, I, J) b post px := ip_nx_iff ((ip_st_of f37_0).trans rfl)
theorem f37_1 : ip_fetch 37 1 = some (.getfield 25, 3) := by decide +kernel
set_option maxRecDepth 100000 in
theorem s37_1 {x0 : Nat} {x1 : Int32} {x2 : Option Value} {x3 : Option Value} {s0 : Nat} : ip_WP 37 1 [some (.ref x0), some (.int x1), x2, x3] [.ref s0] (G, F, I, J) b post px ↔ (ip_isO G s0 1 = true ∧ ip_WP 37 4 [some (.ref x0), some (.int x1), x2, x3] [F s0 13] (G, F, I, J) b post px) := ip_s_getf f37_1 (by decide +kernel)
theorem f37_4 : ip_fetch 37 4 = some (.iload_n 1, 1) := by decide +kernel
theorem s37_4 {x0 : Nat} {x1 : Int32} {x2 : Option Value} {x3 : Option Value} {s0 : Nat} : ip_WP 37 4 [some (.ref x0), some (.int x1), x2, x3] [.ref s0] (G, F, I, J) b post px ↔ ip_WP 37 5 [some (.ref x0), some (.int x1), x2, x3] [.int x1, .ref s0] (G, F, I, J) b post px := ip_nx_iff ((ip_st_of f37_4).trans rfl)
theorem f37_5 : ip_fetch 37 5 = some (.iaload, 1) := by decide +kernel
theorem s37_5 {x0 : Nat} {x1 : Int32} {x2 : Option Value} {x3 : Option Value} {s0 : Nat} {s1 : Int32} : ip_WP 37 5 [some (.ref x0), some (.int x1), x2, x3] [.int s1, .ref s0] (G, F, I, J) b post px ↔ (ip_inA G s0 0 s1 = true ∧ ip_WP 37 6 [some (.ref x0), some (.int x1), x2, x3] [.int (I s0 s1.toNatClampNeg)] (G, F, I, J) b post px) := ip_ck_iff ((ip_st_of f37_5).trans rfl) ip_nx_iff
theorem f37_6 : ip_fetch 37 6 = some (.aload_n 0, 1) := by decide +kernel
theorem s37_6 {x0 : Nat} {x1 : Int32} {x2 : Option Value} {x3 : Option Value} {s0 : Int32} : ip_WP 37 6 [some (.ref x0), some (.int x1), x2, x3] [.int s0] (G, F, I, J) b post px ↔ ip_WP 37 7 [some (.ref x0), some (.int x1), x2, x3] [.ref x0, .int s0] (G, F, I, J) b post px := ip_nx_iff ((ip_st_of f37_6).trans rfl)
theorem f37_7 : ip_fetch 37 7 = some (.getfield 22, 3) := by decide +kernel
set_option maxRecDepth 100000 in
theorem s37_7 {x0 : Nat} {x1 : Int32} {x2 : Option Value} {x3 : Option Value} {s0 : Int32} {s1 : Nat} : ip_WP 37 7 [some (.ref x0), some (.int x1), x2, x3] [.ref s1, .int s0] (G, F, I, J) b post px ↔ (ip_isO G s1 1 = true ∧ ip_WP 37 10 [some (.ref x0), some (.int x1), x2, x3] [F s1 12, .int s0] (G, F, I, J) b post px) := ip_s_getf f37_7 (by decide +kernel)
theorem f37_10 : ip_fetch 37 10 = some (.iload_n 1, 1) := by decide +kernel
theorem s37_10 {x0 : Nat} {x1 : Int32} {x2 : Option Value} {x3 : Option Value} {s0 : Int32} {s1 : Nat} : ip_WP 37 10 [some (.ref x0), some (.int x1), x2, x3] [.ref s1, .int s0] (G, F, I, J) b post px ↔ ip_WP 37 11 [some (.ref x0), some (.int x1), x2, x3] [.int x1, .ref s1, .int s0] (G, F, I, J) b post px := ip_nx_iff ((ip_st_of f37_10).trans rfl)
theorem f37_11 : ip_fetch 37 11 = some (.iaload, 1) := by decide +kernel
theorem s37_11 {x0 : Nat} {x1 : Int32} {x2 : Option Value} {x3 : Option Value} {s0 : Int32} {s1 : Nat} {s2 : Int32} : ip_WP 37 11 [some (.ref x0), some (.int x1), x2, x3] [.int s2, .ref s1, .int s0] (G, F, I, J) b post px ↔ (ip_inA G s1 0 s2 = true ∧ ip_WP 37 12 [some (.ref x0), some (.int x1), x2, x3] [.int (I s1 s2.toNatClampNeg), .int s0] (G, F, I, J) b post px) := ip_ck_iff ((ip_st_of f37_11).trans rfl) ip_nx_iff
theorem f37_12 : ip_fetch 37 12 = some (.isub, 1) := by decide +kernel
theorem s37_12 {x0 : Nat} {x1 : Int32} {x2 : Option Value} {x3 : Option Value} {s0 : Int32} {s1 : Int32} : ip_WP 37 12 [some (.ref x0), some (.int x1), x2, x3] [.int s1, .int s0] (G, F, I, J) b post px ↔ ip_WP 37 13 [some (.ref x0), some (.int x1), x2, x3] [.int (s0 - s1)] (G, F, I, J) b post px := ip_nx_iff ((ip_st_of f37_12).trans rfl)
theorem f37_13 : ip_fetch 37 13 = some (.aload_n 0, 1) := by decide +kernel
theorem s37_13 {x0 : Nat} {x1 : Int32} {x2 : Option Value} {x3 : Option Value} {s0 : Int32} : ip_WP 37 13 [some (.ref x0), some (.int x1), x2, x3] [.int s0] (G, F, I, J) b post px ↔ ip_WP 37 14 [some (.ref x0), some (.int x1), x2, x3] [.ref x0, .int s0] (G, F, I, J) b post px := ip_nx_iff ((ip_st_of f37_13).trans rfl)
theorem f37_14 : ip_fetch 37 14 = some (.getfield 107, 3) := by decide +kernel
set_option maxRecDepth 100000 in
theorem s37_14 {x0 : Nat} {x1 : Int32} {x2 : Option Value} {x3 : Option Value} {s0 : Int32} {s1 : Nat} : ip_WP 37 14 [some (.ref x0), some (.int x1), x2, x3] [.ref s1, .int s0] (G, F, I, J) b post px ↔ (ip_isO G s1 1 = true ∧ ip_WP 37 17 [some (.ref x0), some (.int x1), x2, x3] [F s1 37, .int s0] (G, F, I, J) b post px) := ip_s_getf f37_14 (by decide +kernel)
theorem f37_17 : ip_fetch 37 17 = some (.aload_n 0, 1) := by decide +kernel
theorem s37_17 {x0 : Nat} {x1 : Int32} {x2 : Option Value} {x3 : Option Value} {s0 : Int32} {s1 : Int32} : ip_WP 37 17 [some (.ref x0), some (.int x1), x2, x3] [.int s1, .int s0] (G, F, I, J) b post px ↔ ip_WP 37 18 [some (.ref x0), some (.int x1), x2, x3] [.ref x0, .int s1, .int s0] (G, F, I, J) b post px := ip_nx_iff ((ip_st_of f37_17).trans rfl)
theorem f37_18 : ip_fetch 37 18 = some (.getfield 117, 3) := by decide +kernel
set_option maxRecDepth 100000 in
theorem s37_18 {x0 : Nat} {x1 : Int32} {x2 : Option Value} {x3 : Option Value} {s0 : Int32} {s1 : Int32} {s2 : Nat} : ip_WP 37 18 [some (.ref x0), some (.int x1), x2, x3] [.ref s2, .int s1, .int s0] (G, F, I, J) b post px ↔ (ip_isO G s2 1 = true ∧ ip_WP 37 21 [some (.ref x0), some (.int x1), x2, x3] [F s2 36, .int s1, .int s0] (G, F, I, J) b post px) := ip_s_getf f37_18 (by decide +kernel)
theorem f37_21 : ip_fetch 37 21 = some (.isub, 1) := by decide +kernel
theorem s37_21 {x0 : Nat} {x1 : Int32} {x2 : Option Value} {x3 : Option Value} {s0 : Int32} {s1 : Int32} {s2 : Int32} : ip_WP 37 21 [some (.ref x0), some (.int x1), x2, x3] [.int s2, .int s1, .int s0] (G, F, I, J) b post px ↔ ip_WP 37 22 [some (.ref x0), some (.int x1), x2, x3] [.int (s1 - s2), .int s0] (G, F, I, J) b post px := ip_nx_iff ((ip_st_of f37_21).trans rfl)
theorem f37_22 : ip_fetch 37 22 = some (.if_icmp .ne 7, 3) := by decide +kernel
theorem s37_22 {x0 : Nat} {x1 : Int32} {x2 : Option Value} {x3 : Option Value} {s0 : Int32} {s1 : Int32} : ip_WP 37 22 [some (.ref x0), some (.int x1), x2, x3] [.int s1, .int s0] (G, F, I, J) b post px ↔ if ¬ s0 = s1 then ip_WP 37 29 [some (.ref x0), some (.int x1), x2, x3] [] (G, F, I, J) b post px else ip_WP 37 25 [some (.ref x0), some (.int x1), x2, x3] [] (G, F, I, J) b post px := ip_s_ic_ne f37_22 rfl
theorem f37_25 : ip_fetch 37 25 = some (.iconst 1, 1) := by decide +kernel
theorem s37_25 {x0 : Nat} {x1 : Int32} {x2 : Option Value} {x3 : Option Value} : ip_WP 37 25 [some (.ref x0), some (.int x1), x2, x3] [] (G, F, I, J) b post px ↔ ip_WP 37 26 [some (.ref x0), some (.int x1), x2, x3] [.int 1] (G, F, I, J) b post px := ip_s_iconst f37_25 (by decide)
theorem f37_26 : ip_fetch 37 26 = some (.goto 4, 3) := by decide +kernel
theorem s37_26 {x0 : Nat} {x1 : Int32} {x2 : Option Value} {x3 : Option Value} {s0 : Int32} : ip_WP 37 26 [some (.ref x0), some (.int x1), x2, x3] [.int s0] (G, F, I, J) b post px ↔ ip_WP 37 30 [some (.ref x0), some (.int x1), x2, x3] [.int s0] (G, F, I, J) b post px := ip_nx_iff ((ip_st_of f37_26).trans rfl)
theorem f37_29 : ip_fetch 37 29 = some (.iconst 0, 1) := by decide +kernel
theorem s37_29 {x0 : Nat} {x1 : Int32} {x2 : Option Value} {x3 : Option Value} : ip_WP 37 29 [some (.ref x0), some (.int x1), x2, x3] [] (G, F, I, J) b post px ↔ ip_WP 37 30 [some (.ref x0), some (.int x1), x2, x3] [.int 0] (G, F, I, J) b post px := ip_s_iconst f37_29 (by decide)
theorem f37_30 : ip_fetch 37 30 = some (.istore_n 2, 1) := by decide +kernel
theorem s37_30 {x0 : Nat} {x1 : Int32} {x2 : Option Value} {x3 : Option Value} {s0 : Int32} : ip_WP 37 30 [some (.ref x0), some (.int x1), x2, x3] [.int s0] (G, F, I, J) b post px ↔ ip_WP 37 31 [some (.ref x0), some (.int x1), some (.int s0), x3] [] (G, F, I, J) b post px := ip_nx_iff ((ip_st_of f37_30).trans rfl)
theorem f37_31 : ip_fetch 37 31 = some (.iconst 0, 1) := by decide +kernel
theorem s37_31 {x0 : Nat} {x1 : Int32} {x2 : Int32} {x3 : Option Value} : ip_WP 37 31 [some (.ref x0), some (.int x1), some (.int x2), x3] [] (G, F, I, J) b post px ↔ ip_WP 37 32 [some (.ref x0), some (.int x1), some (.int x2), x3] [.int 0] (G, F, I, J) b post px := ip_s_iconst f37_31 (by decide)
theorem f37_32 : ip_fetch 37 32 = some (.istore_n 3, 1) := by decide +kernel
theorem s37_32 {x0 : Nat} {x1 : Int32} {x2 : Int32} {x3 : Option Value} {s0 : Int32} : ip_WP 37 32 [some (.ref x0), some (.int x1), some (.int x2), x3] [.int s0] (G, F, I, J) b post px ↔ ip_WP 37 33 [some (.ref x0), some (.int x1), some (.int x2), some (.int s0)] [] (G, F, I, J) b post px := ip_nx_iff ((ip_st_of f37_32).trans rfl)
theorem f37_33 : ip_fetch 37 33 = some (.iload_n 3, 1) := by decide +kernel
theorem s37_33 {x0 : Nat} {x1 : Int32} {x2 : Int32} {x3 : Int32} : ip_WP 37 33 [some (.ref x0), some (.int x1), some (.int x2), some (.int x3)] [] (G, F, I, J) b post px ↔ ip_WP 37 34 [some (.ref x0), some (.int x1), some (.int x2), some (.int x3)] [.int x3] (G, F, I, J) b post px := ip_nx_iff ((ip_st_of f37_33).trans rfl)
theorem f37_34 : ip_fetch 37 34 = some (.aload_n 0, 1) := by decide +kernel
theorem s37_34 {x0 : Nat} {x1 : Int32} {x2 : Int32} {x3 : Int32} {s0 : Int32} : ip_WP 37 34 [some (.ref x0), some (.int x1), some (.int x2), some (.int x3)] [.int s0] (G, F, I, J) b post px ↔ ip_WP 37 35 [some (.ref x0), some (.int x1), some (.int x2), some (.int x3)] [.ref x0, .int s0] (G, F, I, J) b post px := ip_nx_iff ((ip_st_of f37_34).trans rfl)
theorem f37_35 : ip_fetch 37 35 = some (.getfield 107, 3) := by decide +kernel
set_option maxRecDepth 100000 in
theorem s37_35 {x0 : Nat} {x1 : Int32} {x2 : Int32} {x3 : Int32} {s0 : Int32} {s1 : Nat} : ip_WP 37 35 [some (.ref x0), some (.int x1), some (.int x2), some (.int x3)] [.ref s1, .int s0] (G, F, I, J) b post px ↔ (ip_isO G s1 1 = true ∧ ip_WP 37 38 [some (.ref x0), some (.int x1), some (.int x2), some (.int x3)] [F s1 37, .int s0] (G, F, I, J) b post px) := ip_s_getf f37_35 (by decide +kernel)
theorem f37_38 : ip_fetch 37 38 = some (.aload_n 0, 1) := by decide +kernel
theorem s37_38 {x0 : Nat} {x1 : Int32} {x2 : Int32} {x3 : Int32} {s0 : Int32} {s1 : Int32} : ip_WP 37 38 [some (.ref x0), some (.int x1), some (.int x2), some (.int x3)] [.int s1, .int s0] (G, F, I, J) b post px ↔ ip_WP 37 39 [some (.ref x0), some (.int x1), some (.int x2), some (.int x3)] [.ref x0, .int s1, .int s0] (G, F, I, J) b post px := ip_nx_iff ((ip_st_of f37_38).trans rfl)
theorem f37_39 : ip_fetch 37 39 = some (.getfield 117, 3) := by decide +kernel
set_option maxRecDepth 100000 in
theorem s37_39 {x0 : Nat} {x1 : Int32} {x2 : Int32} {x3 : Int32} {s0 : Int32} {s1 : Int32} {s2 : Nat} : ip_WP 37 39 [some (.ref x0), some (.int x1), some (.int x2), some (.int x3)] [.ref s2, .int s1, .int s0] (G, F, I, J) b post px ↔ (ip_isO G s2 1 = true ∧ ip_WP 37 42 [some (.ref x0), some (.int x1), some (.int x2), some (.int x3)] [F s2 36, .int s1, .int s0] (G, F, I, J) b post px) := ip_s_getf f37_39 (by decide +kernel)
theorem f37_42 : ip_fetch 37 42 = some (.isub, 1) := by decide +kernel
theorem s37_42 {x0 : Nat} {x1 : Int32} {x2 : Int32} {x3 : Int32} {s0 : Int32} {s1 : Int32} {s2 : Int32} : ip_WP 37 42 [some (.ref x0), some (.int x1), some (.int x2), some (.int x3)] [.int s2, .int s1, .int s0] (G, F, I, J) b post px ↔ ip_WP 37 43 [some (.ref x0), some (.int x1), some (.int x2), some (.int x3)] [.int (s1 - s2), .int s0] (G, F, I, J) b post px := ip_nx_iff ((ip_st_of f37_42).trans rfl)
theorem f37_43 : ip_fetch 37 43 = some (.if_icmp .ge 46, 3) := by decide +kernel
theorem s37_43 {x0 : Nat} {x1 : Int32} {x2 : Int32} {x3 : Int32} {s0 : Int32} {s1 : Int32} : ip_WP 37 43 [some (.ref x0), some (.int x1), some (.int x2), some (.int x3)] [.int s1, .int s0] (G, F, I, J) b post px ↔ if s1 ≤ s0 then ip_WP 37 89 [some (.ref x0), some (.int x1), some (.int x2), some (.int x3)] [] (G, F, I, J) b post px else ip_WP 37 46 [some (.ref x0), some (.int x1), some (.int x2), some (.int x3)] [] (G, F, I, J) b post px := ip_s_ic_ge f37_43 rfl
theorem f37_46 : ip_fetch 37 46 = some (.iload_n 2, 1) := by decide +kernel
theorem s37_46 {x0 : Nat} {x1 : Int32} {x2 : Int32} {x3 : Int32} : ip_WP 37 46 [some (.ref x0), some (.int x1), some (.int x2), some (.int x3)] [] (G, F, I, J) b post px ↔ ip_WP 37 47 [some (.ref x0), some (.int x1), some (.int x2), some (.int x3)] [.int x2] (G, F, I, J) b post px := ip_nx_iff ((ip_st_of f37_46).trans rfl)
theorem f37_47 : ip_fetch 37 47 = some (.ifCond .eq 42, 3) := by decide +kernel
theorem s37_47 {x0 : Nat} {x1 : Int32} {x2 : Int32} {x3 : Int32} {s0 : Int32} : ip_WP 37 47 [some (.ref x0), some (.int x1), some (.int x2), some (.int x3)] [.int s0] (G, F, I, J) b post px ↔ if s0 = 0 then ip_WP 37 89 [some (.ref x0), some (.int x1), some (.int x2), some (.int x3)] [] (G, F, I, J) b post px else ip_WP 37 50 [some (.ref x0), some (.int x1), some (.int x2), some (.int x3)] [] (G, F, I, J) b post px := ip_s_if_eq f37_47 rfl
theorem f37_50 : ip_fetch 37 50 = some (.aload_n 0, 1) := by decide +kernel
theorem s37_50 {x0 : Nat} {x1 : Int32} {x2 : Int32} {x3 : Int32} : ip_WP 37 50 [some (.ref x0), some (.int x1), some (.int x2), some (.int x3)] [] (G, F, I, J) b post px ↔ ip_WP 37 51 [some (.ref x0), some (.int x1), some (.int x2), some (.int x3)] [.ref x0] (G, F, I, J) b post px := ip_nx_iff ((ip_st_of f37_50).trans rfl)
theorem f37_51 : ip_fetch 37 51 = some (.getfield 19, 3) := by decide +kernel
set_option maxRecDepth 100000 in
theorem s37_51 {x0 : Nat} {x1 : Int32} {x2 : Int32} {x3 : Int32} {s0 : Nat} : ip_WP 37 51 [some (.ref x0), some (.int x1), some (.int x2), some (.int x3)] [.ref s0] (G, F, I, J) b post px ↔ (ip_isO G s0 1 = true ∧ ip_WP 37 54 [some (.ref x0), some (.int x1), some (.int x2), some (.int x3)] [F s0 11] (G, F, I, J) b post px) := ip_s_getf f37_51 (by decide +kernel)
theorem f37_54 : ip_fetch 37 54 = some (.aload_n 0, 1) := by decide +kernel
theorem s37_54 {x0 : Nat} {x1 : Int32} {x2 : Int32} {x3 : Int32} {s0 : Nat} : ip_WP 37 54 [some (.ref x0), some (.int x1), some (.int x2), some (.int x3)] [.ref s0] (G, F, I, J) b post px ↔ ip_WP 37 55 [some (.ref x0), some (.int x1), some (.int x2), some (.int x3)] [.ref x0, .ref s0] (G, F, I, J) b post px := ip_nx_iff ((ip_st_of f37_54).trans rfl)
theorem f37_55 : ip_fetch 37 55 = some (.getfield 22, 3) := by decide +kernel
set_option maxRecDepth 100000 in
theorem s37_55 {x0 : Nat} {x1 : Int32} {x2 : Int32} {x3 : Int32} {s0 : Nat} {s1 : Nat} : ip_WP 37 55 [some (.ref x0), some (.int x1), some (.int x2), some (.int x3)] [.ref s1, .ref s0] (G, F, I, J) b post px ↔ (ip_isO G s1 1 = true ∧ ip_WP 37 58 [some (.ref x0), some (.int x1), some (.int x2), some (.int x3)] [F s1 12, .ref s0] (G, F, I, J) b post px) := ip_s_getf f37_55 (by decide +kernel)
theorem f37_58 : ip_fetch 37 58 = some (.iload_n 1, 1) := by decide +kernel
theorem s37_58 {x0 : Nat} {x1 : Int32} {x2 : Int32} {x3 : Int32} {s0 : Nat} {s1 : Nat} : ip_WP 37 58 [some (.ref x0), some (.int x1), some (.int x2), some (.int x3)] [.ref s1, .ref s0] (G, F, I, J) b post px ↔ ip_WP 37 59 [some (.ref x0), some (.int x1), some (.int x2), some (.int x3)] [.int x1, .ref s1, .ref s0] (G, F, I, J) b post px := ip_nx_iff ((ip_st_of f37_58).trans rfl)
theorem f37_59 : ip_fetch 37 59 = some (.iaload, 1) := by decide +kernel
theorem s37_59 {x0 : Nat} {x1 : Int32} {x2 : Int32} {x3 : Int32} {s0 : Nat} {s1 : Nat} {s2 : Int32} : ip_WP 37 59 [some (.ref x0), some (.int x1), some (.int x2), some (.int x3)] [.int s2, .ref s1, .ref s0] (G, F, I, J) b post px ↔ (ip_inA G s1 0 s2 = true ∧ ip_WP 37 60 [some (.ref x0), some (.int x1), some (.int x2), some (.int x3)] [.int (I s1 s2.toNatClampNeg), .ref s0] (G, F, I, J) b post px) := ip_ck_iff ((ip_st_of f37_59).trans rfl) ip_nx_iff
theorem f37_60 : ip_fetch 37 60 = some (.iload_n 3, 1) := by decide +kernel
theorem s37_60 {x0 : Nat} {x1 : Int32} {x2 : Int32} {x3 : Int32} {s0 : Nat} {s1 : Int32} : ip_WP 37 60 [some (.ref x0), some (.int x1), some (.int x2), some (.int x3)] [.int s1, .ref s0] (G, F, I, J) b post px ↔ ip_WP 37 61 [some (.ref x0), some (.int x1), some (.int x2), some (.int x3)] [.int x3, .int s1, .ref s0] (G, F, I, J) b post px := ip_nx_iff ((ip_st_of f37_60).trans rfl)
theorem f37_61 : ip_fetch 37 61 = some (.iadd, 1) := by decide +kernel
theorem s37_61 {x0 : Nat} {x1 : Int32} {x2 : Int32} {x3 : Int32} {s0 : Nat} {s1 : Int32} {s2 : Int32} : ip_WP 37 61 [some (.ref x0), some (.int x1), some (.int x2), some (.int x3)] [.int s2, .int s1, .ref s0] (G, F, I, J) b post px ↔ ip_WP 37 62 [some (.ref x0), some (.int x1), some (.int x2), some (.int x3)] [.int (s1 + s2), .ref s0] (G, F, I, J) b post px := ip_nx_iff ((ip_st_of f37_61).trans rfl)
theorem f37_62 : ip_fetch 37 62 = some (.iaload, 1) := by decide +kernel
theorem s37_62 {x0 : Nat} {x1 : Int32} {x2 : Int32} {x3 : Int32} {s0 : Nat} {s1 : Int32} : ip_WP 37 62 [some (.ref x0), some (.int x1), some (.int x2), some (.int x3)] [.int s1, .ref s0] (G, F, I, J) b post px ↔ (ip_inA G s0 0 s1 = true ∧ ip_WP 37 63 [some (.ref x0), some (.int x1), some (.int x2), some (.int x3)] [.int (I s0 s1.toNatClampNeg)] (G, F, I, J) b post px) := ip_ck_iff ((ip_st_of f37_62).trans rfl) ip_nx_iff
theorem f37_63 : ip_fetch 37 63 = some (.aload_n 0, 1) := by decide +kernel
theorem s37_63 {x0 : Nat} {x1 : Int32} {x2 : Int32} {x3 : Int32} {s0 : Int32} : ip_WP 37 63 [some (.ref x0), some (.int x1), some (.int x2), some (.int x3)] [.int s0] (G, F, I, J) b post px ↔ ip_WP 37 64 [some (.ref x0), some (.int x1), some (.int x2), some (.int x3)] [.ref x0, .int s0] (G, F, I, J) b post px := ip_nx_iff ((ip_st_of f37_63).trans rfl)
theorem f37_64 : ip_fetch 37 64 = some (.getfield 19, 3) := by decide +kernel
set_option maxRecDepth 100000 in
theorem s37_64 {x0 : Nat} {x1 : Int32} {x2 : Int32} {x3 : Int32} {s0 : Int32} {s1 : Nat} : ip_WP 37 64 [some (.ref x0), some (.int x1), some (.int x2), some (.int x3)] [.ref s1, .int s0] (G, F, I, J) b post px ↔ (ip_isO G s1 1 = true ∧ ip_WP 37 67 [some (.ref x0), some (.int x1), some (.int x2), some (.int x3)] [F s1 11, .int s0] (G, F, I, J) b post px) := ip_s_getf f37_64 (by decide +kernel)
theorem f37_67 : ip_fetch 37 67 = some (.aload_n 0, 1) := by decide +kernel
theorem s37_67 {x0 : Nat} {x1 : Int32} {x2 : Int32} {x3 : Int32} {s0 : Int32} {s1 : Nat} : ip_WP 37 67 [some (.ref x0), some (.int x1), some (.int x2), some (.int x3)] [.ref s1, .int s0] (G, F, I, J) b post px ↔ ip_WP 37 68 [some (.ref x0), some (.int x1), some (.int x2), some (.int x3)] [.ref x0, .ref s1, .int s0] (G, F, I, J) b post px := ip_nx_iff ((ip_st_of f37_67).trans rfl)
theorem f37_68 : ip_fetch 37 68 = some (.getfield 117, 3) := by decide +kernel
set_option maxRecDepth 100000 in
theorem s37_68 {x0 : Nat} {x1 : Int32} {x2 : Int32} {x3 : Int32} {s0 : Int32} {s1 : Nat} {s2 : Nat} : ip_WP 37 68 [some (.ref x0), some (.int x1), some (.int x2), some (.int x3)] [.ref s2, .ref s1, .int s0] (G, F, I, J) b post px ↔ (ip_isO G s2 1 = true ∧ ip_WP 37 71 [some (.ref x0), some (.int x1), some (.int x2), some (.int x3)] [F s2 36, .ref s1, .int s0] (G, F, I, J) b post px) := ip_s_getf f37_68 (by decide +kernel)
theorem f37_71 : ip_fetch 37 71 = some (.iload_n 3, 1) := by decide +kernel
theorem s37_71 {x0 : Nat} {x1 : Int32} {x2 : Int32} {x3 : Int32} {s0 : Int32} {s1 : Nat} {s2 : Int32} : ip_WP 37 71 [some (.ref x0), some (.int x1), some (.int x2), some (.int x3)] [.int s2, .ref s1, .int s0] (G, F, I, J) b post px ↔ ip_WP 37 72 [some (.ref x0), some (.int x1), some (.int x2), some (.int x3)] [.int x3, .int s2, .ref s1, .int s0] (G, F, I, J) b post px := ip_nx_iff ((ip_st_of f37_71).trans rfl)
theorem f37_72 : ip_fetch 37 72 = some (.iadd, 1) := by decide +kernel
theorem s37_72 {x0 : Nat} {x1 : Int32} {x2 : Int32} {x3 : Int32} {s0 : Int32} {s1 : Nat} {s2 : Int32} {s3 : Int32} : ip_WP 37 72 [some (.ref x0), some (.int x1), some (.int x2), some (.int x3)] [.int s3, .int s2, .ref s1, .int s0] (G, F, I, J) b post px ↔ ip_WP 37 73 [some (.ref x0), some (.int x1), some (.int x2), some (.int x3)] [.int (s2 + s3), .ref s1, .int s0] (G, F, I, J) b post px := ip_nx_iff ((ip_st_of f37_72).trans rfl)
theorem f37_73 : ip_fetch 37 73 = some (.iaload, 1) := by decide +kernel
theorem s37_73 {x0 : Nat} {x1 : Int32} {x2 : Int32} {x3 : Int32} {s0 : Int32} {s1 : Nat} {s2 : Int32} : ip_WP 37 73 [some (.ref x0), some (.int x1), some (.int x2), some (.int x3)] [.int s2, .ref s1, .int s0] (G, F, I, J) b post px ↔ (ip_inA G s1 0 s2 = true ∧ ip_WP 37 74 [some (.ref x0), some (.int x1), some (.int x2), some (.int x3)] [.int (I s1 s2.toNatClampNeg), .int s0] (G, F, I, J) b post px) := ip_ck_iff ((ip_st_of f37_73).trans rfl) ip_nx_iff
theorem f37_74 : ip_fetch 37 74 = some (.if_icmp .ne 7, 3) := by decide +kernel
theorem s37_74 {x0 : Nat} {x1 : Int32} {x2 : Int32} {x3 : Int32} {s0 : Int32} {s1 : Int32} : ip_WP 37 74 [some (.ref x0), some (.int x1), some (.int x2), some (.int x3)] [.int s1, .int s0] (G, F, I, J) b post px ↔ if ¬ s0 = s1 then ip_WP 37 81 [some (.ref x0), some (.int x1), some (.int x2), some (.int x3)] [] (G, F, I, J) b post px else ip_WP 37 77 [some (.ref x0), some (.int x1), some (.int x2), some (.int x3)] [] (G, F, I, J) b post px := ip_s_ic_ne f37_74 rfl
theorem f37_77 : ip_fetch 37 77 = some (.iconst 1, 1) := by decide +kernel
theorem s37_77 {x0 : Nat} {x1 : Int32} {x2 : Int32} {x3 : Int32} : ip_WP 37 77 [some (.ref x0), some (.int x1), some (.int x2), some (.int x3)] [] (G, F, I, J) b post px ↔ ip_WP 37 78 [some (.ref x0), some (.int x1), some (.int x2), some (.int x3)] [.int 1] (G, F, I, J) b post px := ip_s_iconst f37_77 (by decide)
theorem f37_78 : ip_fetch 37 78 = some (.goto 4, 3) := by decide +kernel
theorem s37_78 {x0 : Nat} {x1 : Int32} {x2 : Int32} {x3 : Int32} {s0 : Int32} : ip_WP 37 78 [some (.ref x0), some (.int x1), some (.int x2), some (.int x3)] [.int s0] (G, F, I, J) b post px ↔ ip_WP 37 82 [some (.ref x0), some (.int x1), some (.int x2), some (.int x3)] [.int s0] (G, F, I, J) b post px := ip_nx_iff ((ip_st_of f37_78).trans rfl)
theorem f37_81 : ip_fetch 37 81 = some (.iconst 0, 1) := by decide +kernel
theorem s37_81 {x0 : Nat} {x1 : Int32} {x2 : Int32} {x3 : Int32} : ip_WP 37 81 [some (.ref x0), some (.int x1), some (.int x2), some (.int x3)] [] (G, F, I, J) b post px ↔ ip_WP 37 82 [some (.ref x0), some (.int x1), some (.int x2), some (.int x3)] [.int 0] (G, F, I, J) b post px := ip_s_iconst f37_81 (by decide)
theorem f37_82 : ip_fetch 37 82 = some (.istore_n 2, 1) := by decide +kernel
theorem s37_82 {x0 : Nat} {x1 : Int32} {x2 : Int32} {x3 : Int32} {s0 : Int32} : ip_WP 37 82 [some (.ref x0), some (.int x1), some (.int x2), some (.int x3)] [.int s0] (G, F, I, J) b post px ↔ ip_WP 37 83 [some (.ref x0), some (.int x1), some (.int s0), some (.int x3)] [] (G, F, I, J) b post px := ip_nx_iff ((ip_st_of f37_82).trans rfl)
theorem f37_83 : ip_fetch 37 83 = some (.iinc 3 1, 3) := by decide +kernel
theorem s37_83 {x0 : Nat} {x1 : Int32} {x2 : Int32} {x3 : Int32} : ip_WP 37 83 [some (.ref x0), some (.int x1), some (.int x2), some (.int x3)] [] (G, F, I, J) b post px ↔ ip_WP 37 86 [some (.ref x0), some (.int x1), some (.int x2), some (.int (x3 + 1))] [] (G, F, I, J) b post px := ip_s_iinc f37_83 rfl (by decide)
theorem f37_86 : ip_fetch 37 86 = some (.goto (-53), 3) := by decide +kernel
theorem s37_86 {x0 : Nat} {x1 : Int32} {x2 : Int32} {x3 : Int32} : ip_WP 37 86 [some (.ref x0), some (.int x1), some (.int x2), some (.int x3)] [] (G, F, I, J) b post px ↔ ip_WP 37 33 [some (.ref x0), some (.int x1), some (.int x2), some (.int x3)] [] (G, F, I, J) b post px := ip_nx_iff ((ip_st_of f37_86).trans rfl)
theorem f37_89 : ip_fetch 37 89 = some (.iload_n 2, 1) := by decide +kernel
theorem s37_89 {x0 : Nat} {x1 : Int32} {x2 : Int32} {x3 : Int32} : ip_WP 37 89 [some (.ref x0), some (.int x1), some (.int x2), some (.int x3)] [] (G, F, I, J) b post px ↔ ip_WP 37 90 [some (.ref x0), some (.int x1), some (.int x2), some (.int x3)] [.int x2] (G, F, I, J) b post px := ip_nx_iff ((ip_st_of f37_89).trans rfl)
theorem f37_90 : ip_fetch 37 90 = some (.ireturn, 1) := by decide +kernel
theorem s37_90 {x0 : Nat} {x1 : Int32} {x2 : Int32} {x3 : Int32} {s0 : Int32} : ip_WP 37 90 [some (.ref x0), some (.int x1), some (.int x2), some (.int x3)] [.int s0] (G, F, I, J) b post px ↔ ((s0 = 0 ∨ s0 = 1) ∧ post (some (.int s0)) (G, F, I, J)) := ip_s_zret ((ip_st_of f37_90).trans rfl)
theorem f38_0 : ip_fetch 38 0 = some (.iconst (-1), 1) := by decide +kernel
theorem s38_0 {x0 : Nat} {x1 : Option Value} {x2 : Option Value} : ip_WP 38 0 [some (.ref x0), x1, x2] [] (G, F, I, J) b post px ↔ ip_WP 38 1 [some (.ref x0), x1, x2] [.int (-1)] (G, F, I, J) b post px := ip_s_iconst f38_0 (by decide)
theorem f38_1 : ip_fetch 38 1 = some (.istore_n 1, 1) := by decide +kernel
theorem s38_1 {x0 : Nat} {x1 : Option Value} {x2 : Option Value} {s0 : Int32} : ip_WP 38 1 [some (.ref x0), x1, x2] [.int s0] (G, F, I, J) b post px ↔ ip_WP 38 2 [some (.ref x0), some (.int s0), x2] [] (G, F, I, J) b post px := ip_nx_iff ((ip_st_of f38_1).trans rfl)
theorem f38_2 : ip_fetch 38 2 = some (.iconst 0, 1) := by decide +kernel
theorem s38_2 {x0 : Nat} {x1 : Int32} {x2 : Option Value} : ip_WP 38 2 [some (.ref x0), some (.int x1), x2] [] (G, F, I, J) b post px ↔ ip_WP 38 3 [some (.ref x0), some (.int x1), x2] [.int 0] (G, F, I, J) b post px := ip_s_iconst f38_2 (by decide)
theorem f38_3 : ip_fetch 38 3 = some (.istore_n 2, 1) := by decide +kernel
theorem s38_3 {x0 : Nat} {x1 : Int32} {x2 : Option Value} {s0 : Int32} : ip_WP 38 3 [some (.ref x0), some (.int x1), x2] [.int s0] (G, F, I, J) b post px ↔ ip_WP 38 4 [some (.ref x0), some (.int x1), some (.int s0)] [] (G, F, I, J) b post px := ip_nx_iff ((ip_st_of f38_3).trans rfl)
theorem f38_4 : ip_fetch 38 4 = some (.iload_n 2, 1) := by decide +kernel
theorem s38_4 {x0 : Nat} {x1 : Int32} {x2 : Int32} : ip_WP 38 4 [some (.ref x0), some (.int x1), some (.int x2)] [] (G, F, I, J) b post px ↔ ip_WP 38 5 [some (.ref x0), some (.int x1), some (.int x2)] [.int x2] (G, F, I, J) b post px := ip_nx_iff ((ip_st_of f38_4).trans rfl)
theorem f38_5 : ip_fetch 38 5 = some (.aload_n 0, 1) := by decide +kernel
theorem s38_5 {x0 : Nat} {x1 : Int32} {x2 : Int32} {s0 : Int32} : ip_WP 38 5 [some (.ref x0), some (.int x1), some (.int x2)] [.int s0] (G, F, I, J) b post px ↔ ip_WP 38 6 [some (.ref x0), some (.int x1), some (.int x2)] [.ref x0, .int s0] (G, F, I, J) b post px := ip_nx_iff ((ip_st_of f38_5).trans rfl)
theorem f38_6 : ip_fetch 38 6 = some (.getfield 149, 3) := by decide +kernel
set_option maxRecDepth 100000 in
theorem s38_6 {x0 : Nat} {x1 : Int32} {x2 : Int32} {s0 : Int32} {s1 : Nat} : ip_WP 38 6 [some (.ref x0), some (.int x1), some (.int x2)] [.ref s1, .int s0] (G, F, I, J) b post px ↔ (ip_isO G s1 1 = true ∧ ip_WP 38 9 [some (.ref x0), some (.int x1), some (.int x2)] [F s1 10, .int s0] (G, F, I, J) b post px) := ip_s_getf f38_6 (by decide +kernel)
theorem f38_9 : ip_fetch 38 9 = some (.if_icmp .ge 23, 3) := by decide +kernel
theorem s38_9 {x0 : Nat} {x1 : Int32} {x2 : Int32} {s0 : Int32} {s1 : Int32} : ip_WP 38 9 [some (.ref x0), some (.int x1), some (.int x2)] [.int s1, .int s0] (G, F, I, J) b post px ↔ if s1 ≤ s0 then ip_WP 38 32 [some (.ref x0), some (.int x1), some (.int x2)] [] (G, F, I, J) b post px else ip_WP 38 12 [some (.ref x0), some (.int x1), some (.int x2)] [] (G, F, I, J) b post px := ip_s_ic_ge f38_9 rfl
theorem f38_12 : ip_fetch 38 12 = some (.aload_n 0, 1) := by decide +kernel
theorem s38_12 {x0 : Nat} {x1 : Int32} {x2 : Int32} : ip_WP 38 12 [some (.ref x0), some (.int x1), some (.int x2)] [] (G, F, I, J) b post px ↔ ip_WP 38 13 [some (.ref x0), some (.int x1), some (.int x2)] [.ref x0] (G, F, I, J) b post px := ip_nx_iff ((ip_st_of f38_12).trans rfl)
theorem f38_13 : ip_fetch 38 13 = some (.iload_n 2, 1) := by decide +kernel
theorem s38_13 {x0 : Nat} {x1 : Int32} {x2 : Int32} {s0 : Nat} : ip_WP 38 13 [some (.ref x0), some (.int x1), some (.int x2)] [.ref s0] (G, F, I, J) b post px ↔ ip_WP 38 14 [some (.ref x0), some (.int x1), some (.int x2)] [.int x2, .ref s0] (G, F, I, J) b post px := ip_nx_iff ((ip_st_of f38_13).trans rfl)
theorem f38_14 : ip_fetch 38 14 = some (.invokevirtual 152, 3) := by decide +kernel
set_option maxRecDepth 100000 in
theorem s38_14 {x0 : Nat} {x1 : Int32} {x2 : Int32} {s0 : Nat} {s1 : Int32} : ip_WP 38 14 [some (.ref x0), some (.int x1), some (.int x2)] [.int s1, .ref s0] (G, F, I, J) b post px ↔ (ip_isO G s0 1 = true ∧ ip_WP 37 0 [some (.ref s0), some (.int s1), none, none] [] (G, F, I, J) (0, 0) (fun r h' => ip_WP 38 17 [some (.ref x0), some (.int x1), some (.int x2)] (r.toList ++ []) h' b post px) (fun _ _ => False)) := ip_ck_iff (x := ip_cl 37 [some (.ref s0), some (.int s1), none, none] [] (0, 0) b) ((ip_st_of f38_14).trans rfl) (ip_cl_iff)
theorem f38_17 : ip_fetch 38 17 = some (.ifCond .eq 7, 3) := by decide +kernel
theorem s38_17 {x0 : Nat} {x1 : Int32} {x2 : Int32} {s0 : Int32} : ip_WP 38 17 [some (.ref x0), some (.int x1), some (.int x2)] [.int s0] (G, F, I, J) b post px ↔ if s0 = 0 then ip_WP 38 24 [some (.ref x0), some (.int x1), some (.int x2)] [] (G, F, I, J) b post px else ip_WP 38 20 [some (.ref x0), some (.int x1), some (.int x2)] [] (G, F, I, J) b post px := ip_s_if_eq f38_17 rfl
theorem f38_20 : ip_fetch 38 20 = some (.iload_n 2, 1) := by decide +kernel
theorem s38_20 {x0 : Nat} {x1 : Int32} {x2 : Int32} : ip_WP 38 20 [some (.ref x0), some (.int x1), some (.int x2)] [] (G, F, I, J) b post px ↔ ip_WP 38 21 [some (.ref x0), some (.int x1), some (.int x2)] [.int x2] (G, F, I, J) b post px := ip_nx_iff ((ip_st_of f38_20).trans rfl)
theorem f38_21 : ip_fetch 38 21 = some (.goto 4, 3) := by decide +kernel
theorem s38_21 {x0 : Nat} {x1 : Int32} {x2 : Int32} {s0 : Int32} : ip_WP 38 21 [some (.ref x0), some (.int x1), some (.int x2)] [.int s0] (G, F, I, J) b post px ↔ ip_WP 38 25 [some (.ref x0), some (.int x1), some (.int x2)] [.int s0] (G, F, I, J) b post px := ip_nx_iff ((ip_st_of f38_21).trans rfl)
theorem f38_24 : ip_fetch 38 24 = some (.iload_n 1, 1) := by decide +kernel
theorem s38_24 {x0 : Nat} {x1 : Int32} {x2 : Int32} : ip_WP 38 24 [some (.ref x0), some (.int x1), some (.int x2)] [] (G, F, I, J) b post px ↔ ip_WP 38 25 [some (.ref x0), some (.int x1), some (.int x2)] [.int x1] (G, F, I, J) b post px := ip_nx_iff ((ip_st_of f38_24).trans rfl)
theorem f38_25 : ip_fetch 38 25 = some (.istore_n 1, 1) := by decide +kernel
theorem s38_25 {x0 : Nat} {x1 : Int32} {x2 : Int32} {s0 : Int32} : ip_WP 38 25 [some (.ref x0), some (.int x1), some (.int x2)] [.int s0] (G, F, I, J) b post px ↔ ip_WP 38 26 [some (.ref x0), some (.int s0), some (.int x2)] [] (G, F, I, J) b post px := ip_nx_iff ((ip_st_of f38_25).trans rfl)
theorem f38_26 : ip_fetch 38 26 = some (.iinc 2 1, 3) := by decide +kernel
theorem s38_26 {x0 : Nat} {x1 : Int32} {x2 : Int32} : ip_WP 38 26 [some (.ref x0), some (.int x1), some (.int x2)] [] (G, F, I, J) b post px ↔ ip_WP 38 29 [some (.ref x0), some (.int x1), some (.int (x2 + 1))] [] (G, F, I, J) b post px := ip_s_iinc f38_26 rfl (by decide)
theorem f38_29 : ip_fetch 38 29 = some (.goto (-25), 3) := by decide +kernel
theorem s38_29 {x0 : Nat} {x1 : Int32} {x2 : Int32} : ip_WP 38 29 [some (.ref x0), some (.int x1), some (.int x2)] [] (G, F, I, J) b post px ↔ ip_WP 38 4 [some (.ref x0), some (.int x1), some (.int x2)] [] (G, F, I, J) b post px := ip_nx_iff ((ip_st_of f38_29).trans rfl)
theorem f38_32 : ip_fetch 38 32 = some (.iload_n 1, 1) := by decide +kernel
theorem s38_32 {x0 : Nat} {x1 : Int32} {x2 : Int32} : ip_WP 38 32 [some (.ref x0), some (.int x1), some (.int x2)] [] (G, F, I, J) b post px ↔ ip_WP 38 33 [some (.ref x0), some (.int x1), some (.int x2)] [.int x1] (G, F, I, J) b post px := ip_nx_iff ((ip_st_of f38_32).trans rfl)
theorem f38_33 : ip_fetch 38 33 = some (.ireturn, 1) := by decide +kernel
theorem s38_33 {x0 : Nat} {x1 : Int32} {x2 : Int32} {s0 : Int32} : ip_WP 38 33 [some (.ref x0), some (.int x1), some (.int x2)] [.int s0] (G, F, I, J) b post px ↔ post (some (.int s0)) (G, F, I, J) := ip_rt_iff ((ip_st_of f38_33).trans rfl)
theorem f39_0 : ip_fetch 39 0 = some (.iload_n 0, 1) := by decide +kernel
theorem s39_0 {x0 : Int32} : ip_WP 39 0 [some (.int x0)] [] (G, F, I, J) b post px ↔ ip_WP 39 1 [some (.int x0)] [.int x0] (G, F, I, J) b post px := ip_nx_iff ((ip_st_of f39_0).trans rfl)
theorem f39_1 : ip_fetch 39 1 = some (.iconst 2, 1) := by decide +kernel
theorem s39_1 {x0 : Int32} {s0 : Int32} : ip_WP 39 1 [some (.int x0)] [.int s0] (G, F, I, J) b post px ↔ ip_WP 39 2 [some (.int x0)] [.int 2, .int s0] (G, F, I, J) b post px := ip_s_iconst f39_1 (by decide)
theorem f39_2 : ip_fetch 39 2 = some (.if_icmp .ge 8, 3) := by decide +kernel
theorem s39_2 {x0 : Int32} {s0 : Int32} {s1 : Int32} : ip_WP 39 2 [some (.int x0)] [.int s1, .int s0] (G, F, I, J) b post px ↔ if s1 ≤ s0 then ip_WP 39 10 [some (.int x0)] [] (G, F, I, J) b post px else ip_WP 39 5 [some (.int x0)] [] (G, F, I, J) b post px := ip_s_ic_ge f39_2 rfl
theorem f39_5 : ip_fetch 39 5 = some (.bipush 12, 2) := by decide +kernel
theorem s39_5 {x0 : Int32} : ip_WP 39 5 [some (.int x0)] [] (G, F, I, J) b post px ↔ ip_WP 39 7 [some (.int x0)] [.int 12] (G, F, I, J) b post px := ip_s_bipush f39_5 (by decide)
theorem f39_7 : ip_fetch 39 7 = some (.goto 5, 3) := by decide +kernel
theorem s39_7 {x0 : Int32} {s0 : Int32} : ip_WP 39 7 [some (.int x0)] [.int s0] (G, F, I, J) b post px ↔ ip_WP 39 12 [some (.int x0)] [.int s0] (G, F, I, J) b post px := ip_nx_iff ((ip_st_of f39_7).trans rfl)
theorem f39_10 : ip_fetch 39 10 = some (.bipush 8, 2) := by decide +kernel
theorem s39_10 {x0 : Int32} : ip_WP 39 10 [some (.int x0)] [] (G, F, I, J) b post px ↔ ip_WP 39 12 [some (.int x0)] [.int 8] (G, F, I, J) b post px := ip_s_bipush f39_10 (by decide)
theorem f39_12 : ip_fetch 39 12 = some (.ireturn, 1) := by decide +kernel
theorem s39_12 {x0 : Int32} {s0 : Int32} : ip_WP 39 12 [some (.int x0)] [.int s0] (G, F, I, J) b post px ↔ post (some (.int s0)) (G, F, I, J) := ip_rt_iff ((ip_st_of f39_12).trans rfl)
end
