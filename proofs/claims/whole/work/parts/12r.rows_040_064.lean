section
variable {G : List ip_K} {F : Nat → Nat → Value} {I : Nat → Nat → Int32} {J : Nat → Nat → Int64} {b : ip_B} {post : Option Value → ip_H → Prop} {px : String → ip_H → Prop}
theorem f40_0 : ip_fetch 40 0 = some (.aload_n 0, 1) := by decide +kernel
theorem s40_0 {x0 : Nat} {x1 : Int32} : ip_WP 40 0 [some (.ref x0), some (.int x1)] [] (G, F, I, J) b post px ↔ ip_WP 40 1 [some (.ref x0), some (.int x1)] [.ref x0] (G, F, I, J) b post px := ip_nx_iff ((ip_st_of f40_0).trans rfl)
theorem f40_1 : ip_fetch 40 1 = some (.getfield 101, 3) := by decide +kernel
set_option maxRecDepth 100000 in
theorem s40_1 {x0 : Nat} {x1 : Int32} {s0 : Nat} : ip_WP 40 1 [some (.ref x0), some (.int x1)] [.ref s0] (G, F, I, J) b post px ↔ (ip_isO G s0 1 = true ∧ ip_WP 40 4 [some (.ref x0), some (.int x1)] [F s0 6] (G, F, I, J) b post px) := ip_s_getf f40_1 (by decide +kernel)
theorem f40_4 : ip_fetch 40 4 = some (.ifCond .le 5, 3) := by decide +kernel
theorem s40_4 {x0 : Nat} {x1 : Int32} {s0 : Int32} : ip_WP 40 4 [some (.ref x0), some (.int x1)] [.int s0] (G, F, I, J) b post px ↔ if s0 ≤ 0 then ip_WP 40 9 [some (.ref x0), some (.int x1)] [] (G, F, I, J) b post px else ip_WP 40 7 [some (.ref x0), some (.int x1)] [] (G, F, I, J) b post px := ip_s_if_le f40_4 rfl
theorem f40_7 : ip_fetch 40 7 = some (.iconst 0, 1) := by decide +kernel
theorem s40_7 {x0 : Nat} {x1 : Int32} : ip_WP 40 7 [some (.ref x0), some (.int x1)] [] (G, F, I, J) b post px ↔ ip_WP 40 8 [some (.ref x0), some (.int x1)] [.int 0] (G, F, I, J) b post px := ip_s_iconst f40_7 (by decide)
theorem f40_8 : ip_fetch 40 8 = some (.ireturn, 1) := by decide +kernel
theorem s40_8 {x0 : Nat} {x1 : Int32} {s0 : Int32} : ip_WP 40 8 [some (.ref x0), some (.int x1)] [.int s0] (G, F, I, J) b post px ↔ post (some (.int s0)) (G, F, I, J) := ip_rt_iff ((ip_st_of f40_8).trans rfl)
theorem f40_9 : ip_fetch 40 9 = some (.aload_n 0, 1) := by decide +kernel
theorem s40_9 {x0 : Nat} {x1 : Int32} : ip_WP 40 9 [some (.ref x0), some (.int x1)] [] (G, F, I, J) b post px ↔ ip_WP 40 10 [some (.ref x0), some (.int x1)] [.ref x0] (G, F, I, J) b post px := ip_nx_iff ((ip_st_of f40_9).trans rfl)
theorem f40_10 : ip_fetch 40 10 = some (.getfield 123, 3) := by decide +kernel
set_option maxRecDepth 100000 in
theorem s40_10 {x0 : Nat} {x1 : Int32} {s0 : Nat} : ip_WP 40 10 [some (.ref x0), some (.int x1)] [.ref s0] (G, F, I, J) b post px ↔ (ip_isO G s0 1 = true ∧ ip_WP 40 13 [some (.ref x0), some (.int x1)] [F s0 35] (G, F, I, J) b post px) := ip_s_getf f40_10 (by decide +kernel)
theorem f40_13 : ip_fetch 40 13 = some (.iconst 1, 1) := by decide +kernel
theorem s40_13 {x0 : Nat} {x1 : Int32} {s0 : Int32} : ip_WP 40 13 [some (.ref x0), some (.int x1)] [.int s0] (G, F, I, J) b post px ↔ ip_WP 40 14 [some (.ref x0), some (.int x1)] [.int 1, .int s0] (G, F, I, J) b post px := ip_s_iconst f40_13 (by decide)
theorem f40_14 : ip_fetch 40 14 = some (.if_icmp .eq 15, 3) := by decide +kernel
theorem s40_14 {x0 : Nat} {x1 : Int32} {s0 : Int32} {s1 : Int32} : ip_WP 40 14 [some (.ref x0), some (.int x1)] [.int s1, .int s0] (G, F, I, J) b post px ↔ if s0 = s1 then ip_WP 40 29 [some (.ref x0), some (.int x1)] [] (G, F, I, J) b post px else ip_WP 40 17 [some (.ref x0), some (.int x1)] [] (G, F, I, J) b post px := ip_s_ic_eq f40_14 rfl
theorem f40_17 : ip_fetch 40 17 = some (.aload_n 0, 1) := by decide +kernel
theorem s40_17 {x0 : Nat} {x1 : Int32} : ip_WP 40 17 [some (.ref x0), some (.int x1)] [] (G, F, I, J) b post px ↔ ip_WP 40 18 [some (.ref x0), some (.int x1)] [.ref x0] (G, F, I, J) b post px := ip_nx_iff ((ip_st_of f40_17).trans rfl)
theorem f40_18 : ip_fetch 40 18 = some (.iconst 2, 1) := by decide +kernel
theorem s40_18 {x0 : Nat} {x1 : Int32} {s0 : Nat} : ip_WP 40 18 [some (.ref x0), some (.int x1)] [.ref s0] (G, F, I, J) b post px ↔ ip_WP 40 19 [some (.ref x0), some (.int x1)] [.int 2, .ref s0] (G, F, I, J) b post px := ip_s_iconst f40_18 (by decide)
theorem f40_19 : ip_fetch 40 19 = some (.aload_n 0, 1) := by decide +kernel
theorem s40_19 {x0 : Nat} {x1 : Int32} {s0 : Nat} {s1 : Int32} : ip_WP 40 19 [some (.ref x0), some (.int x1)] [.int s1, .ref s0] (G, F, I, J) b post px ↔ ip_WP 40 20 [some (.ref x0), some (.int x1)] [.ref x0, .int s1, .ref s0] (G, F, I, J) b post px := ip_nx_iff ((ip_st_of f40_19).trans rfl)
theorem f40_20 : ip_fetch 40 20 = some (.getfield 117, 3) := by decide +kernel
set_option maxRecDepth 100000 in
theorem s40_20 {x0 : Nat} {x1 : Int32} {s0 : Nat} {s1 : Int32} {s2 : Nat} : ip_WP 40 20 [some (.ref x0), some (.int x1)] [.ref s2, .int s1, .ref s0] (G, F, I, J) b post px ↔ (ip_isO G s2 1 = true ∧ ip_WP 40 23 [some (.ref x0), some (.int x1)] [F s2 36, .int s1, .ref s0] (G, F, I, J) b post px) := ip_s_getf f40_20 (by decide +kernel)
theorem f40_23 : ip_fetch 40 23 = some (.invokevirtual 139, 3) := by decide +kernel
set_option maxRecDepth 100000 in
theorem s40_23 {x0 : Nat} {x1 : Int32} {s0 : Nat} {s1 : Int32} {s2 : Int32} : ip_WP 40 23 [some (.ref x0), some (.int x1)] [.int s2, .int s1, .ref s0] (G, F, I, J) b post px ↔ (ip_isO G s0 1 = true ∧ ip_WP 25 0 [some (.ref s0), some (.int s1), some (.int s2)] [] (G, F, I, J) (0, 0) (fun r h' => ip_WP 40 26 [some (.ref x0), some (.int x1)] (r.toList ++ []) h' b post px) (fun _ _ => False)) := ip_ck_iff (x := ip_cl 25 [some (.ref s0), some (.int s1), some (.int s2)] [] (0, 0) b) ((ip_st_of f40_23).trans rfl) (ip_cl_iff)
theorem f40_26 : ip_fetch 40 26 = some (.goto 44, 3) := by decide +kernel
theorem s40_26 {x0 : Nat} {x1 : Int32} : ip_WP 40 26 [some (.ref x0), some (.int x1)] [] (G, F, I, J) b post px ↔ ip_WP 40 70 [some (.ref x0), some (.int x1)] [] (G, F, I, J) b post px := ip_nx_iff ((ip_st_of f40_26).trans rfl)
theorem f40_29 : ip_fetch 40 29 = some (.aload_n 0, 1) := by decide +kernel
theorem s40_29 {x0 : Nat} {x1 : Int32} : ip_WP 40 29 [some (.ref x0), some (.int x1)] [] (G, F, I, J) b post px ↔ ip_WP 40 30 [some (.ref x0), some (.int x1)] [.ref x0] (G, F, I, J) b post px := ip_nx_iff ((ip_st_of f40_29).trans rfl)
theorem f40_30 : ip_fetch 40 30 = some (.getfield 34, 3) := by decide +kernel
set_option maxRecDepth 100000 in
theorem s40_30 {x0 : Nat} {x1 : Int32} {s0 : Nat} : ip_WP 40 30 [some (.ref x0), some (.int x1)] [.ref s0] (G, F, I, J) b post px ↔ (ip_isO G s0 1 = true ∧ ip_WP 40 33 [some (.ref x0), some (.int x1)] [F s0 16] (G, F, I, J) b post px) := ip_s_getf f40_30 (by decide +kernel)
theorem f40_33 : ip_fetch 40 33 = some (.iload_n 1, 1) := by decide +kernel
theorem s40_33 {x0 : Nat} {x1 : Int32} {s0 : Nat} : ip_WP 40 33 [some (.ref x0), some (.int x1)] [.ref s0] (G, F, I, J) b post px ↔ ip_WP 40 34 [some (.ref x0), some (.int x1)] [.int x1, .ref s0] (G, F, I, J) b post px := ip_nx_iff ((ip_st_of f40_33).trans rfl)
theorem f40_34 : ip_fetch 40 34 = some (.iaload, 1) := by decide +kernel
theorem s40_34 {x0 : Nat} {x1 : Int32} {s0 : Nat} {s1 : Int32} : ip_WP 40 34 [some (.ref x0), some (.int x1)] [.int s1, .ref s0] (G, F, I, J) b post px ↔ (ip_inA G s0 0 s1 = true ∧ ip_WP 40 35 [some (.ref x0), some (.int x1)] [.int (I s0 s1.toNatClampNeg)] (G, F, I, J) b post px) := ip_ck_iff ((ip_st_of f40_34).trans rfl) ip_nx_iff
theorem f40_35 : ip_fetch 40 35 = some (.iload_n 1, 1) := by decide +kernel
theorem s40_35 {x0 : Nat} {x1 : Int32} {s0 : Int32} : ip_WP 40 35 [some (.ref x0), some (.int x1)] [.int s0] (G, F, I, J) b post px ↔ ip_WP 40 36 [some (.ref x0), some (.int x1)] [.int x1, .int s0] (G, F, I, J) b post px := ip_nx_iff ((ip_st_of f40_35).trans rfl)
theorem f40_36 : ip_fetch 40 36 = some (.invokestatic 155, 3) := by decide +kernel
set_option maxRecDepth 100000 in
theorem s40_36 {x0 : Nat} {x1 : Int32} {s0 : Int32} {s1 : Int32} : ip_WP 40 36 [some (.ref x0), some (.int x1)] [.int s1, .int s0] (G, F, I, J) b post px ↔ ip_WP 39 0 [some (.int s1)] [] (G, F, I, J) (0, 0) (fun r h' => ip_WP 40 39 [some (.ref x0), some (.int x1)] (r.toList ++ [.int s0]) h' b post px) (fun _ _ => False) := ip_cl_iff ((ip_st_of f40_36).trans (rfl : _ = ip_cl 39 [some (.int s1)] [.int s0] (0, 0) b))
theorem f40_39 : ip_fetch 40 39 = some (.if_icmp .ne 15, 3) := by decide +kernel
theorem s40_39 {x0 : Nat} {x1 : Int32} {s0 : Int32} {s1 : Int32} : ip_WP 40 39 [some (.ref x0), some (.int x1)] [.int s1, .int s0] (G, F, I, J) b post px ↔ if ¬ s0 = s1 then ip_WP 40 54 [some (.ref x0), some (.int x1)] [] (G, F, I, J) b post px else ip_WP 40 42 [some (.ref x0), some (.int x1)] [] (G, F, I, J) b post px := ip_s_ic_ne f40_39 rfl
theorem f40_42 : ip_fetch 40 42 = some (.aload_n 0, 1) := by decide +kernel
theorem s40_42 {x0 : Nat} {x1 : Int32} : ip_WP 40 42 [some (.ref x0), some (.int x1)] [] (G, F, I, J) b post px ↔ ip_WP 40 43 [some (.ref x0), some (.int x1)] [.ref x0] (G, F, I, J) b post px := ip_nx_iff ((ip_st_of f40_42).trans rfl)
theorem f40_43 : ip_fetch 40 43 = some (.iconst 3, 1) := by decide +kernel
theorem s40_43 {x0 : Nat} {x1 : Int32} {s0 : Nat} : ip_WP 40 43 [some (.ref x0), some (.int x1)] [.ref s0] (G, F, I, J) b post px ↔ ip_WP 40 44 [some (.ref x0), some (.int x1)] [.int 3, .ref s0] (G, F, I, J) b post px := ip_s_iconst f40_43 (by decide)
theorem f40_44 : ip_fetch 40 44 = some (.aload_n 0, 1) := by decide +kernel
theorem s40_44 {x0 : Nat} {x1 : Int32} {s0 : Nat} {s1 : Int32} : ip_WP 40 44 [some (.ref x0), some (.int x1)] [.int s1, .ref s0] (G, F, I, J) b post px ↔ ip_WP 40 45 [some (.ref x0), some (.int x1)] [.ref x0, .int s1, .ref s0] (G, F, I, J) b post px := ip_nx_iff ((ip_st_of f40_44).trans rfl)
theorem f40_45 : ip_fetch 40 45 = some (.getfield 117, 3) := by decide +kernel
set_option maxRecDepth 100000 in
theorem s40_45 {x0 : Nat} {x1 : Int32} {s0 : Nat} {s1 : Int32} {s2 : Nat} : ip_WP 40 45 [some (.ref x0), some (.int x1)] [.ref s2, .int s1, .ref s0] (G, F, I, J) b post px ↔ (ip_isO G s2 1 = true ∧ ip_WP 40 48 [some (.ref x0), some (.int x1)] [F s2 36, .int s1, .ref s0] (G, F, I, J) b post px) := ip_s_getf f40_45 (by decide +kernel)
theorem f40_48 : ip_fetch 40 48 = some (.invokevirtual 139, 3) := by decide +kernel
set_option maxRecDepth 100000 in
theorem s40_48 {x0 : Nat} {x1 : Int32} {s0 : Nat} {s1 : Int32} {s2 : Int32} : ip_WP 40 48 [some (.ref x0), some (.int x1)] [.int s2, .int s1, .ref s0] (G, F, I, J) b post px ↔ (ip_isO G s0 1 = true ∧ ip_WP 25 0 [some (.ref s0), some (.int s1), some (.int s2)] [] (G, F, I, J) (0, 0) (fun r h' => ip_WP 40 51 [some (.ref x0), some (.int x1)] (r.toList ++ []) h' b post px) (fun _ _ => False)) := ip_ck_iff (x := ip_cl 25 [some (.ref s0), some (.int s1), some (.int s2)] [] (0, 0) b) ((ip_st_of f40_48).trans rfl) (ip_cl_iff)
theorem f40_51 : ip_fetch 40 51 = some (.goto 19, 3) := by decide +kernel
theorem s40_51 {x0 : Nat} {x1 : Int32} : ip_WP 40 51 [some (.ref x0), some (.int x1)] [] (G, F, I, J) b post px ↔ ip_WP 40 70 [some (.ref x0), some (.int x1)] [] (G, F, I, J) b post px := ip_nx_iff ((ip_st_of f40_51).trans rfl)
theorem f40_54 : ip_fetch 40 54 = some (.aload_n 0, 1) := by decide +kernel
theorem s40_54 {x0 : Nat} {x1 : Int32} : ip_WP 40 54 [some (.ref x0), some (.int x1)] [] (G, F, I, J) b post px ↔ ip_WP 40 55 [some (.ref x0), some (.int x1)] [.ref x0] (G, F, I, J) b post px := ip_nx_iff ((ip_st_of f40_54).trans rfl)
theorem f40_55 : ip_fetch 40 55 = some (.invokevirtual 158, 3) := by decide +kernel
set_option maxRecDepth 100000 in
theorem s40_55 {x0 : Nat} {x1 : Int32} {s0 : Nat} : ip_WP 40 55 [some (.ref x0), some (.int x1)] [.ref s0] (G, F, I, J) b post px ↔ (ip_isO G s0 1 = true ∧ ip_WP 38 0 [some (.ref s0), none, none] [] (G, F, I, J) (0, 0) (fun r h' => ip_WP 40 58 [some (.ref x0), some (.int x1)] (r.toList ++ []) h' b post px) (fun _ _ => False)) := ip_ck_iff (x := ip_cl 38 [some (.ref s0), none, none] [] (0, 0) b) ((ip_st_of f40_55).trans rfl) (ip_cl_iff)
theorem f40_58 : ip_fetch 40 58 = some (.ifCond .lt 12, 3) := by decide +kernel
theorem s40_58 {x0 : Nat} {x1 : Int32} {s0 : Int32} : ip_WP 40 58 [some (.ref x0), some (.int x1)] [.int s0] (G, F, I, J) b post px ↔ if s0 < 0 then ip_WP 40 70 [some (.ref x0), some (.int x1)] [] (G, F, I, J) b post px else ip_WP 40 61 [some (.ref x0), some (.int x1)] [] (G, F, I, J) b post px := ip_s_if_lt f40_58 rfl
theorem f40_61 : ip_fetch 40 61 = some (.aload_n 0, 1) := by decide +kernel
theorem s40_61 {x0 : Nat} {x1 : Int32} : ip_WP 40 61 [some (.ref x0), some (.int x1)] [] (G, F, I, J) b post px ↔ ip_WP 40 62 [some (.ref x0), some (.int x1)] [.ref x0] (G, F, I, J) b post px := ip_nx_iff ((ip_st_of f40_61).trans rfl)
theorem f40_62 : ip_fetch 40 62 = some (.iconst 4, 1) := by decide +kernel
theorem s40_62 {x0 : Nat} {x1 : Int32} {s0 : Nat} : ip_WP 40 62 [some (.ref x0), some (.int x1)] [.ref s0] (G, F, I, J) b post px ↔ ip_WP 40 63 [some (.ref x0), some (.int x1)] [.int 4, .ref s0] (G, F, I, J) b post px := ip_s_iconst f40_62 (by decide)
theorem f40_63 : ip_fetch 40 63 = some (.aload_n 0, 1) := by decide +kernel
theorem s40_63 {x0 : Nat} {x1 : Int32} {s0 : Nat} {s1 : Int32} : ip_WP 40 63 [some (.ref x0), some (.int x1)] [.int s1, .ref s0] (G, F, I, J) b post px ↔ ip_WP 40 64 [some (.ref x0), some (.int x1)] [.ref x0, .int s1, .ref s0] (G, F, I, J) b post px := ip_nx_iff ((ip_st_of f40_63).trans rfl)
theorem f40_64 : ip_fetch 40 64 = some (.getfield 117, 3) := by decide +kernel
set_option maxRecDepth 100000 in
theorem s40_64 {x0 : Nat} {x1 : Int32} {s0 : Nat} {s1 : Int32} {s2 : Nat} : ip_WP 40 64 [some (.ref x0), some (.int x1)] [.ref s2, .int s1, .ref s0] (G, F, I, J) b post px ↔ (ip_isO G s2 1 = true ∧ ip_WP 40 67 [some (.ref x0), some (.int x1)] [F s2 36, .int s1, .ref s0] (G, F, I, J) b post px) := ip_s_getf f40_64 (by decide +kernel)
theorem f40_67 : ip_fetch 40 67 = some (.invokevirtual 139, 3) := by decide +kernel
set_option maxRecDepth 100000 in
theorem s40_67 {x0 : Nat} {x1 : Int32} {s0 : Nat} {s1 : Int32} {s2 : Int32} : ip_WP 40 67 [some (.ref x0), some (.int x1)] [.int s2, .int s1, .ref s0] (G, F, I, J) b post px ↔ (ip_isO G s0 1 = true ∧ ip_WP 25 0 [some (.ref s0), some (.int s1), some (.int s2)] [] (G, F, I, J) (0, 0) (fun r h' => ip_WP 40 70 [some (.ref x0), some (.int x1)] (r.toList ++ []) h' b post px) (fun _ _ => False)) := ip_ck_iff (x := ip_cl 25 [some (.ref s0), some (.int s1), some (.int s2)] [] (0, 0) b) ((ip_st_of f40_67).trans rfl) (ip_cl_iff)
theorem f40_70 : ip_fetch 40 70 = some (.aload_n 0, 1) := by decide +kernel
theorem s40_70 {x0 : Nat} {x1 : Int32} : ip_WP 40 70 [some (.ref x0), some (.int x1)] [] (G, F, I, J) b post px ↔ ip_WP 40 71 [some (.ref x0), some (.int x1)] [.ref x0] (G, F, I, J) b post px := ip_nx_iff ((ip_st_of f40_70).trans rfl)
theorem f40_71 : ip_fetch 40 71 = some (.getfield 101, 3) := by decide +kernel
set_option maxRecDepth 100000 in
theorem s40_71 {x0 : Nat} {x1 : Int32} {s0 : Nat} : ip_WP 40 71 [some (.ref x0), some (.int x1)] [.ref s0] (G, F, I, J) b post px ↔ (ip_isO G s0 1 = true ∧ ip_WP 40 74 [some (.ref x0), some (.int x1)] [F s0 6] (G, F, I, J) b post px) := ip_s_getf f40_71 (by decide +kernel)
theorem f40_74 : ip_fetch 40 74 = some (.ifCond .le 5, 3) := by decide +kernel
theorem s40_74 {x0 : Nat} {x1 : Int32} {s0 : Int32} : ip_WP 40 74 [some (.ref x0), some (.int x1)] [.int s0] (G, F, I, J) b post px ↔ if s0 ≤ 0 then ip_WP 40 79 [some (.ref x0), some (.int x1)] [] (G, F, I, J) b post px else ip_WP 40 77 [some (.ref x0), some (.int x1)] [] (G, F, I, J) b post px := ip_s_if_le f40_74 rfl
theorem f40_77 : ip_fetch 40 77 = some (.iconst 0, 1) := by decide +kernel
theorem s40_77 {x0 : Nat} {x1 : Int32} : ip_WP 40 77 [some (.ref x0), some (.int x1)] [] (G, F, I, J) b post px ↔ ip_WP 40 78 [some (.ref x0), some (.int x1)] [.int 0] (G, F, I, J) b post px := ip_s_iconst f40_77 (by decide)
theorem f40_78 : ip_fetch 40 78 = some (.ireturn, 1) := by decide +kernel
theorem s40_78 {x0 : Nat} {x1 : Int32} {s0 : Int32} : ip_WP 40 78 [some (.ref x0), some (.int x1)] [.int s0] (G, F, I, J) b post px ↔ post (some (.int s0)) (G, F, I, J) := ip_rt_iff ((ip_st_of f40_78).trans rfl)
theorem f40_79 : ip_fetch 40 79 = some (.aload_n 0, 1) := by decide +kernel
theorem s40_79 {x0 : Nat} {x1 : Int32} : ip_WP 40 79 [some (.ref x0), some (.int x1)] [] (G, F, I, J) b post px ↔ ip_WP 40 80 [some (.ref x0), some (.int x1)] [.ref x0] (G, F, I, J) b post px := ip_nx_iff ((ip_st_of f40_79).trans rfl)
theorem f40_80 : ip_fetch 40 80 = some (.getfield 22, 3) := by decide +kernel
set_option maxRecDepth 100000 in
theorem s40_80 {x0 : Nat} {x1 : Int32} {s0 : Nat} : ip_WP 40 80 [some (.ref x0), some (.int x1)] [.ref s0] (G, F, I, J) b post px ↔ (ip_isO G s0 1 = true ∧ ip_WP 40 83 [some (.ref x0), some (.int x1)] [F s0 12] (G, F, I, J) b post px) := ip_s_getf f40_80 (by decide +kernel)
theorem f40_83 : ip_fetch 40 83 = some (.aload_n 0, 1) := by decide +kernel
theorem s40_83 {x0 : Nat} {x1 : Int32} {s0 : Nat} : ip_WP 40 83 [some (.ref x0), some (.int x1)] [.ref s0] (G, F, I, J) b post px ↔ ip_WP 40 84 [some (.ref x0), some (.int x1)] [.ref x0, .ref s0] (G, F, I, J) b post px := ip_nx_iff ((ip_st_of f40_83).trans rfl)
theorem f40_84 : ip_fetch 40 84 = some (.getfield 149, 3) := by decide +kernel
set_option maxRecDepth 100000 in
theorem s40_84 {x0 : Nat} {x1 : Int32} {s0 : Nat} {s1 : Nat} : ip_WP 40 84 [some (.ref x0), some (.int x1)] [.ref s1, .ref s0] (G, F, I, J) b post px ↔ (ip_isO G s1 1 = true ∧ ip_WP 40 87 [some (.ref x0), some (.int x1)] [F s1 10, .ref s0] (G, F, I, J) b post px) := ip_s_getf f40_84 (by decide +kernel)
theorem f40_87 : ip_fetch 40 87 = some (.aload_n 0, 1) := by decide +kernel
theorem s40_87 {x0 : Nat} {x1 : Int32} {s0 : Nat} {s1 : Int32} : ip_WP 40 87 [some (.ref x0), some (.int x1)] [.int s1, .ref s0] (G, F, I, J) b post px ↔ ip_WP 40 88 [some (.ref x0), some (.int x1)] [.ref x0, .int s1, .ref s0] (G, F, I, J) b post px := ip_nx_iff ((ip_st_of f40_87).trans rfl)
theorem f40_88 : ip_fetch 40 88 = some (.getfield 117, 3) := by decide +kernel
set_option maxRecDepth 100000 in
theorem s40_88 {x0 : Nat} {x1 : Int32} {s0 : Nat} {s1 : Int32} {s2 : Nat} : ip_WP 40 88 [some (.ref x0), some (.int x1)] [.ref s2, .int s1, .ref s0] (G, F, I, J) b post px ↔ (ip_isO G s2 1 = true ∧ ip_WP 40 91 [some (.ref x0), some (.int x1)] [F s2 36, .int s1, .ref s0] (G, F, I, J) b post px) := ip_s_getf f40_88 (by decide +kernel)
theorem f40_91 : ip_fetch 40 91 = some (.iastore, 1) := by decide +kernel
theorem s40_91 {x0 : Nat} {x1 : Int32} {s0 : Nat} {s1 : Int32} {s2 : Int32} : ip_WP 40 91 [some (.ref x0), some (.int x1)] [.int s2, .int s1, .ref s0] (G, F, I, J) b post px ↔ (ip_inA G s0 0 s1 = true ∧ ip_WP 40 92 [some (.ref x0), some (.int x1)] [] (G, F, ip_up I s0 s1.toNatClampNeg s2, J) b post px) := ip_ck_iff ((ip_st_of f40_91).trans rfl) ip_nx_iff
theorem f40_92 : ip_fetch 40 92 = some (.aload_n 0, 1) := by decide +kernel
theorem s40_92 {x0 : Nat} {x1 : Int32} : ip_WP 40 92 [some (.ref x0), some (.int x1)] [] (G, F, I, J) b post px ↔ ip_WP 40 93 [some (.ref x0), some (.int x1)] [.ref x0] (G, F, I, J) b post px := ip_nx_iff ((ip_st_of f40_92).trans rfl)
theorem f40_93 : ip_fetch 40 93 = some (.getfield 25, 3) := by decide +kernel
set_option maxRecDepth 100000 in
theorem s40_93 {x0 : Nat} {x1 : Int32} {s0 : Nat} : ip_WP 40 93 [some (.ref x0), some (.int x1)] [.ref s0] (G, F, I, J) b post px ↔ (ip_isO G s0 1 = true ∧ ip_WP 40 96 [some (.ref x0), some (.int x1)] [F s0 13] (G, F, I, J) b post px) := ip_s_getf f40_93 (by decide +kernel)
theorem f40_96 : ip_fetch 40 96 = some (.aload_n 0, 1) := by decide +kernel
theorem s40_96 {x0 : Nat} {x1 : Int32} {s0 : Nat} : ip_WP 40 96 [some (.ref x0), some (.int x1)] [.ref s0] (G, F, I, J) b post px ↔ ip_WP 40 97 [some (.ref x0), some (.int x1)] [.ref x0, .ref s0] (G, F, I, J) b post px := ip_nx_iff ((ip_st_of f40_96).trans rfl)
theorem f40_97 : ip_fetch 40 97 = some (.getfield 149, 3) := by decide +kernel
set_option maxRecDepth 100000 in
theorem s40_97 {x0 : Nat} {x1 : Int32} {s0 : Nat} {s1 : Nat} : ip_WP 40 97 [some (.ref x0), some (.int x1)] [.ref s1, .ref s0] (G, F, I, J) b post px ↔ (ip_isO G s1 1 = true ∧ ip_WP 40 100 [some (.ref x0), some (.int x1)] [F s1 10, .ref s0] (G, F, I, J) b post px) := ip_s_getf f40_97 (by decide +kernel)
theorem f40_100 : ip_fetch 40 100 = some (.aload_n 0, 1) := by decide +kernel
theorem s40_100 {x0 : Nat} {x1 : Int32} {s0 : Nat} {s1 : Int32} : ip_WP 40 100 [some (.ref x0), some (.int x1)] [.int s1, .ref s0] (G, F, I, J) b post px ↔ ip_WP 40 101 [some (.ref x0), some (.int x1)] [.ref x0, .int s1, .ref s0] (G, F, I, J) b post px := ip_nx_iff ((ip_st_of f40_100).trans rfl)
theorem f40_101 : ip_fetch 40 101 = some (.getfield 107, 3) := by decide +kernel
set_option maxRecDepth 100000 in
theorem s40_101 {x0 : Nat} {x1 : Int32} {s0 : Nat} {s1 : Int32} {s2 : Nat} : ip_WP 40 101 [some (.ref x0), some (.int x1)] [.ref s2, .int s1, .ref s0] (G, F, I, J) b post px ↔ (ip_isO G s2 1 = true ∧ ip_WP 40 104 [some (.ref x0), some (.int x1)] [F s2 37, .int s1, .ref s0] (G, F, I, J) b post px) := ip_s_getf f40_101 (by decide +kernel)
theorem f40_104 : ip_fetch 40 104 = some (.iastore, 1) := by decide +kernel
theorem s40_104 {x0 : Nat} {x1 : Int32} {s0 : Nat} {s1 : Int32} {s2 : Int32} : ip_WP 40 104 [some (.ref x0), some (.int x1)] [.int s2, .int s1, .ref s0] (G, F, I, J) b post px ↔ (ip_inA G s0 0 s1 = true ∧ ip_WP 40 105 [some (.ref x0), some (.int x1)] [] (G, F, ip_up I s0 s1.toNatClampNeg s2, J) b post px) := ip_ck_iff ((ip_st_of f40_104).trans rfl) ip_nx_iff
theorem f40_105 : ip_fetch 40 105 = some (.aload_n 0, 1) := by decide +kernel
theorem s40_105 {x0 : Nat} {x1 : Int32} : ip_WP 40 105 [some (.ref x0), some (.int x1)] [] (G, F, I, J) b post px ↔ ip_WP 40 106 [some (.ref x0), some (.int x1)] [.ref x0] (G, F, I, J) b post px := ip_nx_iff ((ip_st_of f40_105).trans rfl)
theorem f40_106 : ip_fetch 40 106 = some (.getfield 28, 3) := by decide +kernel
set_option maxRecDepth 100000 in
theorem s40_106 {x0 : Nat} {x1 : Int32} {s0 : Nat} : ip_WP 40 106 [some (.ref x0), some (.int x1)] [.ref s0] (G, F, I, J) b post px ↔ (ip_isO G s0 1 = true ∧ ip_WP 40 109 [some (.ref x0), some (.int x1)] [F s0 14] (G, F, I, J) b post px) := ip_s_getf f40_106 (by decide +kernel)
theorem f40_109 : ip_fetch 40 109 = some (.aload_n 0, 1) := by decide +kernel
theorem s40_109 {x0 : Nat} {x1 : Int32} {s0 : Nat} : ip_WP 40 109 [some (.ref x0), some (.int x1)] [.ref s0] (G, F, I, J) b post px ↔ ip_WP 40 110 [some (.ref x0), some (.int x1)] [.ref x0, .ref s0] (G, F, I, J) b post px := ip_nx_iff ((ip_st_of f40_109).trans rfl)
theorem f40_110 : ip_fetch 40 110 = some (.getfield 149, 3) := by decide +kernel
set_option maxRecDepth 100000 in
theorem s40_110 {x0 : Nat} {x1 : Int32} {s0 : Nat} {s1 : Nat} : ip_WP 40 110 [some (.ref x0), some (.int x1)] [.ref s1, .ref s0] (G, F, I, J) b post px ↔ (ip_isO G s1 1 = true ∧ ip_WP 40 113 [some (.ref x0), some (.int x1)] [F s1 10, .ref s0] (G, F, I, J) b post px) := ip_s_getf f40_110 (by decide +kernel)
theorem f40_113 : ip_fetch 40 113 = some (.iload_n 1, 1) := by decide +kernel
theorem s40_113 {x0 : Nat} {x1 : Int32} {s0 : Nat} {s1 : Int32} : ip_WP 40 113 [some (.ref x0), some (.int x1)] [.int s1, .ref s0] (G, F, I, J) b post px ↔ ip_WP 40 114 [some (.ref x0), some (.int x1)] [.int x1, .int s1, .ref s0] (G, F, I, J) b post px := ip_nx_iff ((ip_st_of f40_113).trans rfl)
theorem f40_114 : ip_fetch 40 114 = some (.iastore, 1) := by decide +kernel
theorem s40_114 {x0 : Nat} {x1 : Int32} {s0 : Nat} {s1 : Int32} {s2 : Int32} : ip_WP 40 114 [some (.ref x0), some (.int x1)] [.int s2, .int s1, .ref s0] (G, F, I, J) b post px ↔ (ip_inA G s0 0 s1 = true ∧ ip_WP 40 115 [some (.ref x0), some (.int x1)] [] (G, F, ip_up I s0 s1.toNatClampNeg s2, J) b post px) := ip_ck_iff ((ip_st_of f40_114).trans rfl) ip_nx_iff
theorem f40_115 : ip_fetch 40 115 = some (.aload_n 0, 1) := by decide +kernel
theorem s40_115 {x0 : Nat} {x1 : Int32} : ip_WP 40 115 [some (.ref x0), some (.int x1)] [] (G, F, I, J) b post px ↔ ip_WP 40 116 [some (.ref x0), some (.int x1)] [.ref x0] (G, F, I, J) b post px := ip_nx_iff ((ip_st_of f40_115).trans rfl)
theorem f40_116 : ip_fetch 40 116 = some (.getfield 31, 3) := by decide +kernel
set_option maxRecDepth 100000 in
theorem s40_116 {x0 : Nat} {x1 : Int32} {s0 : Nat} : ip_WP 40 116 [some (.ref x0), some (.int x1)] [.ref s0] (G, F, I, J) b post px ↔ (ip_isO G s0 1 = true ∧ ip_WP 40 119 [some (.ref x0), some (.int x1)] [F s0 15] (G, F, I, J) b post px) := ip_s_getf f40_116 (by decide +kernel)
theorem f40_119 : ip_fetch 40 119 = some (.aload_n 0, 1) := by decide +kernel
theorem s40_119 {x0 : Nat} {x1 : Int32} {s0 : Nat} : ip_WP 40 119 [some (.ref x0), some (.int x1)] [.ref s0] (G, F, I, J) b post px ↔ ip_WP 40 120 [some (.ref x0), some (.int x1)] [.ref x0, .ref s0] (G, F, I, J) b post px := ip_nx_iff ((ip_st_of f40_119).trans rfl)
theorem f40_120 : ip_fetch 40 120 = some (.getfield 149, 3) := by decide +kernel
set_option maxRecDepth 100000 in
theorem s40_120 {x0 : Nat} {x1 : Int32} {s0 : Nat} {s1 : Nat} : ip_WP 40 120 [some (.ref x0), some (.int x1)] [.ref s1, .ref s0] (G, F, I, J) b post px ↔ (ip_isO G s1 1 = true ∧ ip_WP 40 123 [some (.ref x0), some (.int x1)] [F s1 10, .ref s0] (G, F, I, J) b post px) := ip_s_getf f40_120 (by decide +kernel)
theorem f40_123 : ip_fetch 40 123 = some (.aload_n 0, 1) := by decide +kernel
theorem s40_123 {x0 : Nat} {x1 : Int32} {s0 : Nat} {s1 : Int32} : ip_WP 40 123 [some (.ref x0), some (.int x1)] [.int s1, .ref s0] (G, F, I, J) b post px ↔ ip_WP 40 124 [some (.ref x0), some (.int x1)] [.ref x0, .int s1, .ref s0] (G, F, I, J) b post px := ip_nx_iff ((ip_st_of f40_123).trans rfl)
theorem f40_124 : ip_fetch 40 124 = some (.getfield 34, 3) := by decide +kernel
set_option maxRecDepth 100000 in
theorem s40_124 {x0 : Nat} {x1 : Int32} {s0 : Nat} {s1 : Int32} {s2 : Nat} : ip_WP 40 124 [some (.ref x0), some (.int x1)] [.ref s2, .int s1, .ref s0] (G, F, I, J) b post px ↔ (ip_isO G s2 1 = true ∧ ip_WP 40 127 [some (.ref x0), some (.int x1)] [F s2 16, .int s1, .ref s0] (G, F, I, J) b post px) := ip_s_getf f40_124 (by decide +kernel)
theorem f40_127 : ip_fetch 40 127 = some (.iload_n 1, 1) := by decide +kernel
theorem s40_127 {x0 : Nat} {x1 : Int32} {s0 : Nat} {s1 : Int32} {s2 : Nat} : ip_WP 40 127 [some (.ref x0), some (.int x1)] [.ref s2, .int s1, .ref s0] (G, F, I, J) b post px ↔ ip_WP 40 128 [some (.ref x0), some (.int x1)] [.int x1, .ref s2, .int s1, .ref s0] (G, F, I, J) b post px := ip_nx_iff ((ip_st_of f40_127).trans rfl)
theorem f40_128 : ip_fetch 40 128 = some (.iaload, 1) := by decide +kernel
theorem s40_128 {x0 : Nat} {x1 : Int32} {s0 : Nat} {s1 : Int32} {s2 : Nat} {s3 : Int32} : ip_WP 40 128 [some (.ref x0), some (.int x1)] [.int s3, .ref s2, .int s1, .ref s0] (G, F, I, J) b post px ↔ (ip_inA G s2 0 s3 = true ∧ ip_WP 40 129 [some (.ref x0), some (.int x1)] [.int (I s2 s3.toNatClampNeg), .int s1, .ref s0] (G, F, I, J) b post px) := ip_ck_iff ((ip_st_of f40_128).trans rfl) ip_nx_iff
theorem f40_129 : ip_fetch 40 129 = some (.iastore, 1) := by decide +kernel
theorem s40_129 {x0 : Nat} {x1 : Int32} {s0 : Nat} {s1 : Int32} {s2 : Int32} : ip_WP 40 129 [some (.ref x0), some (.int x1)] [.int s2, .int s1, .ref s0] (G, F, I, J) b post px ↔ (ip_inA G s0 0 s1 = true ∧ ip_WP 40 130 [some (.ref x0), some (.int x1)] [] (G, F, ip_up I s0 s1.toNatClampNeg s2, J) b post px) := ip_ck_iff ((ip_st_of f40_129).trans rfl) ip_nx_iff
theorem f40_130 : ip_fetch 40 130 = some (.aload_n 0, 1) := by decide +kernel
theorem s40_130 {x0 : Nat} {x1 : Int32} : ip_WP 40 130 [some (.ref x0), some (.int x1)] [] (G, F, I, J) b post px ↔ ip_WP 40 131 [some (.ref x0), some (.int x1)] [.ref x0] (G, F, I, J) b post px := ip_nx_iff ((ip_st_of f40_130).trans rfl)
theorem f40_131 : ip_fetch 40 131 = some (.getfield 37, 3) := by decide +kernel
set_option maxRecDepth 100000 in
theorem s40_131 {x0 : Nat} {x1 : Int32} {s0 : Nat} : ip_WP 40 131 [some (.ref x0), some (.int x1)] [.ref s0] (G, F, I, J) b post px ↔ (ip_isO G s0 1 = true ∧ ip_WP 40 134 [some (.ref x0), some (.int x1)] [F s0 17] (G, F, I, J) b post px) := ip_s_getf f40_131 (by decide +kernel)
theorem f40_134 : ip_fetch 40 134 = some (.bipush 12, 2) := by decide +kernel
theorem s40_134 {x0 : Nat} {x1 : Int32} {s0 : Nat} : ip_WP 40 134 [some (.ref x0), some (.int x1)] [.ref s0] (G, F, I, J) b post px ↔ ip_WP 40 136 [some (.ref x0), some (.int x1)] [.int 12, .ref s0] (G, F, I, J) b post px := ip_s_bipush f40_134 (by decide)
theorem f40_136 : ip_fetch 40 136 = some (.iload_n 1, 1) := by decide +kernel
theorem s40_136 {x0 : Nat} {x1 : Int32} {s0 : Nat} {s1 : Int32} : ip_WP 40 136 [some (.ref x0), some (.int x1)] [.int s1, .ref s0] (G, F, I, J) b post px ↔ ip_WP 40 137 [some (.ref x0), some (.int x1)] [.int x1, .int s1, .ref s0] (G, F, I, J) b post px := ip_nx_iff ((ip_st_of f40_136).trans rfl)
theorem f40_137 : ip_fetch 40 137 = some (.imul, 1) := by decide +kernel
theorem s40_137 {x0 : Nat} {x1 : Int32} {s0 : Nat} {s1 : Int32} {s2 : Int32} : ip_WP 40 137 [some (.ref x0), some (.int x1)] [.int s2, .int s1, .ref s0] (G, F, I, J) b post px ↔ ip_WP 40 138 [some (.ref x0), some (.int x1)] [.int (s1 * s2), .ref s0] (G, F, I, J) b post px := ip_nx_iff ((ip_st_of f40_137).trans rfl)
theorem f40_138 : ip_fetch 40 138 = some (.aload_n 0, 1) := by decide +kernel
theorem s40_138 {x0 : Nat} {x1 : Int32} {s0 : Nat} {s1 : Int32} : ip_WP 40 138 [some (.ref x0), some (.int x1)] [.int s1, .ref s0] (G, F, I, J) b post px ↔ ip_WP 40 139 [some (.ref x0), some (.int x1)] [.ref x0, .int s1, .ref s0] (G, F, I, J) b post px := ip_nx_iff ((ip_st_of f40_138).trans rfl)
theorem f40_139 : ip_fetch 40 139 = some (.getfield 34, 3) := by decide +kernel
set_option maxRecDepth 100000 in
theorem s40_139 {x0 : Nat} {x1 : Int32} {s0 : Nat} {s1 : Int32} {s2 : Nat} : ip_WP 40 139 [some (.ref x0), some (.int x1)] [.ref s2, .int s1, .ref s0] (G, F, I, J) b post px ↔ (ip_isO G s2 1 = true ∧ ip_WP 40 142 [some (.ref x0), some (.int x1)] [F s2 16, .int s1, .ref s0] (G, F, I, J) b post px) := ip_s_getf f40_139 (by decide +kernel)
theorem f40_142 : ip_fetch 40 142 = some (.iload_n 1, 1) := by decide +kernel
theorem s40_142 {x0 : Nat} {x1 : Int32} {s0 : Nat} {s1 : Int32} {s2 : Nat} : ip_WP 40 142 [some (.ref x0), some (.int x1)] [.ref s2, .int s1, .ref s0] (G, F, I, J) b post px ↔ ip_WP 40 143 [some (.ref x0), some (.int x1)] [.int x1, .ref s2, .int s1, .ref s0] (G, F, I, J) b post px := ip_nx_iff ((ip_st_of f40_142).trans rfl)
theorem f40_143 : ip_fetch 40 143 = some (.iaload, 1) := by decide +kernel
theorem s40_143 {x0 : Nat} {x1 : Int32} {s0 : Nat} {s1 : Int32} {s2 : Nat} {s3 : Int32} : ip_WP 40 143 [some (.ref x0), some (.int x1)] [.int s3, .ref s2, .int s1, .ref s0] (G, F, I, J) b post px ↔ (ip_inA G s2 0 s3 = true ∧ ip_WP 40 144 [some (.ref x0), some (.int x1)] [.int (I s2 s3.toNatClampNeg), .int s1, .ref s0] (G, F, I, J) b post px) := ip_ck_iff ((ip_st_of f40_143).trans rfl) ip_nx_iff
theorem f40_144 : ip_fetch 40 144 = some (.iadd, 1) := by decide +kernel
theorem s40_144 {x0 : Nat} {x1 : Int32} {s0 : Nat} {s1 : Int32} {s2 : Int32} : ip_WP 40 144 [some (.ref x0), some (.int x1)] [.int s2, .int s1, .ref s0] (G, F, I, J) b post px ↔ ip_WP 40 145 [some (.ref x0), some (.int x1)] [.int (s1 + s2), .ref s0] (G, F, I, J) b post px := ip_nx_iff ((ip_st_of f40_144).trans rfl)
theorem f40_145 : ip_fetch 40 145 = some (.aload_n 0, 1) := by decide +kernel
theorem s40_145 {x0 : Nat} {x1 : Int32} {s0 : Nat} {s1 : Int32} : ip_WP 40 145 [some (.ref x0), some (.int x1)] [.int s1, .ref s0] (G, F, I, J) b post px ↔ ip_WP 40 146 [some (.ref x0), some (.int x1)] [.ref x0, .int s1, .ref s0] (G, F, I, J) b post px := ip_nx_iff ((ip_st_of f40_145).trans rfl)
theorem f40_146 : ip_fetch 40 146 = some (.getfield 149, 3) := by decide +kernel
set_option maxRecDepth 100000 in
theorem s40_146 {x0 : Nat} {x1 : Int32} {s0 : Nat} {s1 : Int32} {s2 : Nat} : ip_WP 40 146 [some (.ref x0), some (.int x1)] [.ref s2, .int s1, .ref s0] (G, F, I, J) b post px ↔ (ip_isO G s2 1 = true ∧ ip_WP 40 149 [some (.ref x0), some (.int x1)] [F s2 10, .int s1, .ref s0] (G, F, I, J) b post px) := ip_s_getf f40_146 (by decide +kernel)
theorem f40_149 : ip_fetch 40 149 = some (.iastore, 1) := by decide +kernel
theorem s40_149 {x0 : Nat} {x1 : Int32} {s0 : Nat} {s1 : Int32} {s2 : Int32} : ip_WP 40 149 [some (.ref x0), some (.int x1)] [.int s2, .int s1, .ref s0] (G, F, I, J) b post px ↔ (ip_inA G s0 0 s1 = true ∧ ip_WP 40 150 [some (.ref x0), some (.int x1)] [] (G, F, ip_up I s0 s1.toNatClampNeg s2, J) b post px) := ip_ck_iff ((ip_st_of f40_149).trans rfl) ip_nx_iff
theorem f40_150 : ip_fetch 40 150 = some (.aload_n 0, 1) := by decide +kernel
theorem s40_150 {x0 : Nat} {x1 : Int32} : ip_WP 40 150 [some (.ref x0), some (.int x1)] [] (G, F, I, J) b post px ↔ ip_WP 40 151 [some (.ref x0), some (.int x1)] [.ref x0] (G, F, I, J) b post px := ip_nx_iff ((ip_st_of f40_150).trans rfl)
theorem f40_151 : ip_fetch 40 151 = some (.dup, 1) := by decide +kernel
theorem s40_151 {x0 : Nat} {x1 : Int32} {s0 : Nat} : ip_WP 40 151 [some (.ref x0), some (.int x1)] [.ref s0] (G, F, I, J) b post px ↔ ip_WP 40 152 [some (.ref x0), some (.int x1)] [.ref s0, .ref s0] (G, F, I, J) b post px := ip_nx_iff ((ip_st_of f40_151).trans rfl)
theorem f40_152 : ip_fetch 40 152 = some (.getfield 149, 3) := by decide +kernel
set_option maxRecDepth 100000 in
theorem s40_152 {x0 : Nat} {x1 : Int32} {s0 : Nat} {s1 : Nat} : ip_WP 40 152 [some (.ref x0), some (.int x1)] [.ref s1, .ref s0] (G, F, I, J) b post px ↔ (ip_isO G s1 1 = true ∧ ip_WP 40 155 [some (.ref x0), some (.int x1)] [F s1 10, .ref s0] (G, F, I, J) b post px) := ip_s_getf f40_152 (by decide +kernel)
theorem f40_155 : ip_fetch 40 155 = some (.iconst 1, 1) := by decide +kernel
theorem s40_155 {x0 : Nat} {x1 : Int32} {s0 : Nat} {s1 : Int32} : ip_WP 40 155 [some (.ref x0), some (.int x1)] [.int s1, .ref s0] (G, F, I, J) b post px ↔ ip_WP 40 156 [some (.ref x0), some (.int x1)] [.int 1, .int s1, .ref s0] (G, F, I, J) b post px := ip_s_iconst f40_155 (by decide)
theorem f40_156 : ip_fetch 40 156 = some (.iadd, 1) := by decide +kernel
theorem s40_156 {x0 : Nat} {x1 : Int32} {s0 : Nat} {s1 : Int32} {s2 : Int32} : ip_WP 40 156 [some (.ref x0), some (.int x1)] [.int s2, .int s1, .ref s0] (G, F, I, J) b post px ↔ ip_WP 40 157 [some (.ref x0), some (.int x1)] [.int (s1 + s2), .ref s0] (G, F, I, J) b post px := ip_nx_iff ((ip_st_of f40_156).trans rfl)
theorem f40_157 : ip_fetch 40 157 = some (.putfield 149, 3) := by decide +kernel
set_option maxRecDepth 100000 in
theorem s40_157 {x0 : Nat} {x1 : Int32} {s0 : Nat} {s1 : Int32} : ip_WP 40 157 [some (.ref x0), some (.int x1)] [.int s1, .ref s0] (G, F, I, J) b post px ↔ (ip_isO G s0 1 = true ∧ ip_WP 40 160 [some (.ref x0), some (.int x1)] [] (G, ip_up F s0 10 (.int s1), I, J) b post px) := ip_s_put f40_157 (by decide +kernel) rfl
theorem f40_160 : ip_fetch 40 160 = some (.aload_n 0, 1) := by decide +kernel
theorem s40_160 {x0 : Nat} {x1 : Int32} : ip_WP 40 160 [some (.ref x0), some (.int x1)] [] (G, F, I, J) b post px ↔ ip_WP 40 161 [some (.ref x0), some (.int x1)] [.ref x0] (G, F, I, J) b post px := ip_nx_iff ((ip_st_of f40_160).trans rfl)
theorem f40_161 : ip_fetch 40 161 = some (.getfield 34, 3) := by decide +kernel
set_option maxRecDepth 100000 in
theorem s40_161 {x0 : Nat} {x1 : Int32} {s0 : Nat} : ip_WP 40 161 [some (.ref x0), some (.int x1)] [.ref s0] (G, F, I, J) b post px ↔ (ip_isO G s0 1 = true ∧ ip_WP 40 164 [some (.ref x0), some (.int x1)] [F s0 16] (G, F, I, J) b post px) := ip_s_getf f40_161 (by decide +kernel)
theorem f40_164 : ip_fetch 40 164 = some (.iload_n 1, 1) := by decide +kernel
theorem s40_164 {x0 : Nat} {x1 : Int32} {s0 : Nat} : ip_WP 40 164 [some (.ref x0), some (.int x1)] [.ref s0] (G, F, I, J) b post px ↔ ip_WP 40 165 [some (.ref x0), some (.int x1)] [.int x1, .ref s0] (G, F, I, J) b post px := ip_nx_iff ((ip_st_of f40_164).trans rfl)
theorem f40_165 : ip_fetch 40 165 = some (.dup2, 1) := by decide +kernel
theorem s40_165 {x0 : Nat} {x1 : Int32} {s0 : Nat} {s1 : Int32} : ip_WP 40 165 [some (.ref x0), some (.int x1)] [.int s1, .ref s0] (G, F, I, J) b post px ↔ ip_WP 40 166 [some (.ref x0), some (.int x1)] [.int s1, .ref s0, .int s1, .ref s0] (G, F, I, J) b post px := ip_nx_iff ((ip_st_of f40_165).trans rfl)
theorem f40_166 : ip_fetch 40 166 = some (.iaload, 1) := by decide +kernel
theorem s40_166 {x0 : Nat} {x1 : Int32} {s0 : Nat} {s1 : Int32} {s2 : Nat} {s3 : Int32} : ip_WP 40 166 [some (.ref x0), some (.int x1)] [.int s3, .ref s2, .int s1, .ref s0] (G, F, I, J) b post px ↔ (ip_inA G s2 0 s3 = true ∧ ip_WP 40 167 [some (.ref x0), some (.int x1)] [.int (I s2 s3.toNatClampNeg), .int s1, .ref s0] (G, F, I, J) b post px) := ip_ck_iff ((ip_st_of f40_166).trans rfl) ip_nx_iff
theorem f40_167 : ip_fetch 40 167 = some (.iconst 1, 1) := by decide +kernel
theorem s40_167 {x0 : Nat} {x1 : Int32} {s0 : Nat} {s1 : Int32} {s2 : Int32} : ip_WP 40 167 [some (.ref x0), some (.int x1)] [.int s2, .int s1, .ref s0] (G, F, I, J) b post px ↔ ip_WP 40 168 [some (.ref x0), some (.int x1)] [.int 1, .int s2, .int s1, .ref s0] (G, F, I, J) b post px := ip_s_iconst f40_167 (by decide)
theorem f40_168 : ip_fetch 40 168 = some (.iadd, 1) := by decide +kernel
theorem s40_168 {x0 : Nat} {x1 : Int32} {s0 : Nat} {s1 : Int32} {s2 : Int32} {s3 : Int32} : ip_WP 40 168 [some (.ref x0), some (.int x1)] [.int s3, .int s2, .int s1, .ref s0] (G, F, I, J) b post px ↔ ip_WP 40 169 [some (.ref x0), some (.int x1)] [.int (s2 + s3), .int s1, .ref s0] (G, F, I, J) b post px := ip_nx_iff ((ip_st_of f40_168).trans rfl)
theorem f40_169 : ip_fetch 40 169 = some (.iastore, 1) := by decide +kernel
theorem s40_169 {x0 : Nat} {x1 : Int32} {s0 : Nat} {s1 : Int32} {s2 : Int32} : ip_WP 40 169 [some (.ref x0), some (.int x1)] [.int s2, .int s1, .ref s0] (G, F, I, J) b post px ↔ (ip_inA G s0 0 s1 = true ∧ ip_WP 40 170 [some (.ref x0), some (.int x1)] [] (G, F, ip_up I s0 s1.toNatClampNeg s2, J) b post px) := ip_ck_iff ((ip_st_of f40_169).trans rfl) ip_nx_iff
theorem f40_170 : ip_fetch 40 170 = some (.aload_n 0, 1) := by decide +kernel
theorem s40_170 {x0 : Nat} {x1 : Int32} : ip_WP 40 170 [some (.ref x0), some (.int x1)] [] (G, F, I, J) b post px ↔ ip_WP 40 171 [some (.ref x0), some (.int x1)] [.ref x0] (G, F, I, J) b post px := ip_nx_iff ((ip_st_of f40_170).trans rfl)
theorem f40_171 : ip_fetch 40 171 = some (.invokevirtual 146, 3) := by decide +kernel
set_option maxRecDepth 100000 in
theorem s40_171 {x0 : Nat} {x1 : Int32} {s0 : Nat} : ip_WP 40 171 [some (.ref x0), some (.int x1)] [.ref s0] (G, F, I, J) b post px ↔ (ip_isO G s0 1 = true ∧ ip_WP 31 0 [some (.ref s0), none] [] (G, F, I, J) (0, 0) (fun r h' => ip_WP 40 174 [some (.ref x0), some (.int x1)] (r.toList ++ []) h' b post px) (fun _ _ => False)) := ip_ck_iff (x := ip_cl 31 [some (.ref s0), none] [] (0, 0) b) ((ip_st_of f40_171).trans rfl) (ip_cl_iff)
theorem f40_174 : ip_fetch 40 174 = some (.aload_n 0, 1) := by decide +kernel
theorem s40_174 {x0 : Nat} {x1 : Int32} : ip_WP 40 174 [some (.ref x0), some (.int x1)] [] (G, F, I, J) b post px ↔ ip_WP 40 175 [some (.ref x0), some (.int x1)] [.ref x0] (G, F, I, J) b post px := ip_nx_iff ((ip_st_of f40_174).trans rfl)
theorem f40_175 : ip_fetch 40 175 = some (.getfield 34, 3) := by decide +kernel
set_option maxRecDepth 100000 in
theorem s40_175 {x0 : Nat} {x1 : Int32} {s0 : Nat} : ip_WP 40 175 [some (.ref x0), some (.int x1)] [.ref s0] (G, F, I, J) b post px ↔ (ip_isO G s0 1 = true ∧ ip_WP 40 178 [some (.ref x0), some (.int x1)] [F s0 16] (G, F, I, J) b post px) := ip_s_getf f40_175 (by decide +kernel)
theorem f40_178 : ip_fetch 40 178 = some (.iload_n 1, 1) := by decide +kernel
theorem s40_178 {x0 : Nat} {x1 : Int32} {s0 : Nat} : ip_WP 40 178 [some (.ref x0), some (.int x1)] [.ref s0] (G, F, I, J) b post px ↔ ip_WP 40 179 [some (.ref x0), some (.int x1)] [.int x1, .ref s0] (G, F, I, J) b post px := ip_nx_iff ((ip_st_of f40_178).trans rfl)
theorem f40_179 : ip_fetch 40 179 = some (.iaload, 1) := by decide +kernel
theorem s40_179 {x0 : Nat} {x1 : Int32} {s0 : Nat} {s1 : Int32} : ip_WP 40 179 [some (.ref x0), some (.int x1)] [.int s1, .ref s0] (G, F, I, J) b post px ↔ (ip_inA G s0 0 s1 = true ∧ ip_WP 40 180 [some (.ref x0), some (.int x1)] [.int (I s0 s1.toNatClampNeg)] (G, F, I, J) b post px) := ip_ck_iff ((ip_st_of f40_179).trans rfl) ip_nx_iff
theorem f40_180 : ip_fetch 40 180 = some (.iconst 1, 1) := by decide +kernel
theorem s40_180 {x0 : Nat} {x1 : Int32} {s0 : Int32} : ip_WP 40 180 [some (.ref x0), some (.int x1)] [.int s0] (G, F, I, J) b post px ↔ ip_WP 40 181 [some (.ref x0), some (.int x1)] [.int 1, .int s0] (G, F, I, J) b post px := ip_s_iconst f40_180 (by decide)
theorem f40_181 : ip_fetch 40 181 = some (.isub, 1) := by decide +kernel
theorem s40_181 {x0 : Nat} {x1 : Int32} {s0 : Int32} {s1 : Int32} : ip_WP 40 181 [some (.ref x0), some (.int x1)] [.int s1, .int s0] (G, F, I, J) b post px ↔ ip_WP 40 182 [some (.ref x0), some (.int x1)] [.int (s0 - s1)] (G, F, I, J) b post px := ip_nx_iff ((ip_st_of f40_181).trans rfl)
theorem f40_182 : ip_fetch 40 182 = some (.ireturn, 1) := by decide +kernel
theorem s40_182 {x0 : Nat} {x1 : Int32} {s0 : Int32} : ip_WP 40 182 [some (.ref x0), some (.int x1)] [.int s0] (G, F, I, J) b post px ↔ post (some (.int s0)) (G, F, I, J) := ip_rt_iff ((ip_st_of f40_182).trans rfl)
theorem f41_0 : ip_fetch 41 0 = some (.aload_n 0, 1) := by decide +kernel
theorem s41_0 {x0 : Nat} {x1 : Int32} {x2 : Option Value} : ip_WP 41 0 [some (.ref x0), some (.int x1), x2] [] (G, F, I, J) b post px ↔ ip_WP 41 1 [some (.ref x0), some (.int x1), x2] [.ref x0] (G, F, I, J) b post px := ip_nx_iff ((ip_st_of f41_0).trans rfl)
theorem f41_1 : ip_fetch 41 1 = some (.getfield 101, 3) := by decide +kernel
set_option maxRecDepth 100000 in
theorem s41_1 {x0 : Nat} {x1 : Int32} {x2 : Option Value} {s0 : Nat} : ip_WP 41 1 [some (.ref x0), some (.int x1), x2] [.ref s0] (G, F, I, J) b post px ↔ (ip_isO G s0 1 = true ∧ ip_WP 41 4 [some (.ref x0), some (.int x1), x2] [F s0 6] (G, F, I, J) b post px) := ip_s_getf f41_1 (by decide +kernel)
theorem f41_4 : ip_fetch 41 4 = some (.ifCond .le 5, 3) := by decide +kernel
theorem s41_4 {x0 : Nat} {x1 : Int32} {x2 : Option Value} {s0 : Int32} : ip_WP 41 4 [some (.ref x0), some (.int x1), x2] [.int s0] (G, F, I, J) b post px ↔ if s0 ≤ 0 then ip_WP 41 9 [some (.ref x0), some (.int x1), x2] [] (G, F, I, J) b post px else ip_WP 41 7 [some (.ref x0), some (.int x1), x2] [] (G, F, I, J) b post px := ip_s_if_le f41_4 rfl
theorem f41_7 : ip_fetch 41 7 = some (.iconst 0, 1) := by decide +kernel
theorem s41_7 {x0 : Nat} {x1 : Int32} {x2 : Option Value} : ip_WP 41 7 [some (.ref x0), some (.int x1), x2] [] (G, F, I, J) b post px ↔ ip_WP 41 8 [some (.ref x0), some (.int x1), x2] [.int 0] (G, F, I, J) b post px := ip_s_iconst f41_7 (by decide)
theorem f41_8 : ip_fetch 41 8 = some (.ireturn, 1) := by decide +kernel
theorem s41_8 {x0 : Nat} {x1 : Int32} {x2 : Option Value} {s0 : Int32} : ip_WP 41 8 [some (.ref x0), some (.int x1), x2] [.int s0] (G, F, I, J) b post px ↔ post (some (.int s0)) (G, F, I, J) := ip_rt_iff ((ip_st_of f41_8).trans rfl)
theorem f41_9 : ip_fetch 41 9 = some (.aload_n 0, 1) := by decide +kernel
theorem s41_9 {x0 : Nat} {x1 : Int32} {x2 : Option Value} : ip_WP 41 9 [some (.ref x0), some (.int x1), x2] [] (G, F, I, J) b post px ↔ ip_WP 41 10 [some (.ref x0), some (.int x1), x2] [.ref x0] (G, F, I, J) b post px := ip_nx_iff ((ip_st_of f41_9).trans rfl)
theorem f41_10 : ip_fetch 41 10 = some (.getfield 123, 3) := by decide +kernel
set_option maxRecDepth 100000 in
theorem s41_10 {x0 : Nat} {x1 : Int32} {x2 : Option Value} {s0 : Nat} : ip_WP 41 10 [some (.ref x0), some (.int x1), x2] [.ref s0] (G, F, I, J) b post px ↔ (ip_isO G s0 1 = true ∧ ip_WP 41 13 [some (.ref x0), some (.int x1), x2] [F s0 35] (G, F, I, J) b post px) := ip_s_getf f41_10 (by decide +kernel)
theorem f41_13 : ip_fetch 41 13 = some (.iconst 1, 1) := by decide +kernel
theorem s41_13 {x0 : Nat} {x1 : Int32} {x2 : Option Value} {s0 : Int32} : ip_WP 41 13 [some (.ref x0), some (.int x1), x2] [.int s0] (G, F, I, J) b post px ↔ ip_WP 41 14 [some (.ref x0), some (.int x1), x2] [.int 1, .int s0] (G, F, I, J) b post px := ip_s_iconst f41_13 (by decide)
theorem f41_14 : ip_fetch 41 14 = some (.if_icmp .ne 10, 3) := by decide +kernel
theorem s41_14 {x0 : Nat} {x1 : Int32} {x2 : Option Value} {s0 : Int32} {s1 : Int32} : ip_WP 41 14 [some (.ref x0), some (.int x1), x2] [.int s1, .int s0] (G, F, I, J) b post px ↔ if ¬ s0 = s1 then ip_WP 41 24 [some (.ref x0), some (.int x1), x2] [] (G, F, I, J) b post px else ip_WP 41 17 [some (.ref x0), some (.int x1), x2] [] (G, F, I, J) b post px := ip_s_ic_ne f41_14 rfl
theorem f41_17 : ip_fetch 41 17 = some (.aload_n 0, 1) := by decide +kernel
theorem s41_17 {x0 : Nat} {x1 : Int32} {x2 : Option Value} : ip_WP 41 17 [some (.ref x0), some (.int x1), x2] [] (G, F, I, J) b post px ↔ ip_WP 41 18 [some (.ref x0), some (.int x1), x2] [.ref x0] (G, F, I, J) b post px := ip_nx_iff ((ip_st_of f41_17).trans rfl)
theorem f41_18 : ip_fetch 41 18 = some (.invokevirtual 158, 3) := by decide +kernel
set_option maxRecDepth 100000 in
theorem s41_18 {x0 : Nat} {x1 : Int32} {x2 : Option Value} {s0 : Nat} : ip_WP 41 18 [some (.ref x0), some (.int x1), x2] [.ref s0] (G, F, I, J) b post px ↔ (ip_isO G s0 1 = true ∧ ip_WP 38 0 [some (.ref s0), none, none] [] (G, F, I, J) (0, 0) (fun r h' => ip_WP 41 21 [some (.ref x0), some (.int x1), x2] (r.toList ++ []) h' b post px) (fun _ _ => False)) := ip_ck_iff (x := ip_cl 38 [some (.ref s0), none, none] [] (0, 0) b) ((ip_st_of f41_18).trans rfl) (ip_cl_iff)
theorem f41_21 : ip_fetch 41 21 = some (.goto 4, 3) := by decide +kernel
theorem s41_21 {x0 : Nat} {x1 : Int32} {x2 : Option Value} {s0 : Int32} : ip_WP 41 21 [some (.ref x0), some (.int x1), x2] [.int s0] (G, F, I, J) b post px ↔ ip_WP 41 25 [some (.ref x0), some (.int x1), x2] [.int s0] (G, F, I, J) b post px := ip_nx_iff ((ip_st_of f41_21).trans rfl)
theorem f41_24 : ip_fetch 41 24 = some (.iconst (-1), 1) := by decide +kernel
theorem s41_24 {x0 : Nat} {x1 : Int32} {x2 : Option Value} : ip_WP 41 24 [some (.ref x0), some (.int x1), x2] [] (G, F, I, J) b post px ↔ ip_WP 41 25 [some (.ref x0), some (.int x1), x2] [.int (-1)] (G, F, I, J) b post px := ip_s_iconst f41_24 (by decide)
theorem f41_25 : ip_fetch 41 25 = some (.istore_n 2, 1) := by decide +kernel
theorem s41_25 {x0 : Nat} {x1 : Int32} {x2 : Option Value} {s0 : Int32} : ip_WP 41 25 [some (.ref x0), some (.int x1), x2] [.int s0] (G, F, I, J) b post px ↔ ip_WP 41 26 [some (.ref x0), some (.int x1), some (.int s0)] [] (G, F, I, J) b post px := ip_nx_iff ((ip_st_of f41_25).trans rfl)
theorem f41_26 : ip_fetch 41 26 = some (.aload_n 0, 1) := by decide +kernel
theorem s41_26 {x0 : Nat} {x1 : Int32} {x2 : Int32} : ip_WP 41 26 [some (.ref x0), some (.int x1), some (.int x2)] [] (G, F, I, J) b post px ↔ ip_WP 41 27 [some (.ref x0), some (.int x1), some (.int x2)] [.ref x0] (G, F, I, J) b post px := ip_nx_iff ((ip_st_of f41_26).trans rfl)
theorem f41_27 : ip_fetch 41 27 = some (.getfield 123, 3) := by decide +kernel
set_option maxRecDepth 100000 in
theorem s41_27 {x0 : Nat} {x1 : Int32} {x2 : Int32} {s0 : Nat} : ip_WP 41 27 [some (.ref x0), some (.int x1), some (.int x2)] [.ref s0] (G, F, I, J) b post px ↔ (ip_isO G s0 1 = true ∧ ip_WP 41 30 [some (.ref x0), some (.int x1), some (.int x2)] [F s0 35] (G, F, I, J) b post px) := ip_s_getf f41_27 (by decide +kernel)
theorem f41_30 : ip_fetch 41 30 = some (.iconst 1, 1) := by decide +kernel
theorem s41_30 {x0 : Nat} {x1 : Int32} {x2 : Int32} {s0 : Int32} : ip_WP 41 30 [some (.ref x0), some (.int x1), some (.int x2)] [.int s0] (G, F, I, J) b post px ↔ ip_WP 41 31 [some (.ref x0), some (.int x1), some (.int x2)] [.int 1, .int s0] (G, F, I, J) b post px := ip_s_iconst f41_30 (by decide)
theorem f41_31 : ip_fetch 41 31 = some (.if_icmp .eq 15, 3) := by decide +kernel
theorem s41_31 {x0 : Nat} {x1 : Int32} {x2 : Int32} {s0 : Int32} {s1 : Int32} : ip_WP 41 31 [some (.ref x0), some (.int x1), some (.int x2)] [.int s1, .int s0] (G, F, I, J) b post px ↔ if s0 = s1 then ip_WP 41 46 [some (.ref x0), some (.int x1), some (.int x2)] [] (G, F, I, J) b post px else ip_WP 41 34 [some (.ref x0), some (.int x1), some (.int x2)] [] (G, F, I, J) b post px := ip_s_ic_eq f41_31 rfl
theorem f41_34 : ip_fetch 41 34 = some (.aload_n 0, 1) := by decide +kernel
theorem s41_34 {x0 : Nat} {x1 : Int32} {x2 : Int32} : ip_WP 41 34 [some (.ref x0), some (.int x1), some (.int x2)] [] (G, F, I, J) b post px ↔ ip_WP 41 35 [some (.ref x0), some (.int x1), some (.int x2)] [.ref x0] (G, F, I, J) b post px := ip_nx_iff ((ip_st_of f41_34).trans rfl)
theorem f41_35 : ip_fetch 41 35 = some (.iconst 2, 1) := by decide +kernel
theorem s41_35 {x0 : Nat} {x1 : Int32} {x2 : Int32} {s0 : Nat} : ip_WP 41 35 [some (.ref x0), some (.int x1), some (.int x2)] [.ref s0] (G, F, I, J) b post px ↔ ip_WP 41 36 [some (.ref x0), some (.int x1), some (.int x2)] [.int 2, .ref s0] (G, F, I, J) b post px := ip_s_iconst f41_35 (by decide)
theorem f41_36 : ip_fetch 41 36 = some (.aload_n 0, 1) := by decide +kernel
theorem s41_36 {x0 : Nat} {x1 : Int32} {x2 : Int32} {s0 : Nat} {s1 : Int32} : ip_WP 41 36 [some (.ref x0), some (.int x1), some (.int x2)] [.int s1, .ref s0] (G, F, I, J) b post px ↔ ip_WP 41 37 [some (.ref x0), some (.int x1), some (.int x2)] [.ref x0, .int s1, .ref s0] (G, F, I, J) b post px := ip_nx_iff ((ip_st_of f41_36).trans rfl)
theorem f41_37 : ip_fetch 41 37 = some (.getfield 117, 3) := by decide +kernel
set_option maxRecDepth 100000 in
theorem s41_37 {x0 : Nat} {x1 : Int32} {x2 : Int32} {s0 : Nat} {s1 : Int32} {s2 : Nat} : ip_WP 41 37 [some (.ref x0), some (.int x1), some (.int x2)] [.ref s2, .int s1, .ref s0] (G, F, I, J) b post px ↔ (ip_isO G s2 1 = true ∧ ip_WP 41 40 [some (.ref x0), some (.int x1), some (.int x2)] [F s2 36, .int s1, .ref s0] (G, F, I, J) b post px) := ip_s_getf f41_37 (by decide +kernel)
theorem f41_40 : ip_fetch 41 40 = some (.invokevirtual 139, 3) := by decide +kernel
set_option maxRecDepth 100000 in
theorem s41_40 {x0 : Nat} {x1 : Int32} {x2 : Int32} {s0 : Nat} {s1 : Int32} {s2 : Int32} : ip_WP 41 40 [some (.ref x0), some (.int x1), some (.int x2)] [.int s2, .int s1, .ref s0] (G, F, I, J) b post px ↔ (ip_isO G s0 1 = true ∧ ip_WP 25 0 [some (.ref s0), some (.int s1), some (.int s2)] [] (G, F, I, J) (0, 0) (fun r h' => ip_WP 41 43 [some (.ref x0), some (.int x1), some (.int x2)] (r.toList ++ []) h' b post px) (fun _ _ => False)) := ip_ck_iff (x := ip_cl 25 [some (.ref s0), some (.int s1), some (.int s2)] [] (0, 0) b) ((ip_st_of f41_40).trans rfl) (ip_cl_iff)
theorem f41_43 : ip_fetch 41 43 = some (.goto 39, 3) := by decide +kernel
theorem s41_43 {x0 : Nat} {x1 : Int32} {x2 : Int32} : ip_WP 41 43 [some (.ref x0), some (.int x1), some (.int x2)] [] (G, F, I, J) b post px ↔ ip_WP 41 82 [some (.ref x0), some (.int x1), some (.int x2)] [] (G, F, I, J) b post px := ip_nx_iff ((ip_st_of f41_43).trans rfl)
theorem f41_46 : ip_fetch 41 46 = some (.iload_n 2, 1) := by decide +kernel
theorem s41_46 {x0 : Nat} {x1 : Int32} {x2 : Int32} : ip_WP 41 46 [some (.ref x0), some (.int x1), some (.int x2)] [] (G, F, I, J) b post px ↔ ip_WP 41 47 [some (.ref x0), some (.int x1), some (.int x2)] [.int x2] (G, F, I, J) b post px := ip_nx_iff ((ip_st_of f41_46).trans rfl)
theorem f41_47 : ip_fetch 41 47 = some (.ifCond .ge 15, 3) := by decide +kernel
theorem s41_47 {x0 : Nat} {x1 : Int32} {x2 : Int32} {s0 : Int32} : ip_WP 41 47 [some (.ref x0), some (.int x1), some (.int x2)] [.int s0] (G, F, I, J) b post px ↔ if 0 ≤ s0 then ip_WP 41 62 [some (.ref x0), some (.int x1), some (.int x2)] [] (G, F, I, J) b post px else ip_WP 41 50 [some (.ref x0), some (.int x1), some (.int x2)] [] (G, F, I, J) b post px := ip_s_if_ge f41_47 rfl
theorem f41_50 : ip_fetch 41 50 = some (.aload_n 0, 1) := by decide +kernel
theorem s41_50 {x0 : Nat} {x1 : Int32} {x2 : Int32} : ip_WP 41 50 [some (.ref x0), some (.int x1), some (.int x2)] [] (G, F, I, J) b post px ↔ ip_WP 41 51 [some (.ref x0), some (.int x1), some (.int x2)] [.ref x0] (G, F, I, J) b post px := ip_nx_iff ((ip_st_of f41_50).trans rfl)
theorem f41_51 : ip_fetch 41 51 = some (.iconst 5, 1) := by decide +kernel
theorem s41_51 {x0 : Nat} {x1 : Int32} {x2 : Int32} {s0 : Nat} : ip_WP 41 51 [some (.ref x0), some (.int x1), some (.int x2)] [.ref s0] (G, F, I, J) b post px ↔ ip_WP 41 52 [some (.ref x0), some (.int x1), some (.int x2)] [.int 5, .ref s0] (G, F, I, J) b post px := ip_s_iconst f41_51 (by decide)
theorem f41_52 : ip_fetch 41 52 = some (.aload_n 0, 1) := by decide +kernel
theorem s41_52 {x0 : Nat} {x1 : Int32} {x2 : Int32} {s0 : Nat} {s1 : Int32} : ip_WP 41 52 [some (.ref x0), some (.int x1), some (.int x2)] [.int s1, .ref s0] (G, F, I, J) b post px ↔ ip_WP 41 53 [some (.ref x0), some (.int x1), some (.int x2)] [.ref x0, .int s1, .ref s0] (G, F, I, J) b post px := ip_nx_iff ((ip_st_of f41_52).trans rfl)
theorem f41_53 : ip_fetch 41 53 = some (.getfield 117, 3) := by decide +kernel
set_option maxRecDepth 100000 in
theorem s41_53 {x0 : Nat} {x1 : Int32} {x2 : Int32} {s0 : Nat} {s1 : Int32} {s2 : Nat} : ip_WP 41 53 [some (.ref x0), some (.int x1), some (.int x2)] [.ref s2, .int s1, .ref s0] (G, F, I, J) b post px ↔ (ip_isO G s2 1 = true ∧ ip_WP 41 56 [some (.ref x0), some (.int x1), some (.int x2)] [F s2 36, .int s1, .ref s0] (G, F, I, J) b post px) := ip_s_getf f41_53 (by decide +kernel)
theorem f41_56 : ip_fetch 41 56 = some (.invokevirtual 139, 3) := by decide +kernel
set_option maxRecDepth 100000 in
theorem s41_56 {x0 : Nat} {x1 : Int32} {x2 : Int32} {s0 : Nat} {s1 : Int32} {s2 : Int32} : ip_WP 41 56 [some (.ref x0), some (.int x1), some (.int x2)] [.int s2, .int s1, .ref s0] (G, F, I, J) b post px ↔ (ip_isO G s0 1 = true ∧ ip_WP 25 0 [some (.ref s0), some (.int s1), some (.int s2)] [] (G, F, I, J) (0, 0) (fun r h' => ip_WP 41 59 [some (.ref x0), some (.int x1), some (.int x2)] (r.toList ++ []) h' b post px) (fun _ _ => False)) := ip_ck_iff (x := ip_cl 25 [some (.ref s0), some (.int s1), some (.int s2)] [] (0, 0) b) ((ip_st_of f41_56).trans rfl) (ip_cl_iff)
theorem f41_59 : ip_fetch 41 59 = some (.goto 23, 3) := by decide +kernel
theorem s41_59 {x0 : Nat} {x1 : Int32} {x2 : Int32} : ip_WP 41 59 [some (.ref x0), some (.int x1), some (.int x2)] [] (G, F, I, J) b post px ↔ ip_WP 41 82 [some (.ref x0), some (.int x1), some (.int x2)] [] (G, F, I, J) b post px := ip_nx_iff ((ip_st_of f41_59).trans rfl)
theorem f41_62 : ip_fetch 41 62 = some (.aload_n 0, 1) := by decide +kernel
theorem s41_62 {x0 : Nat} {x1 : Int32} {x2 : Int32} : ip_WP 41 62 [some (.ref x0), some (.int x1), some (.int x2)] [] (G, F, I, J) b post px ↔ ip_WP 41 63 [some (.ref x0), some (.int x1), some (.int x2)] [.ref x0] (G, F, I, J) b post px := ip_nx_iff ((ip_st_of f41_62).trans rfl)
theorem f41_63 : ip_fetch 41 63 = some (.getfield 28, 3) := by decide +kernel
set_option maxRecDepth 100000 in
theorem s41_63 {x0 : Nat} {x1 : Int32} {x2 : Int32} {s0 : Nat} : ip_WP 41 63 [some (.ref x0), some (.int x1), some (.int x2)] [.ref s0] (G, F, I, J) b post px ↔ (ip_isO G s0 1 = true ∧ ip_WP 41 66 [some (.ref x0), some (.int x1), some (.int x2)] [F s0 14] (G, F, I, J) b post px) := ip_s_getf f41_63 (by decide +kernel)
theorem f41_66 : ip_fetch 41 66 = some (.iload_n 2, 1) := by decide +kernel
theorem s41_66 {x0 : Nat} {x1 : Int32} {x2 : Int32} {s0 : Nat} : ip_WP 41 66 [some (.ref x0), some (.int x1), some (.int x2)] [.ref s0] (G, F, I, J) b post px ↔ ip_WP 41 67 [some (.ref x0), some (.int x1), some (.int x2)] [.int x2, .ref s0] (G, F, I, J) b post px := ip_nx_iff ((ip_st_of f41_66).trans rfl)
theorem f41_67 : ip_fetch 41 67 = some (.iaload, 1) := by decide +kernel
theorem s41_67 {x0 : Nat} {x1 : Int32} {x2 : Int32} {s0 : Nat} {s1 : Int32} : ip_WP 41 67 [some (.ref x0), some (.int x1), some (.int x2)] [.int s1, .ref s0] (G, F, I, J) b post px ↔ (ip_inA G s0 0 s1 = true ∧ ip_WP 41 68 [some (.ref x0), some (.int x1), some (.int x2)] [.int (I s0 s1.toNatClampNeg)] (G, F, I, J) b post px) := ip_ck_iff ((ip_st_of f41_67).trans rfl) ip_nx_iff
theorem f41_68 : ip_fetch 41 68 = some (.iload_n 1, 1) := by decide +kernel
theorem s41_68 {x0 : Nat} {x1 : Int32} {x2 : Int32} {s0 : Int32} : ip_WP 41 68 [some (.ref x0), some (.int x1), some (.int x2)] [.int s0] (G, F, I, J) b post px ↔ ip_WP 41 69 [some (.ref x0), some (.int x1), some (.int x2)] [.int x1, .int s0] (G, F, I, J) b post px := ip_nx_iff ((ip_st_of f41_68).trans rfl)
theorem f41_69 : ip_fetch 41 69 = some (.if_icmp .eq 13, 3) := by decide +kernel
theorem s41_69 {x0 : Nat} {x1 : Int32} {x2 : Int32} {s0 : Int32} {s1 : Int32} : ip_WP 41 69 [some (.ref x0), some (.int x1), some (.int x2)] [.int s1, .int s0] (G, F, I, J) b post px ↔ if s0 = s1 then ip_WP 41 82 [some (.ref x0), some (.int x1), some (.int x2)] [] (G, F, I, J) b post px else ip_WP 41 72 [some (.ref x0), some (.int x1), some (.int x2)] [] (G, F, I, J) b post px := ip_s_ic_eq f41_69 rfl
theorem f41_72 : ip_fetch 41 72 = some (.aload_n 0, 1) := by decide +kernel
theorem s41_72 {x0 : Nat} {x1 : Int32} {x2 : Int32} : ip_WP 41 72 [some (.ref x0), some (.int x1), some (.int x2)] [] (G, F, I, J) b post px ↔ ip_WP 41 73 [some (.ref x0), some (.int x1), some (.int x2)] [.ref x0] (G, F, I, J) b post px := ip_nx_iff ((ip_st_of f41_72).trans rfl)
theorem f41_73 : ip_fetch 41 73 = some (.bipush 6, 2) := by decide +kernel
theorem s41_73 {x0 : Nat} {x1 : Int32} {x2 : Int32} {s0 : Nat} : ip_WP 41 73 [some (.ref x0), some (.int x1), some (.int x2)] [.ref s0] (G, F, I, J) b post px ↔ ip_WP 41 75 [some (.ref x0), some (.int x1), some (.int x2)] [.int 6, .ref s0] (G, F, I, J) b post px := ip_s_bipush f41_73 (by decide)
theorem f41_75 : ip_fetch 41 75 = some (.aload_n 0, 1) := by decide +kernel
theorem s41_75 {x0 : Nat} {x1 : Int32} {x2 : Int32} {s0 : Nat} {s1 : Int32} : ip_WP 41 75 [some (.ref x0), some (.int x1), some (.int x2)] [.int s1, .ref s0] (G, F, I, J) b post px ↔ ip_WP 41 76 [some (.ref x0), some (.int x1), some (.int x2)] [.ref x0, .int s1, .ref s0] (G, F, I, J) b post px := ip_nx_iff ((ip_st_of f41_75).trans rfl)
theorem f41_76 : ip_fetch 41 76 = some (.getfield 117, 3) := by decide +kernel
set_option maxRecDepth 100000 in
theorem s41_76 {x0 : Nat} {x1 : Int32} {x2 : Int32} {s0 : Nat} {s1 : Int32} {s2 : Nat} : ip_WP 41 76 [some (.ref x0), some (.int x1), some (.int x2)] [.ref s2, .int s1, .ref s0] (G, F, I, J) b post px ↔ (ip_isO G s2 1 = true ∧ ip_WP 41 79 [some (.ref x0), some (.int x1), some (.int x2)] [F s2 36, .int s1, .ref s0] (G, F, I, J) b post px) := ip_s_getf f41_76 (by decide +kernel)
theorem f41_79 : ip_fetch 41 79 = some (.invokevirtual 139, 3) := by decide +kernel
set_option maxRecDepth 100000 in
theorem s41_79 {x0 : Nat} {x1 : Int32} {x2 : Int32} {s0 : Nat} {s1 : Int32} {s2 : Int32} : ip_WP 41 79 [some (.ref x0), some (.int x1), some (.int x2)] [.int s2, .int s1, .ref s0] (G, F, I, J) b post px ↔ (ip_isO G s0 1 = true ∧ ip_WP 25 0 [some (.ref s0), some (.int s1), some (.int s2)] [] (G, F, I, J) (0, 0) (fun r h' => ip_WP 41 82 [some (.ref x0), some (.int x1), some (.int x2)] (r.toList ++ []) h' b post px) (fun _ _ => False)) := ip_ck_iff (x := ip_cl 25 [some (.ref s0), some (.int s1), some (.int s2)] [] (0, 0) b) ((ip_st_of f41_79).trans rfl) (ip_cl_iff)
theorem f41_82 : ip_fetch 41 82 = some (.aload_n 0, 1) := by decide +kernel
theorem s41_82 {x0 : Nat} {x1 : Int32} {x2 : Int32} : ip_WP 41 82 [some (.ref x0), some (.int x1), some (.int x2)] [] (G, F, I, J) b post px ↔ ip_WP 41 83 [some (.ref x0), some (.int x1), some (.int x2)] [.ref x0] (G, F, I, J) b post px := ip_nx_iff ((ip_st_of f41_82).trans rfl)
theorem f41_83 : ip_fetch 41 83 = some (.getfield 101, 3) := by decide +kernel
set_option maxRecDepth 100000 in
theorem s41_83 {x0 : Nat} {x1 : Int32} {x2 : Int32} {s0 : Nat} : ip_WP 41 83 [some (.ref x0), some (.int x1), some (.int x2)] [.ref s0] (G, F, I, J) b post px ↔ (ip_isO G s0 1 = true ∧ ip_WP 41 86 [some (.ref x0), some (.int x1), some (.int x2)] [F s0 6] (G, F, I, J) b post px) := ip_s_getf f41_83 (by decide +kernel)
theorem f41_86 : ip_fetch 41 86 = some (.ifCond .le 7, 3) := by decide +kernel
theorem s41_86 {x0 : Nat} {x1 : Int32} {x2 : Int32} {s0 : Int32} : ip_WP 41 86 [some (.ref x0), some (.int x1), some (.int x2)] [.int s0] (G, F, I, J) b post px ↔ if s0 ≤ 0 then ip_WP 41 93 [some (.ref x0), some (.int x1), some (.int x2)] [] (G, F, I, J) b post px else ip_WP 41 89 [some (.ref x0), some (.int x1), some (.int x2)] [] (G, F, I, J) b post px := ip_s_if_le f41_86 rfl
theorem f41_89 : ip_fetch 41 89 = some (.iconst 0, 1) := by decide +kernel
theorem s41_89 {x0 : Nat} {x1 : Int32} {x2 : Int32} : ip_WP 41 89 [some (.ref x0), some (.int x1), some (.int x2)] [] (G, F, I, J) b post px ↔ ip_WP 41 90 [some (.ref x0), some (.int x1), some (.int x2)] [.int 0] (G, F, I, J) b post px := ip_s_iconst f41_89 (by decide)
theorem f41_90 : ip_fetch 41 90 = some (.goto 9, 3) := by decide +kernel
theorem s41_90 {x0 : Nat} {x1 : Int32} {x2 : Int32} {s0 : Int32} : ip_WP 41 90 [some (.ref x0), some (.int x1), some (.int x2)] [.int s0] (G, F, I, J) b post px ↔ ip_WP 41 99 [some (.ref x0), some (.int x1), some (.int x2)] [.int s0] (G, F, I, J) b post px := ip_nx_iff ((ip_st_of f41_90).trans rfl)
theorem f41_93 : ip_fetch 41 93 = some (.aload_n 0, 1) := by decide +kernel
theorem s41_93 {x0 : Nat} {x1 : Int32} {x2 : Int32} : ip_WP 41 93 [some (.ref x0), some (.int x1), some (.int x2)] [] (G, F, I, J) b post px ↔ ip_WP 41 94 [some (.ref x0), some (.int x1), some (.int x2)] [.ref x0] (G, F, I, J) b post px := ip_nx_iff ((ip_st_of f41_93).trans rfl)
theorem f41_94 : ip_fetch 41 94 = some (.getfield 31, 3) := by decide +kernel
set_option maxRecDepth 100000 in
theorem s41_94 {x0 : Nat} {x1 : Int32} {x2 : Int32} {s0 : Nat} : ip_WP 41 94 [some (.ref x0), some (.int x1), some (.int x2)] [.ref s0] (G, F, I, J) b post px ↔ (ip_isO G s0 1 = true ∧ ip_WP 41 97 [some (.ref x0), some (.int x1), some (.int x2)] [F s0 15] (G, F, I, J) b post px) := ip_s_getf f41_94 (by decide +kernel)
theorem f41_97 : ip_fetch 41 97 = some (.iload_n 2, 1) := by decide +kernel
theorem s41_97 {x0 : Nat} {x1 : Int32} {x2 : Int32} {s0 : Nat} : ip_WP 41 97 [some (.ref x0), some (.int x1), some (.int x2)] [.ref s0] (G, F, I, J) b post px ↔ ip_WP 41 98 [some (.ref x0), some (.int x1), some (.int x2)] [.int x2, .ref s0] (G, F, I, J) b post px := ip_nx_iff ((ip_st_of f41_97).trans rfl)
theorem f41_98 : ip_fetch 41 98 = some (.iaload, 1) := by decide +kernel
theorem s41_98 {x0 : Nat} {x1 : Int32} {x2 : Int32} {s0 : Nat} {s1 : Int32} : ip_WP 41 98 [some (.ref x0), some (.int x1), some (.int x2)] [.int s1, .ref s0] (G, F, I, J) b post px ↔ (ip_inA G s0 0 s1 = true ∧ ip_WP 41 99 [some (.ref x0), some (.int x1), some (.int x2)] [.int (I s0 s1.toNatClampNeg)] (G, F, I, J) b post px) := ip_ck_iff ((ip_st_of f41_98).trans rfl) ip_nx_iff
theorem f41_99 : ip_fetch 41 99 = some (.ireturn, 1) := by decide +kernel
theorem s41_99 {x0 : Nat} {x1 : Int32} {x2 : Int32} {s0 : Int32} : ip_WP 41 99 [some (.ref x0), some (.int x1), some (.int x2)] [.int s0] (G, F, I, J) b post px ↔ post (some (.int s0)) (G, F, I, J) := ip_rt_iff ((ip_st_of f41_99).trans rfl)
theorem f42_0 : ip_fetch 42 0 = some (.aload_n 0, 1) := by decide +kernel
theorem s42_0 {x0 : Nat} {x1 : Int32} : ip_WP 42 0 [some (.ref x0), some (.int x1)] [] (G, F, I, J) b post px ↔ ip_WP 42 1 [some (.ref x0), some (.int x1)] [.ref x0] (G, F, I, J) b post px := ip_nx_iff ((ip_st_of f42_0).trans rfl)
theorem f42_1 : ip_fetch 42 1 = some (.getfield 101, 3) := by decide +kernel
set_option maxRecDepth 100000 in
theorem s42_1 {x0 : Nat} {x1 : Int32} {s0 : Nat} : ip_WP 42 1 [some (.ref x0), some (.int x1)] [.ref s0] (G, F, I, J) b post px ↔ (ip_isO G s0 1 = true ∧ ip_WP 42 4 [some (.ref x0), some (.int x1)] [F s0 6] (G, F, I, J) b post px) := ip_s_getf f42_1 (by decide +kernel)
theorem f42_4 : ip_fetch 42 4 = some (.ifCond .le 5, 3) := by decide +kernel
theorem s42_4 {x0 : Nat} {x1 : Int32} {s0 : Int32} : ip_WP 42 4 [some (.ref x0), some (.int x1)] [.int s0] (G, F, I, J) b post px ↔ if s0 ≤ 0 then ip_WP 42 9 [some (.ref x0), some (.int x1)] [] (G, F, I, J) b post px else ip_WP 42 7 [some (.ref x0), some (.int x1)] [] (G, F, I, J) b post px := ip_s_if_le f42_4 rfl
theorem f42_7 : ip_fetch 42 7 = some (.iconst 0, 1) := by decide +kernel
theorem s42_7 {x0 : Nat} {x1 : Int32} : ip_WP 42 7 [some (.ref x0), some (.int x1)] [] (G, F, I, J) b post px ↔ ip_WP 42 8 [some (.ref x0), some (.int x1)] [.int 0] (G, F, I, J) b post px := ip_s_iconst f42_7 (by decide)
theorem f42_8 : ip_fetch 42 8 = some (.ireturn, 1) := by decide +kernel
theorem s42_8 {x0 : Nat} {x1 : Int32} {s0 : Int32} : ip_WP 42 8 [some (.ref x0), some (.int x1)] [.int s0] (G, F, I, J) b post px ↔ ((s0 = 0 ∨ s0 = 1) ∧ post (some (.int s0)) (G, F, I, J)) := ip_s_zret ((ip_st_of f42_8).trans rfl)
theorem f42_9 : ip_fetch 42 9 = some (.iload_n 1, 1) := by decide +kernel
theorem s42_9 {x0 : Nat} {x1 : Int32} : ip_WP 42 9 [some (.ref x0), some (.int x1)] [] (G, F, I, J) b post px ↔ ip_WP 42 10 [some (.ref x0), some (.int x1)] [.int x1] (G, F, I, J) b post px := ip_nx_iff ((ip_st_of f42_9).trans rfl)
theorem f42_10 : ip_fetch 42 10 = some (.ifCond .eq 16, 3) := by decide +kernel
theorem s42_10 {x0 : Nat} {x1 : Int32} {s0 : Int32} : ip_WP 42 10 [some (.ref x0), some (.int x1)] [.int s0] (G, F, I, J) b post px ↔ if s0 = 0 then ip_WP 42 26 [some (.ref x0), some (.int x1)] [] (G, F, I, J) b post px else ip_WP 42 13 [some (.ref x0), some (.int x1)] [] (G, F, I, J) b post px := ip_s_if_eq f42_10 rfl
theorem f42_13 : ip_fetch 42 13 = some (.aload_n 0, 1) := by decide +kernel
theorem s42_13 {x0 : Nat} {x1 : Int32} : ip_WP 42 13 [some (.ref x0), some (.int x1)] [] (G, F, I, J) b post px ↔ ip_WP 42 14 [some (.ref x0), some (.int x1)] [.ref x0] (G, F, I, J) b post px := ip_nx_iff ((ip_st_of f42_13).trans rfl)
theorem f42_14 : ip_fetch 42 14 = some (.bipush 7, 2) := by decide +kernel
theorem s42_14 {x0 : Nat} {x1 : Int32} {s0 : Nat} : ip_WP 42 14 [some (.ref x0), some (.int x1)] [.ref s0] (G, F, I, J) b post px ↔ ip_WP 42 16 [some (.ref x0), some (.int x1)] [.int 7, .ref s0] (G, F, I, J) b post px := ip_s_bipush f42_14 (by decide)
theorem f42_16 : ip_fetch 42 16 = some (.aload_n 0, 1) := by decide +kernel
theorem s42_16 {x0 : Nat} {x1 : Int32} {s0 : Nat} {s1 : Int32} : ip_WP 42 16 [some (.ref x0), some (.int x1)] [.int s1, .ref s0] (G, F, I, J) b post px ↔ ip_WP 42 17 [some (.ref x0), some (.int x1)] [.ref x0, .int s1, .ref s0] (G, F, I, J) b post px := ip_nx_iff ((ip_st_of f42_16).trans rfl)
theorem f42_17 : ip_fetch 42 17 = some (.getfield 117, 3) := by decide +kernel
set_option maxRecDepth 100000 in
theorem s42_17 {x0 : Nat} {x1 : Int32} {s0 : Nat} {s1 : Int32} {s2 : Nat} : ip_WP 42 17 [some (.ref x0), some (.int x1)] [.ref s2, .int s1, .ref s0] (G, F, I, J) b post px ↔ (ip_isO G s2 1 = true ∧ ip_WP 42 20 [some (.ref x0), some (.int x1)] [F s2 36, .int s1, .ref s0] (G, F, I, J) b post px) := ip_s_getf f42_17 (by decide +kernel)
theorem f42_20 : ip_fetch 42 20 = some (.invokevirtual 139, 3) := by decide +kernel
set_option maxRecDepth 100000 in
theorem s42_20 {x0 : Nat} {x1 : Int32} {s0 : Nat} {s1 : Int32} {s2 : Int32} : ip_WP 42 20 [some (.ref x0), some (.int x1)] [.int s2, .int s1, .ref s0] (G, F, I, J) b post px ↔ (ip_isO G s0 1 = true ∧ ip_WP 25 0 [some (.ref s0), some (.int s1), some (.int s2)] [] (G, F, I, J) (0, 0) (fun r h' => ip_WP 42 23 [some (.ref x0), some (.int x1)] (r.toList ++ []) h' b post px) (fun _ _ => False)) := ip_ck_iff (x := ip_cl 25 [some (.ref s0), some (.int s1), some (.int s2)] [] (0, 0) b) ((ip_st_of f42_20).trans rfl) (ip_cl_iff)
theorem f42_23 : ip_fetch 42 23 = some (.goto 7, 3) := by decide +kernel
theorem s42_23 {x0 : Nat} {x1 : Int32} : ip_WP 42 23 [some (.ref x0), some (.int x1)] [] (G, F, I, J) b post px ↔ ip_WP 42 30 [some (.ref x0), some (.int x1)] [] (G, F, I, J) b post px := ip_nx_iff ((ip_st_of f42_23).trans rfl)
theorem f42_26 : ip_fetch 42 26 = some (.aload_n 0, 1) := by decide +kernel
theorem s42_26 {x0 : Nat} {x1 : Int32} : ip_WP 42 26 [some (.ref x0), some (.int x1)] [] (G, F, I, J) b post px ↔ ip_WP 42 27 [some (.ref x0), some (.int x1)] [.ref x0] (G, F, I, J) b post px := ip_nx_iff ((ip_st_of f42_26).trans rfl)
theorem f42_27 : ip_fetch 42 27 = some (.invokevirtual 146, 3) := by decide +kernel
set_option maxRecDepth 100000 in
theorem s42_27 {x0 : Nat} {x1 : Int32} {s0 : Nat} : ip_WP 42 27 [some (.ref x0), some (.int x1)] [.ref s0] (G, F, I, J) b post px ↔ (ip_isO G s0 1 = true ∧ ip_WP 31 0 [some (.ref s0), none] [] (G, F, I, J) (0, 0) (fun r h' => ip_WP 42 30 [some (.ref x0), some (.int x1)] (r.toList ++ []) h' b post px) (fun _ _ => False)) := ip_ck_iff (x := ip_cl 31 [some (.ref s0), none] [] (0, 0) b) ((ip_st_of f42_27).trans rfl) (ip_cl_iff)
theorem f42_30 : ip_fetch 42 30 = some (.iload_n 1, 1) := by decide +kernel
theorem s42_30 {x0 : Nat} {x1 : Int32} : ip_WP 42 30 [some (.ref x0), some (.int x1)] [] (G, F, I, J) b post px ↔ ip_WP 42 31 [some (.ref x0), some (.int x1)] [.int x1] (G, F, I, J) b post px := ip_nx_iff ((ip_st_of f42_30).trans rfl)
theorem f42_31 : ip_fetch 42 31 = some (.ifCond .ne 7, 3) := by decide +kernel
theorem s42_31 {x0 : Nat} {x1 : Int32} {s0 : Int32} : ip_WP 42 31 [some (.ref x0), some (.int x1)] [.int s0] (G, F, I, J) b post px ↔ if ¬ s0 = 0 then ip_WP 42 38 [some (.ref x0), some (.int x1)] [] (G, F, I, J) b post px else ip_WP 42 34 [some (.ref x0), some (.int x1)] [] (G, F, I, J) b post px := ip_s_if_ne f42_31 rfl
theorem f42_34 : ip_fetch 42 34 = some (.iconst 1, 1) := by decide +kernel
theorem s42_34 {x0 : Nat} {x1 : Int32} : ip_WP 42 34 [some (.ref x0), some (.int x1)] [] (G, F, I, J) b post px ↔ ip_WP 42 35 [some (.ref x0), some (.int x1)] [.int 1] (G, F, I, J) b post px := ip_s_iconst f42_34 (by decide)
theorem f42_35 : ip_fetch 42 35 = some (.goto 4, 3) := by decide +kernel
theorem s42_35 {x0 : Nat} {x1 : Int32} {s0 : Int32} : ip_WP 42 35 [some (.ref x0), some (.int x1)] [.int s0] (G, F, I, J) b post px ↔ ip_WP 42 39 [some (.ref x0), some (.int x1)] [.int s0] (G, F, I, J) b post px := ip_nx_iff ((ip_st_of f42_35).trans rfl)
theorem f42_38 : ip_fetch 42 38 = some (.iconst 0, 1) := by decide +kernel
theorem s42_38 {x0 : Nat} {x1 : Int32} : ip_WP 42 38 [some (.ref x0), some (.int x1)] [] (G, F, I, J) b post px ↔ ip_WP 42 39 [some (.ref x0), some (.int x1)] [.int 0] (G, F, I, J) b post px := ip_s_iconst f42_38 (by decide)
theorem f42_39 : ip_fetch 42 39 = some (.ireturn, 1) := by decide +kernel
theorem s42_39 {x0 : Nat} {x1 : Int32} {s0 : Int32} : ip_WP 42 39 [some (.ref x0), some (.int x1)] [.int s0] (G, F, I, J) b post px ↔ ((s0 = 0 ∨ s0 = 1) ∧ post (some (.int s0)) (G, F, I, J)) := ip_s_zret ((ip_st_of f42_39).trans rfl)
theorem f43_0 : ip_fetch 43 0 = some (.iconst 1, 1) := by decide +kernel
theorem s43_0 {x0 : Nat} {x1 : Option Value} : ip_WP 43 0 [some (.ref x0), x1] [] (G, F, I, J) b post px ↔ ip_WP 43 1 [some (.ref x0), x1] [.int 1] (G, F, I, J) b post px := ip_s_iconst f43_0 (by decide)
theorem f43_1 : ip_fetch 43 1 = some (.istore_n 1, 1) := by decide +kernel
theorem s43_1 {x0 : Nat} {x1 : Option Value} {s0 : Int32} : ip_WP 43 1 [some (.ref x0), x1] [.int s0] (G, F, I, J) b post px ↔ ip_WP 43 2 [some (.ref x0), some (.int s0)] [] (G, F, I, J) b post px := ip_nx_iff ((ip_st_of f43_1).trans rfl)
theorem f43_2 : ip_fetch 43 2 = some (.iload_n 1, 1) := by decide +kernel
theorem s43_2 {x0 : Nat} {x1 : Int32} : ip_WP 43 2 [some (.ref x0), some (.int x1)] [] (G, F, I, J) b post px ↔ ip_WP 43 3 [some (.ref x0), some (.int x1)] [.int x1] (G, F, I, J) b post px := ip_nx_iff ((ip_st_of f43_2).trans rfl)
theorem f43_3 : ip_fetch 43 3 = some (.ifCond .eq 22, 3) := by decide +kernel
theorem s43_3 {x0 : Nat} {x1 : Int32} {s0 : Int32} : ip_WP 43 3 [some (.ref x0), some (.int x1)] [.int s0] (G, F, I, J) b post px ↔ if s0 = 0 then ip_WP 43 25 [some (.ref x0), some (.int x1)] [] (G, F, I, J) b post px else ip_WP 43 6 [some (.ref x0), some (.int x1)] [] (G, F, I, J) b post px := ip_s_if_eq f43_3 rfl
theorem f43_6 : ip_fetch 43 6 = some (.aload_n 0, 1) := by decide +kernel
theorem s43_6 {x0 : Nat} {x1 : Int32} : ip_WP 43 6 [some (.ref x0), some (.int x1)] [] (G, F, I, J) b post px ↔ ip_WP 43 7 [some (.ref x0), some (.int x1)] [.ref x0] (G, F, I, J) b post px := ip_nx_iff ((ip_st_of f43_6).trans rfl)
theorem f43_7 : ip_fetch 43 7 = some (.getfield 40, 3) := by decide +kernel
set_option maxRecDepth 100000 in
theorem s43_7 {x0 : Nat} {x1 : Int32} {s0 : Nat} : ip_WP 43 7 [some (.ref x0), some (.int x1)] [.ref s0] (G, F, I, J) b post px ↔ (ip_isO G s0 1 = true ∧ ip_WP 43 10 [some (.ref x0), some (.int x1)] [F s0 18] (G, F, I, J) b post px) := ip_s_getf f43_7 (by decide +kernel)
theorem f43_10 : ip_fetch 43 10 = some (.aload_n 0, 1) := by decide +kernel
theorem s43_10 {x0 : Nat} {x1 : Int32} {s0 : Nat} : ip_WP 43 10 [some (.ref x0), some (.int x1)] [.ref s0] (G, F, I, J) b post px ↔ ip_WP 43 11 [some (.ref x0), some (.int x1)] [.ref x0, .ref s0] (G, F, I, J) b post px := ip_nx_iff ((ip_st_of f43_10).trans rfl)
theorem f43_11 : ip_fetch 43 11 = some (.iconst 0, 1) := by decide +kernel
theorem s43_11 {x0 : Nat} {x1 : Int32} {s0 : Nat} {s1 : Nat} : ip_WP 43 11 [some (.ref x0), some (.int x1)] [.ref s1, .ref s0] (G, F, I, J) b post px ↔ ip_WP 43 12 [some (.ref x0), some (.int x1)] [.int 0, .ref s1, .ref s0] (G, F, I, J) b post px := ip_s_iconst f43_11 (by decide)
theorem f43_12 : ip_fetch 43 12 = some (.invokevirtual 161, 3) := by decide +kernel
set_option maxRecDepth 100000 in
theorem s43_12 {x0 : Nat} {x1 : Int32} {s0 : Nat} {s1 : Nat} {s2 : Int32} : ip_WP 43 12 [some (.ref x0), some (.int x1)] [.int s2, .ref s1, .ref s0] (G, F, I, J) b post px ↔ (ip_isO G s1 1 = true ∧ ip_WP 40 0 [some (.ref s1), some (.int s2)] [] (G, F, I, J) (0, 0) (fun r h' => ip_WP 43 15 [some (.ref x0), some (.int x1)] (r.toList ++ [.ref s0]) h' b post px) (fun _ _ => False)) := ip_ck_iff (x := ip_cl 40 [some (.ref s1), some (.int s2)] [.ref s0] (0, 0) b) ((ip_st_of f43_12).trans rfl) (ip_cl_iff)
theorem f43_15 : ip_fetch 43 15 = some (.iconst 1, 1) := by decide +kernel
theorem s43_15 {x0 : Nat} {x1 : Int32} {s0 : Nat} {s1 : Int32} : ip_WP 43 15 [some (.ref x0), some (.int x1)] [.int s1, .ref s0] (G, F, I, J) b post px ↔ ip_WP 43 16 [some (.ref x0), some (.int x1)] [.int 1, .int s1, .ref s0] (G, F, I, J) b post px := ip_s_iconst f43_15 (by decide)
theorem f43_16 : ip_fetch 43 16 = some (.iastore, 1) := by decide +kernel
theorem s43_16 {x0 : Nat} {x1 : Int32} {s0 : Nat} {s1 : Int32} {s2 : Int32} : ip_WP 43 16 [some (.ref x0), some (.int x1)] [.int s2, .int s1, .ref s0] (G, F, I, J) b post px ↔ (ip_inA G s0 0 s1 = true ∧ ip_WP 43 17 [some (.ref x0), some (.int x1)] [] (G, F, ip_up I s0 s1.toNatClampNeg s2, J) b post px) := ip_ck_iff ((ip_st_of f43_16).trans rfl) ip_nx_iff
theorem f43_17 : ip_fetch 43 17 = some (.aload_n 0, 1) := by decide +kernel
theorem s43_17 {x0 : Nat} {x1 : Int32} : ip_WP 43 17 [some (.ref x0), some (.int x1)] [] (G, F, I, J) b post px ↔ ip_WP 43 18 [some (.ref x0), some (.int x1)] [.ref x0] (G, F, I, J) b post px := ip_nx_iff ((ip_st_of f43_17).trans rfl)
theorem f43_18 : ip_fetch 43 18 = some (.invokevirtual 164, 3) := by decide +kernel
set_option maxRecDepth 100000 in
theorem s43_18 {x0 : Nat} {x1 : Int32} {s0 : Nat} : ip_WP 43 18 [some (.ref x0), some (.int x1)] [.ref s0] (G, F, I, J) b post px ↔ (ip_isO G s0 1 = true ∧ ip_WP 35 0 [some (.ref s0)] [] (G, F, I, J) (0, 0) (fun r h' => ip_WP 43 21 [some (.ref x0), some (.int x1)] (r.toList ++ []) h' b post px) (fun _ _ => False)) := ip_ck_iff (x := ip_cl 35 [some (.ref s0)] [] (0, 0) b) ((ip_st_of f43_18).trans rfl) (ip_cl_iff)
theorem f43_21 : ip_fetch 43 21 = some (.istore_n 1, 1) := by decide +kernel
theorem s43_21 {x0 : Nat} {x1 : Int32} {s0 : Int32} : ip_WP 43 21 [some (.ref x0), some (.int x1)] [.int s0] (G, F, I, J) b post px ↔ ip_WP 43 22 [some (.ref x0), some (.int s0)] [] (G, F, I, J) b post px := ip_nx_iff ((ip_st_of f43_21).trans rfl)
theorem f43_22 : ip_fetch 43 22 = some (.goto (-20), 3) := by decide +kernel
theorem s43_22 {x0 : Nat} {x1 : Int32} : ip_WP 43 22 [some (.ref x0), some (.int x1)] [] (G, F, I, J) b post px ↔ ip_WP 43 2 [some (.ref x0), some (.int x1)] [] (G, F, I, J) b post px := ip_nx_iff ((ip_st_of f43_22).trans rfl)
theorem f43_25 : ip_fetch 43 25 = some (.return_, 1) := by decide +kernel
theorem s43_25 {x0 : Nat} {x1 : Int32} : ip_WP 43 25 [some (.ref x0), some (.int x1)] [] (G, F, I, J) b post px ↔ post none (G, F, I, J) := ip_rt_iff ((ip_st_of f43_25).trans rfl)
theorem f44_0 : ip_fetch 44 0 = some (.aload_n 0, 1) := by decide +kernel
theorem s44_0 {x0 : Nat} {x1 : Option Value} {x2 : Option Value} {x3 : Option Value} {x4 : Option Value} : ip_WP 44 0 [some (.ref x0), x1, x2, x3, x4] [] (G, F, I, J) b post px ↔ ip_WP 44 1 [some (.ref x0), x1, x2, x3, x4] [.ref x0] (G, F, I, J) b post px := ip_nx_iff ((ip_st_of f44_0).trans rfl)
theorem f44_1 : ip_fetch 44 1 = some (.iconst 1, 1) := by decide +kernel
theorem s44_1 {x0 : Nat} {x1 : Option Value} {x2 : Option Value} {x3 : Option Value} {x4 : Option Value} {s0 : Nat} : ip_WP 44 1 [some (.ref x0), x1, x2, x3, x4] [.ref s0] (G, F, I, J) b post px ↔ ip_WP 44 2 [some (.ref x0), x1, x2, x3, x4] [.int 1, .ref s0] (G, F, I, J) b post px := ip_s_iconst f44_1 (by decide)
theorem f44_2 : ip_fetch 44 2 = some (.invokevirtual 161, 3) := by decide +kernel
set_option maxRecDepth 100000 in
theorem s44_2 {x0 : Nat} {x1 : Option Value} {x2 : Option Value} {x3 : Option Value} {x4 : Option Value} {s0 : Nat} {s1 : Int32} : ip_WP 44 2 [some (.ref x0), x1, x2, x3, x4] [.int s1, .ref s0] (G, F, I, J) b post px ↔ (ip_isO G s0 1 = true ∧ ip_WP 40 0 [some (.ref s0), some (.int s1)] [] (G, F, I, J) (0, 0) (fun r h' => ip_WP 44 5 [some (.ref x0), x1, x2, x3, x4] (r.toList ++ []) h' b post px) (fun _ _ => False)) := ip_ck_iff (x := ip_cl 40 [some (.ref s0), some (.int s1)] [] (0, 0) b) ((ip_st_of f44_2).trans rfl) (ip_cl_iff)
theorem f44_5 : ip_fetch 44 5 = some (.istore_n 1, 1) := by decide +kernel
theorem s44_5 {x0 : Nat} {x1 : Option Value} {x2 : Option Value} {x3 : Option Value} {x4 : Option Value} {s0 : Int32} : ip_WP 44 5 [some (.ref x0), x1, x2, x3, x4] [.int s0] (G, F, I, J) b post px ↔ ip_WP 44 6 [some (.ref x0), some (.int s0), x2, x3, x4] [] (G, F, I, J) b post px := ip_nx_iff ((ip_st_of f44_5).trans rfl)
theorem f44_6 : ip_fetch 44 6 = some (.aload_n 0, 1) := by decide +kernel
theorem s44_6 {x0 : Nat} {x1 : Int32} {x2 : Option Value} {x3 : Option Value} {x4 : Option Value} : ip_WP 44 6 [some (.ref x0), some (.int x1), x2, x3, x4] [] (G, F, I, J) b post px ↔ ip_WP 44 7 [some (.ref x0), some (.int x1), x2, x3, x4] [.ref x0] (G, F, I, J) b post px := ip_nx_iff ((ip_st_of f44_6).trans rfl)
theorem f44_7 : ip_fetch 44 7 = some (.iconst 2, 1) := by decide +kernel
theorem s44_7 {x0 : Nat} {x1 : Int32} {x2 : Option Value} {x3 : Option Value} {x4 : Option Value} {s0 : Nat} : ip_WP 44 7 [some (.ref x0), some (.int x1), x2, x3, x4] [.ref s0] (G, F, I, J) b post px ↔ ip_WP 44 8 [some (.ref x0), some (.int x1), x2, x3, x4] [.int 2, .ref s0] (G, F, I, J) b post px := ip_s_iconst f44_7 (by decide)
theorem f44_8 : ip_fetch 44 8 = some (.invokevirtual 168, 3) := by decide +kernel
set_option maxRecDepth 100000 in
theorem s44_8 {x0 : Nat} {x1 : Int32} {x2 : Option Value} {x3 : Option Value} {x4 : Option Value} {s0 : Nat} {s1 : Int32} : ip_WP 44 8 [some (.ref x0), some (.int x1), x2, x3, x4] [.int s1, .ref s0] (G, F, I, J) b post px ↔ (ip_isO G s0 1 = true ∧ ip_WP 33 0 [some (.ref s0), some (.int s1)] [] (G, F, I, J) (0, 0) (fun r h' => ip_WP 44 11 [some (.ref x0), some (.int x1), x2, x3, x4] (r.toList ++ []) h' b post px) (fun _ _ => False)) := ip_ck_iff (x := ip_cl 33 [some (.ref s0), some (.int s1)] [] (0, 0) b) ((ip_st_of f44_8).trans rfl) (ip_cl_iff)
theorem f44_11 : ip_fetch 44 11 = some (.ifCond .ne 4, 3) := by decide +kernel
theorem s44_11 {x0 : Nat} {x1 : Int32} {x2 : Option Value} {x3 : Option Value} {x4 : Option Value} {s0 : Int32} : ip_WP 44 11 [some (.ref x0), some (.int x1), x2, x3, x4] [.int s0] (G, F, I, J) b post px ↔ if ¬ s0 = 0 then ip_WP 44 15 [some (.ref x0), some (.int x1), x2, x3, x4] [] (G, F, I, J) b post px else ip_WP 44 14 [some (.ref x0), some (.int x1), x2, x3, x4] [] (G, F, I, J) b post px := ip_s_if_ne f44_11 rfl
theorem f44_14 : ip_fetch 44 14 = some (.return_, 1) := by decide +kernel
theorem s44_14 {x0 : Nat} {x1 : Int32} {x2 : Option Value} {x3 : Option Value} {x4 : Option Value} : ip_WP 44 14 [some (.ref x0), some (.int x1), x2, x3, x4] [] (G, F, I, J) b post px ↔ post none (G, F, I, J) := ip_rt_iff ((ip_st_of f44_14).trans rfl)
theorem f44_15 : ip_fetch 44 15 = some (.aload_n 0, 1) := by decide +kernel
theorem s44_15 {x0 : Nat} {x1 : Int32} {x2 : Option Value} {x3 : Option Value} {x4 : Option Value} : ip_WP 44 15 [some (.ref x0), some (.int x1), x2, x3, x4] [] (G, F, I, J) b post px ↔ ip_WP 44 16 [some (.ref x0), some (.int x1), x2, x3, x4] [.ref x0] (G, F, I, J) b post px := ip_nx_iff ((ip_st_of f44_15).trans rfl)
theorem f44_16 : ip_fetch 44 16 = some (.invokevirtual 146, 3) := by decide +kernel
set_option maxRecDepth 100000 in
theorem s44_16 {x0 : Nat} {x1 : Int32} {x2 : Option Value} {x3 : Option Value} {x4 : Option Value} {s0 : Nat} : ip_WP 44 16 [some (.ref x0), some (.int x1), x2, x3, x4] [.ref s0] (G, F, I, J) b post px ↔ (ip_isO G s0 1 = true ∧ ip_WP 31 0 [some (.ref s0), none] [] (G, F, I, J) (0, 0) (fun r h' => ip_WP 44 19 [some (.ref x0), some (.int x1), x2, x3, x4] (r.toList ++ []) h' b post px) (fun _ _ => False)) := ip_ck_iff (x := ip_cl 31 [some (.ref s0), none] [] (0, 0) b) ((ip_st_of f44_16).trans rfl) (ip_cl_iff)
theorem f44_19 : ip_fetch 44 19 = some (.aload_n 0, 1) := by decide +kernel
theorem s44_19 {x0 : Nat} {x1 : Int32} {x2 : Option Value} {x3 : Option Value} {x4 : Option Value} : ip_WP 44 19 [some (.ref x0), some (.int x1), x2, x3, x4] [] (G, F, I, J) b post px ↔ ip_WP 44 20 [some (.ref x0), some (.int x1), x2, x3, x4] [.ref x0] (G, F, I, J) b post px := ip_nx_iff ((ip_st_of f44_19).trans rfl)
theorem f44_20 : ip_fetch 44 20 = some (.getfield 101, 3) := by decide +kernel
set_option maxRecDepth 100000 in
theorem s44_20 {x0 : Nat} {x1 : Int32} {x2 : Option Value} {x3 : Option Value} {x4 : Option Value} {s0 : Nat} : ip_WP 44 20 [some (.ref x0), some (.int x1), x2, x3, x4] [.ref s0] (G, F, I, J) b post px ↔ (ip_isO G s0 1 = true ∧ ip_WP 44 23 [some (.ref x0), some (.int x1), x2, x3, x4] [F s0 6] (G, F, I, J) b post px) := ip_s_getf f44_20 (by decide +kernel)
theorem f44_23 : ip_fetch 44 23 = some (.ifCond .ne 7, 3) := by decide +kernel
theorem s44_23 {x0 : Nat} {x1 : Int32} {x2 : Option Value} {x3 : Option Value} {x4 : Option Value} {s0 : Int32} : ip_WP 44 23 [some (.ref x0), some (.int x1), x2, x3, x4] [.int s0] (G, F, I, J) b post px ↔ if ¬ s0 = 0 then ip_WP 44 30 [some (.ref x0), some (.int x1), x2, x3, x4] [] (G, F, I, J) b post px else ip_WP 44 26 [some (.ref x0), some (.int x1), x2, x3, x4] [] (G, F, I, J) b post px := ip_s_if_ne f44_23 rfl
theorem f44_26 : ip_fetch 44 26 = some (.iconst 1, 1) := by decide +kernel
theorem s44_26 {x0 : Nat} {x1 : Int32} {x2 : Option Value} {x3 : Option Value} {x4 : Option Value} : ip_WP 44 26 [some (.ref x0), some (.int x1), x2, x3, x4] [] (G, F, I, J) b post px ↔ ip_WP 44 27 [some (.ref x0), some (.int x1), x2, x3, x4] [.int 1] (G, F, I, J) b post px := ip_s_iconst f44_26 (by decide)
theorem f44_27 : ip_fetch 44 27 = some (.goto 4, 3) := by decide +kernel
theorem s44_27 {x0 : Nat} {x1 : Int32} {x2 : Option Value} {x3 : Option Value} {x4 : Option Value} {s0 : Int32} : ip_WP 44 27 [some (.ref x0), some (.int x1), x2, x3, x4] [.int s0] (G, F, I, J) b post px ↔ ip_WP 44 31 [some (.ref x0), some (.int x1), x2, x3, x4] [.int s0] (G, F, I, J) b post px := ip_nx_iff ((ip_st_of f44_27).trans rfl)
theorem f44_30 : ip_fetch 44 30 = some (.iconst 0, 1) := by decide +kernel
theorem s44_30 {x0 : Nat} {x1 : Int32} {x2 : Option Value} {x3 : Option Value} {x4 : Option Value} : ip_WP 44 30 [some (.ref x0), some (.int x1), x2, x3, x4] [] (G, F, I, J) b post px ↔ ip_WP 44 31 [some (.ref x0), some (.int x1), x2, x3, x4] [.int 0] (G, F, I, J) b post px := ip_s_iconst f44_30 (by decide)
theorem f44_31 : ip_fetch 44 31 = some (.istore_n 2, 1) := by decide +kernel
theorem s44_31 {x0 : Nat} {x1 : Int32} {x2 : Option Value} {x3 : Option Value} {x4 : Option Value} {s0 : Int32} : ip_WP 44 31 [some (.ref x0), some (.int x1), x2, x3, x4] [.int s0] (G, F, I, J) b post px ↔ ip_WP 44 32 [some (.ref x0), some (.int x1), some (.int s0), x3, x4] [] (G, F, I, J) b post px := ip_nx_iff ((ip_st_of f44_31).trans rfl)
theorem f44_32 : ip_fetch 44 32 = some (.iload_n 2, 1) := by decide +kernel
theorem s44_32 {x0 : Nat} {x1 : Int32} {x2 : Int32} {x3 : Option Value} {x4 : Option Value} : ip_WP 44 32 [some (.ref x0), some (.int x1), some (.int x2), x3, x4] [] (G, F, I, J) b post px ↔ ip_WP 44 33 [some (.ref x0), some (.int x1), some (.int x2), x3, x4] [.int x2] (G, F, I, J) b post px := ip_nx_iff ((ip_st_of f44_32).trans rfl)
theorem f44_33 : ip_fetch 44 33 = some (.ifCond .eq 104, 3) := by decide +kernel
theorem s44_33 {x0 : Nat} {x1 : Int32} {x2 : Int32} {x3 : Option Value} {x4 : Option Value} {s0 : Int32} : ip_WP 44 33 [some (.ref x0), some (.int x1), some (.int x2), x3, x4] [.int s0] (G, F, I, J) b post px ↔ if s0 = 0 then ip_WP 44 137 [some (.ref x0), some (.int x1), some (.int x2), x3, x4] [] (G, F, I, J) b post px else ip_WP 44 36 [some (.ref x0), some (.int x1), some (.int x2), x3, x4] [] (G, F, I, J) b post px := ip_s_if_eq f44_33 rfl
theorem f44_36 : ip_fetch 44 36 = some (.aload_n 0, 1) := by decide +kernel
theorem s44_36 {x0 : Nat} {x1 : Int32} {x2 : Int32} {x3 : Option Value} {x4 : Option Value} : ip_WP 44 36 [some (.ref x0), some (.int x1), some (.int x2), x3, x4] [] (G, F, I, J) b post px ↔ ip_WP 44 37 [some (.ref x0), some (.int x1), some (.int x2), x3, x4] [.ref x0] (G, F, I, J) b post px := ip_nx_iff ((ip_st_of f44_36).trans rfl)
theorem f44_37 : ip_fetch 44 37 = some (.getfield 101, 3) := by decide +kernel
set_option maxRecDepth 100000 in
theorem s44_37 {x0 : Nat} {x1 : Int32} {x2 : Int32} {x3 : Option Value} {x4 : Option Value} {s0 : Nat} : ip_WP 44 37 [some (.ref x0), some (.int x1), some (.int x2), x3, x4] [.ref s0] (G, F, I, J) b post px ↔ (ip_isO G s0 1 = true ∧ ip_WP 44 40 [some (.ref x0), some (.int x1), some (.int x2), x3, x4] [F s0 6] (G, F, I, J) b post px) := ip_s_getf f44_37 (by decide +kernel)
theorem f44_40 : ip_fetch 44 40 = some (.ifCond .ne 24, 3) := by decide +kernel
theorem s44_40 {x0 : Nat} {x1 : Int32} {x2 : Int32} {x3 : Option Value} {x4 : Option Value} {s0 : Int32} : ip_WP 44 40 [some (.ref x0), some (.int x1), some (.int x2), x3, x4] [.int s0] (G, F, I, J) b post px ↔ if ¬ s0 = 0 then ip_WP 44 64 [some (.ref x0), some (.int x1), some (.int x2), x3, x4] [] (G, F, I, J) b post px else ip_WP 44 43 [some (.ref x0), some (.int x1), some (.int x2), x3, x4] [] (G, F, I, J) b post px := ip_s_if_ne f44_40 rfl
theorem f44_43 : ip_fetch 44 43 = some (.aload_n 0, 1) := by decide +kernel
theorem s44_43 {x0 : Nat} {x1 : Int32} {x2 : Int32} {x3 : Option Value} {x4 : Option Value} : ip_WP 44 43 [some (.ref x0), some (.int x1), some (.int x2), x3, x4] [] (G, F, I, J) b post px ↔ ip_WP 44 44 [some (.ref x0), some (.int x1), some (.int x2), x3, x4] [.ref x0] (G, F, I, J) b post px := ip_nx_iff ((ip_st_of f44_43).trans rfl)
theorem f44_44 : ip_fetch 44 44 = some (.getfield 123, 3) := by decide +kernel
set_option maxRecDepth 100000 in
theorem s44_44 {x0 : Nat} {x1 : Int32} {x2 : Int32} {x3 : Option Value} {x4 : Option Value} {s0 : Nat} : ip_WP 44 44 [some (.ref x0), some (.int x1), some (.int x2), x3, x4] [.ref s0] (G, F, I, J) b post px ↔ (ip_isO G s0 1 = true ∧ ip_WP 44 47 [some (.ref x0), some (.int x1), some (.int x2), x3, x4] [F s0 35] (G, F, I, J) b post px) := ip_s_getf f44_44 (by decide +kernel)
theorem f44_47 : ip_fetch 44 47 = some (.iconst 4, 1) := by decide +kernel
theorem s44_47 {x0 : Nat} {x1 : Int32} {x2 : Int32} {x3 : Option Value} {x4 : Option Value} {s0 : Int32} : ip_WP 44 47 [some (.ref x0), some (.int x1), some (.int x2), x3, x4] [.int s0] (G, F, I, J) b post px ↔ ip_WP 44 48 [some (.ref x0), some (.int x1), some (.int x2), x3, x4] [.int 4, .int s0] (G, F, I, J) b post px := ip_s_iconst f44_47 (by decide)
theorem f44_48 : ip_fetch 44 48 = some (.if_icmp .ne 16, 3) := by decide +kernel
theorem s44_48 {x0 : Nat} {x1 : Int32} {x2 : Int32} {x3 : Option Value} {x4 : Option Value} {s0 : Int32} {s1 : Int32} : ip_WP 44 48 [some (.ref x0), some (.int x1), some (.int x2), x3, x4] [.int s1, .int s0] (G, F, I, J) b post px ↔ if ¬ s0 = s1 then ip_WP 44 64 [some (.ref x0), some (.int x1), some (.int x2), x3, x4] [] (G, F, I, J) b post px else ip_WP 44 51 [some (.ref x0), some (.int x1), some (.int x2), x3, x4] [] (G, F, I, J) b post px := ip_s_ic_ne f44_48 rfl
theorem f44_51 : ip_fetch 44 51 = some (.aload_n 0, 1) := by decide +kernel
theorem s44_51 {x0 : Nat} {x1 : Int32} {x2 : Int32} {x3 : Option Value} {x4 : Option Value} : ip_WP 44 51 [some (.ref x0), some (.int x1), some (.int x2), x3, x4] [] (G, F, I, J) b post px ↔ ip_WP 44 52 [some (.ref x0), some (.int x1), some (.int x2), x3, x4] [.ref x0] (G, F, I, J) b post px := ip_nx_iff ((ip_st_of f44_51).trans rfl)
theorem f44_52 : ip_fetch 44 52 = some (.getfield 136, 3) := by decide +kernel
set_option maxRecDepth 100000 in
theorem s44_52 {x0 : Nat} {x1 : Int32} {x2 : Int32} {x3 : Option Value} {x4 : Option Value} {s0 : Nat} : ip_WP 44 52 [some (.ref x0), some (.int x1), some (.int x2), x3, x4] [.ref s0] (G, F, I, J) b post px ↔ (ip_isO G s0 1 = true ∧ ip_WP 44 55 [some (.ref x0), some (.int x1), some (.int x2), x3, x4] [F s0 38] (G, F, I, J) b post px) := ip_s_getf f44_52 (by decide +kernel)
theorem f44_55 : ip_fetch 44 55 = some (.bipush 10, 2) := by decide +kernel
theorem s44_55 {x0 : Nat} {x1 : Int32} {x2 : Int32} {x3 : Option Value} {x4 : Option Value} {s0 : Int32} : ip_WP 44 55 [some (.ref x0), some (.int x1), some (.int x2), x3, x4] [.int s0] (G, F, I, J) b post px ↔ ip_WP 44 57 [some (.ref x0), some (.int x1), some (.int x2), x3, x4] [.int 10, .int s0] (G, F, I, J) b post px := ip_s_bipush f44_55 (by decide)
theorem f44_57 : ip_fetch 44 57 = some (.if_icmp .lt 7, 3) := by decide +kernel
theorem s44_57 {x0 : Nat} {x1 : Int32} {x2 : Int32} {x3 : Option Value} {x4 : Option Value} {s0 : Int32} {s1 : Int32} : ip_WP 44 57 [some (.ref x0), some (.int x1), some (.int x2), x3, x4] [.int s1, .int s0] (G, F, I, J) b post px ↔ if s0 < s1 then ip_WP 44 64 [some (.ref x0), some (.int x1), some (.int x2), x3, x4] [] (G, F, I, J) b post px else ip_WP 44 60 [some (.ref x0), some (.int x1), some (.int x2), x3, x4] [] (G, F, I, J) b post px := ip_s_ic_lt f44_57 rfl
theorem f44_60 : ip_fetch 44 60 = some (.iconst 1, 1) := by decide +kernel
theorem s44_60 {x0 : Nat} {x1 : Int32} {x2 : Int32} {x3 : Option Value} {x4 : Option Value} : ip_WP 44 60 [some (.ref x0), some (.int x1), some (.int x2), x3, x4] [] (G, F, I, J) b post px ↔ ip_WP 44 61 [some (.ref x0), some (.int x1), some (.int x2), x3, x4] [.int 1] (G, F, I, J) b post px := ip_s_iconst f44_60 (by decide)
theorem f44_61 : ip_fetch 44 61 = some (.goto 4, 3) := by decide +kernel
theorem s44_61 {x0 : Nat} {x1 : Int32} {x2 : Int32} {x3 : Option Value} {x4 : Option Value} {s0 : Int32} : ip_WP 44 61 [some (.ref x0), some (.int x1), some (.int x2), x3, x4] [.int s0] (G, F, I, J) b post px ↔ ip_WP 44 65 [some (.ref x0), some (.int x1), some (.int x2), x3, x4] [.int s0] (G, F, I, J) b post px := ip_nx_iff ((ip_st_of f44_61).trans rfl)
theorem f44_64 : ip_fetch 44 64 = some (.iconst 0, 1) := by decide +kernel
theorem s44_64 {x0 : Nat} {x1 : Int32} {x2 : Int32} {x3 : Option Value} {x4 : Option Value} : ip_WP 44 64 [some (.ref x0), some (.int x1), some (.int x2), x3, x4] [] (G, F, I, J) b post px ↔ ip_WP 44 65 [some (.ref x0), some (.int x1), some (.int x2), x3, x4] [.int 0] (G, F, I, J) b post px := ip_s_iconst f44_64 (by decide)
theorem f44_65 : ip_fetch 44 65 = some (.istore_n 3, 1) := by decide +kernel
theorem s44_65 {x0 : Nat} {x1 : Int32} {x2 : Int32} {x3 : Option Value} {x4 : Option Value} {s0 : Int32} : ip_WP 44 65 [some (.ref x0), some (.int x1), some (.int x2), x3, x4] [.int s0] (G, F, I, J) b post px ↔ ip_WP 44 66 [some (.ref x0), some (.int x1), some (.int x2), some (.int s0), x4] [] (G, F, I, J) b post px := ip_nx_iff ((ip_st_of f44_65).trans rfl)
theorem f44_66 : ip_fetch 44 66 = some (.iload_n 3, 1) := by decide +kernel
theorem s44_66 {x0 : Nat} {x1 : Int32} {x2 : Int32} {x3 : Int32} {x4 : Option Value} : ip_WP 44 66 [some (.ref x0), some (.int x1), some (.int x2), some (.int x3), x4] [] (G, F, I, J) b post px ↔ ip_WP 44 67 [some (.ref x0), some (.int x1), some (.int x2), some (.int x3), x4] [.int x3] (G, F, I, J) b post px := ip_nx_iff ((ip_st_of f44_66).trans rfl)
theorem f44_67 : ip_fetch 44 67 = some (.ifCond .eq 13, 3) := by decide +kernel
theorem s44_67 {x0 : Nat} {x1 : Int32} {x2 : Int32} {x3 : Int32} {x4 : Option Value} {s0 : Int32} : ip_WP 44 67 [some (.ref x0), some (.int x1), some (.int x2), some (.int x3), x4] [.int s0] (G, F, I, J) b post px ↔ if s0 = 0 then ip_WP 44 80 [some (.ref x0), some (.int x1), some (.int x2), some (.int x3), x4] [] (G, F, I, J) b post px else ip_WP 44 70 [some (.ref x0), some (.int x1), some (.int x2), some (.int x3), x4] [] (G, F, I, J) b post px := ip_s_if_eq f44_67 rfl
theorem f44_70 : ip_fetch 44 70 = some (.aload_n 0, 1) := by decide +kernel
theorem s44_70 {x0 : Nat} {x1 : Int32} {x2 : Int32} {x3 : Int32} {x4 : Option Value} : ip_WP 44 70 [some (.ref x0), some (.int x1), some (.int x2), some (.int x3), x4] [] (G, F, I, J) b post px ↔ ip_WP 44 71 [some (.ref x0), some (.int x1), some (.int x2), some (.int x3), x4] [.ref x0] (G, F, I, J) b post px := ip_nx_iff ((ip_st_of f44_70).trans rfl)
theorem f44_71 : ip_fetch 44 71 = some (.getfield 136, 3) := by decide +kernel
set_option maxRecDepth 100000 in
theorem s44_71 {x0 : Nat} {x1 : Int32} {x2 : Int32} {x3 : Int32} {x4 : Option Value} {s0 : Nat} : ip_WP 44 71 [some (.ref x0), some (.int x1), some (.int x2), some (.int x3), x4] [.ref s0] (G, F, I, J) b post px ↔ (ip_isO G s0 1 = true ∧ ip_WP 44 74 [some (.ref x0), some (.int x1), some (.int x2), some (.int x3), x4] [F s0 38] (G, F, I, J) b post px) := ip_s_getf f44_71 (by decide +kernel)
theorem f44_74 : ip_fetch 44 74 = some (.bipush 10, 2) := by decide +kernel
theorem s44_74 {x0 : Nat} {x1 : Int32} {x2 : Int32} {x3 : Int32} {x4 : Option Value} {s0 : Int32} : ip_WP 44 74 [some (.ref x0), some (.int x1), some (.int x2), some (.int x3), x4] [.int s0] (G, F, I, J) b post px ↔ ip_WP 44 76 [some (.ref x0), some (.int x1), some (.int x2), some (.int x3), x4] [.int 10, .int s0] (G, F, I, J) b post px := ip_s_bipush f44_74 (by decide)
theorem f44_76 : ip_fetch 44 76 = some (.isub, 1) := by decide +kernel
theorem s44_76 {x0 : Nat} {x1 : Int32} {x2 : Int32} {x3 : Int32} {x4 : Option Value} {s0 : Int32} {s1 : Int32} : ip_WP 44 76 [some (.ref x0), some (.int x1), some (.int x2), some (.int x3), x4] [.int s1, .int s0] (G, F, I, J) b post px ↔ ip_WP 44 77 [some (.ref x0), some (.int x1), some (.int x2), some (.int x3), x4] [.int (s0 - s1)] (G, F, I, J) b post px := ip_nx_iff ((ip_st_of f44_76).trans rfl)
theorem f44_77 : ip_fetch 44 77 = some (.goto 4, 3) := by decide +kernel
theorem s44_77 {x0 : Nat} {x1 : Int32} {x2 : Int32} {x3 : Int32} {x4 : Option Value} {s0 : Int32} : ip_WP 44 77 [some (.ref x0), some (.int x1), some (.int x2), some (.int x3), x4] [.int s0] (G, F, I, J) b post px ↔ ip_WP 44 81 [some (.ref x0), some (.int x1), some (.int x2), some (.int x3), x4] [.int s0] (G, F, I, J) b post px := ip_nx_iff ((ip_st_of f44_77).trans rfl)
theorem f44_80 : ip_fetch 44 80 = some (.iconst 0, 1) := by decide +kernel
theorem s44_80 {x0 : Nat} {x1 : Int32} {x2 : Int32} {x3 : Int32} {x4 : Option Value} : ip_WP 44 80 [some (.ref x0), some (.int x1), some (.int x2), some (.int x3), x4] [] (G, F, I, J) b post px ↔ ip_WP 44 81 [some (.ref x0), some (.int x1), some (.int x2), some (.int x3), x4] [.int 0] (G, F, I, J) b post px := ip_s_iconst f44_80 (by decide)
theorem f44_81 : ip_fetch 44 81 = some (.istore 4, 2) := by decide +kernel
theorem s44_81 {x0 : Nat} {x1 : Int32} {x2 : Int32} {x3 : Int32} {x4 : Option Value} {s0 : Int32} : ip_WP 44 81 [some (.ref x0), some (.int x1), some (.int x2), some (.int x3), x4] [.int s0] (G, F, I, J) b post px ↔ ip_WP 44 83 [some (.ref x0), some (.int x1), some (.int x2), some (.int x3), some (.int s0)] [] (G, F, I, J) b post px := ip_nx_iff ((ip_st_of f44_81).trans rfl)
theorem f44_83 : ip_fetch 44 83 = some (.iload_n 3, 1) := by decide +kernel
theorem s44_83 {x0 : Nat} {x1 : Int32} {x2 : Int32} {x3 : Int32} {x4 : Int32} : ip_WP 44 83 [some (.ref x0), some (.int x1), some (.int x2), some (.int x3), some (.int x4)] [] (G, F, I, J) b post px ↔ ip_WP 44 84 [some (.ref x0), some (.int x1), some (.int x2), some (.int x3), some (.int x4)] [.int x3] (G, F, I, J) b post px := ip_nx_iff ((ip_st_of f44_83).trans rfl)
theorem f44_84 : ip_fetch 44 84 = some (.ifCond .ne 15, 3) := by decide +kernel
theorem s44_84 {x0 : Nat} {x1 : Int32} {x2 : Int32} {x3 : Int32} {x4 : Int32} {s0 : Int32} : ip_WP 44 84 [some (.ref x0), some (.int x1), some (.int x2), some (.int x3), some (.int x4)] [.int s0] (G, F, I, J) b post px ↔ if ¬ s0 = 0 then ip_WP 44 99 [some (.ref x0), some (.int x1), some (.int x2), some (.int x3), some (.int x4)] [] (G, F, I, J) b post px else ip_WP 44 87 [some (.ref x0), some (.int x1), some (.int x2), some (.int x3), some (.int x4)] [] (G, F, I, J) b post px := ip_s_if_ne f44_84 rfl
theorem f44_87 : ip_fetch 44 87 = some (.aload_n 0, 1) := by decide +kernel
theorem s44_87 {x0 : Nat} {x1 : Int32} {x2 : Int32} {x3 : Int32} {x4 : Int32} : ip_WP 44 87 [some (.ref x0), some (.int x1), some (.int x2), some (.int x3), some (.int x4)] [] (G, F, I, J) b post px ↔ ip_WP 44 88 [some (.ref x0), some (.int x1), some (.int x2), some (.int x3), some (.int x4)] [.ref x0] (G, F, I, J) b post px := ip_nx_iff ((ip_st_of f44_87).trans rfl)
theorem f44_88 : ip_fetch 44 88 = some (.iconst 2, 1) := by decide +kernel
theorem s44_88 {x0 : Nat} {x1 : Int32} {x2 : Int32} {x3 : Int32} {x4 : Int32} {s0 : Nat} : ip_WP 44 88 [some (.ref x0), some (.int x1), some (.int x2), some (.int x3), some (.int x4)] [.ref s0] (G, F, I, J) b post px ↔ ip_WP 44 89 [some (.ref x0), some (.int x1), some (.int x2), some (.int x3), some (.int x4)] [.int 2, .ref s0] (G, F, I, J) b post px := ip_s_iconst f44_88 (by decide)
theorem f44_89 : ip_fetch 44 89 = some (.aload_n 0, 1) := by decide +kernel
theorem s44_89 {x0 : Nat} {x1 : Int32} {x2 : Int32} {x3 : Int32} {x4 : Int32} {s0 : Nat} {s1 : Int32} : ip_WP 44 89 [some (.ref x0), some (.int x1), some (.int x2), some (.int x3), some (.int x4)] [.int s1, .ref s0] (G, F, I, J) b post px ↔ ip_WP 44 90 [some (.ref x0), some (.int x1), some (.int x2), some (.int x3), some (.int x4)] [.ref x0, .int s1, .ref s0] (G, F, I, J) b post px := ip_nx_iff ((ip_st_of f44_89).trans rfl)
theorem f44_90 : ip_fetch 44 90 = some (.getfield 117, 3) := by decide +kernel
set_option maxRecDepth 100000 in
theorem s44_90 {x0 : Nat} {x1 : Int32} {x2 : Int32} {x3 : Int32} {x4 : Int32} {s0 : Nat} {s1 : Int32} {s2 : Nat} : ip_WP 44 90 [some (.ref x0), some (.int x1), some (.int x2), some (.int x3), some (.int x4)] [.ref s2, .int s1, .ref s0] (G, F, I, J) b post px ↔ (ip_isO G s2 1 = true ∧ ip_WP 44 93 [some (.ref x0), some (.int x1), some (.int x2), some (.int x3), some (.int x4)] [F s2 36, .int s1, .ref s0] (G, F, I, J) b post px) := ip_s_getf f44_90 (by decide +kernel)
theorem f44_93 : ip_fetch 44 93 = some (.invokevirtual 139, 3) := by decide +kernel
set_option maxRecDepth 100000 in
theorem s44_93 {x0 : Nat} {x1 : Int32} {x2 : Int32} {x3 : Int32} {x4 : Int32} {s0 : Nat} {s1 : Int32} {s2 : Int32} : ip_WP 44 93 [some (.ref x0), some (.int x1), some (.int x2), some (.int x3), some (.int x4)] [.int s2, .int s1, .ref s0] (G, F, I, J) b post px ↔ (ip_isO G s0 1 = true ∧ ip_WP 25 0 [some (.ref s0), some (.int s1), some (.int s2)] [] (G, F, I, J) (0, 0) (fun r h' => ip_WP 44 96 [some (.ref x0), some (.int x1), some (.int x2), some (.int x3), some (.int x4)] (r.toList ++ []) h' b post px) (fun _ _ => False)) := ip_ck_iff (x := ip_cl 25 [some (.ref s0), some (.int s1), some (.int s2)] [] (0, 0) b) ((ip_st_of f44_93).trans rfl) (ip_cl_iff)
theorem f44_96 : ip_fetch 44 96 = some (.goto 33, 3) := by decide +kernel
theorem s44_96 {x0 : Nat} {x1 : Int32} {x2 : Int32} {x3 : Int32} {x4 : Int32} : ip_WP 44 96 [some (.ref x0), some (.int x1), some (.int x2), some (.int x3), some (.int x4)] [] (G, F, I, J) b post px ↔ ip_WP 44 129 [some (.ref x0), some (.int x1), some (.int x2), some (.int x3), some (.int x4)] [] (G, F, I, J) b post px := ip_nx_iff ((ip_st_of f44_96).trans rfl)
theorem f44_99 : ip_fetch 44 99 = some (.aload_n 0, 1) := by decide +kernel
theorem s44_99 {x0 : Nat} {x1 : Int32} {x2 : Int32} {x3 : Int32} {x4 : Int32} : ip_WP 44 99 [some (.ref x0), some (.int x1), some (.int x2), some (.int x3), some (.int x4)] [] (G, F, I, J) b post px ↔ ip_WP 44 100 [some (.ref x0), some (.int x1), some (.int x2), some (.int x3), some (.int x4)] [.ref x0] (G, F, I, J) b post px := ip_nx_iff ((ip_st_of f44_99).trans rfl)
theorem f44_100 : ip_fetch 44 100 = some (.aload_n 0, 1) := by decide +kernel
theorem s44_100 {x0 : Nat} {x1 : Int32} {x2 : Int32} {x3 : Int32} {x4 : Int32} {s0 : Nat} : ip_WP 44 100 [some (.ref x0), some (.int x1), some (.int x2), some (.int x3), some (.int x4)] [.ref s0] (G, F, I, J) b post px ↔ ip_WP 44 101 [some (.ref x0), some (.int x1), some (.int x2), some (.int x3), some (.int x4)] [.ref x0, .ref s0] (G, F, I, J) b post px := ip_nx_iff ((ip_st_of f44_100).trans rfl)
theorem f44_101 : ip_fetch 44 101 = some (.getfield 53, 3) := by decide +kernel
set_option maxRecDepth 100000 in
theorem s44_101 {x0 : Nat} {x1 : Int32} {x2 : Int32} {x3 : Int32} {x4 : Int32} {s0 : Nat} {s1 : Nat} : ip_WP 44 101 [some (.ref x0), some (.int x1), some (.int x2), some (.int x3), some (.int x4)] [.ref s1, .ref s0] (G, F, I, J) b post px ↔ (ip_isO G s1 1 = true ∧ ip_WP 44 104 [some (.ref x0), some (.int x1), some (.int x2), some (.int x3), some (.int x4)] [F s1 22, .ref s0] (G, F, I, J) b post px) := ip_s_getf f44_101 (by decide +kernel)
theorem f44_104 : ip_fetch 44 104 = some (.iload 4, 2) := by decide +kernel
theorem s44_104 {x0 : Nat} {x1 : Int32} {x2 : Int32} {x3 : Int32} {x4 : Int32} {s0 : Nat} {s1 : Nat} : ip_WP 44 104 [some (.ref x0), some (.int x1), some (.int x2), some (.int x3), some (.int x4)] [.ref s1, .ref s0] (G, F, I, J) b post px ↔ ip_WP 44 106 [some (.ref x0), some (.int x1), some (.int x2), some (.int x3), some (.int x4)] [.int x4, .ref s1, .ref s0] (G, F, I, J) b post px := ip_nx_iff ((ip_st_of f44_104).trans rfl)
theorem f44_106 : ip_fetch 44 106 = some (.iaload, 1) := by decide +kernel
theorem s44_106 {x0 : Nat} {x1 : Int32} {x2 : Int32} {x3 : Int32} {x4 : Int32} {s0 : Nat} {s1 : Nat} {s2 : Int32} : ip_WP 44 106 [some (.ref x0), some (.int x1), some (.int x2), some (.int x3), some (.int x4)] [.int s2, .ref s1, .ref s0] (G, F, I, J) b post px ↔ (ip_inA G s1 0 s2 = true ∧ ip_WP 44 107 [some (.ref x0), some (.int x1), some (.int x2), some (.int x3), some (.int x4)] [.int (I s1 s2.toNatClampNeg), .ref s0] (G, F, I, J) b post px) := ip_ck_iff ((ip_st_of f44_106).trans rfl) ip_nx_iff
theorem f44_107 : ip_fetch 44 107 = some (.ifCond .lt 7, 3) := by decide +kernel
theorem s44_107 {x0 : Nat} {x1 : Int32} {x2 : Int32} {x3 : Int32} {x4 : Int32} {s0 : Nat} {s1 : Int32} : ip_WP 44 107 [some (.ref x0), some (.int x1), some (.int x2), some (.int x3), some (.int x4)] [.int s1, .ref s0] (G, F, I, J) b post px ↔ if s1 < 0 then ip_WP 44 114 [some (.ref x0), some (.int x1), some (.int x2), some (.int x3), some (.int x4)] [.ref s0] (G, F, I, J) b post px else ip_WP 44 110 [some (.ref x0), some (.int x1), some (.int x2), some (.int x3), some (.int x4)] [.ref s0] (G, F, I, J) b post px := ip_s_if_lt f44_107 rfl
theorem f44_110 : ip_fetch 44 110 = some (.iconst 1, 1) := by decide +kernel
theorem s44_110 {x0 : Nat} {x1 : Int32} {x2 : Int32} {x3 : Int32} {x4 : Int32} {s0 : Nat} : ip_WP 44 110 [some (.ref x0), some (.int x1), some (.int x2), some (.int x3), some (.int x4)] [.ref s0] (G, F, I, J) b post px ↔ ip_WP 44 111 [some (.ref x0), some (.int x1), some (.int x2), some (.int x3), some (.int x4)] [.int 1, .ref s0] (G, F, I, J) b post px := ip_s_iconst f44_110 (by decide)
theorem f44_111 : ip_fetch 44 111 = some (.goto 4, 3) := by decide +kernel
theorem s44_111 {x0 : Nat} {x1 : Int32} {x2 : Int32} {x3 : Int32} {x4 : Int32} {s0 : Nat} {s1 : Int32} : ip_WP 44 111 [some (.ref x0), some (.int x1), some (.int x2), some (.int x3), some (.int x4)] [.int s1, .ref s0] (G, F, I, J) b post px ↔ ip_WP 44 115 [some (.ref x0), some (.int x1), some (.int x2), some (.int x3), some (.int x4)] [.int s1, .ref s0] (G, F, I, J) b post px := ip_nx_iff ((ip_st_of f44_111).trans rfl)
theorem f44_114 : ip_fetch 44 114 = some (.iconst 0, 1) := by decide +kernel
theorem s44_114 {x0 : Nat} {x1 : Int32} {x2 : Int32} {x3 : Int32} {x4 : Int32} {s0 : Nat} : ip_WP 44 114 [some (.ref x0), some (.int x1), some (.int x2), some (.int x3), some (.int x4)] [.ref s0] (G, F, I, J) b post px ↔ ip_WP 44 115 [some (.ref x0), some (.int x1), some (.int x2), some (.int x3), some (.int x4)] [.int 0, .ref s0] (G, F, I, J) b post px := ip_s_iconst f44_114 (by decide)
theorem f44_115 : ip_fetch 44 115 = some (.invokevirtual 171, 3) := by decide +kernel
set_option maxRecDepth 100000 in
theorem s44_115 {x0 : Nat} {x1 : Int32} {x2 : Int32} {x3 : Int32} {x4 : Int32} {s0 : Nat} {s1 : Int32} : ip_WP 44 115 [some (.ref x0), some (.int x1), some (.int x2), some (.int x3), some (.int x4)] [.int s1, .ref s0] (G, F, I, J) b post px ↔ (ip_isO G s0 1 = true ∧ ip_WP 42 0 [some (.ref s0), some (.int s1)] [] (G, F, I, J) (0, 0) (fun r h' => ip_WP 44 118 [some (.ref x0), some (.int x1), some (.int x2), some (.int x3), some (.int x4)] (r.toList ++ []) h' b post px) (fun _ _ => False)) := ip_ck_iff (x := ip_cl 42 [some (.ref s0), some (.int s1)] [] (0, 0) b) ((ip_st_of f44_115).trans rfl) (ip_cl_iff)
theorem f44_118 : ip_fetch 44 118 = some (.ifCond .eq 11, 3) := by decide +kernel
theorem s44_118 {x0 : Nat} {x1 : Int32} {x2 : Int32} {x3 : Int32} {x4 : Int32} {s0 : Int32} : ip_WP 44 118 [some (.ref x0), some (.int x1), some (.int x2), some (.int x3), some (.int x4)] [.int s0] (G, F, I, J) b post px ↔ if s0 = 0 then ip_WP 44 129 [some (.ref x0), some (.int x1), some (.int x2), some (.int x3), some (.int x4)] [] (G, F, I, J) b post px else ip_WP 44 121 [some (.ref x0), some (.int x1), some (.int x2), some (.int x3), some (.int x4)] [] (G, F, I, J) b post px := ip_s_if_eq f44_118 rfl
theorem f44_121 : ip_fetch 44 121 = some (.aload_n 0, 1) := by decide +kernel
theorem s44_121 {x0 : Nat} {x1 : Int32} {x2 : Int32} {x3 : Int32} {x4 : Int32} : ip_WP 44 121 [some (.ref x0), some (.int x1), some (.int x2), some (.int x3), some (.int x4)] [] (G, F, I, J) b post px ↔ ip_WP 44 122 [some (.ref x0), some (.int x1), some (.int x2), some (.int x3), some (.int x4)] [.ref x0] (G, F, I, J) b post px := ip_nx_iff ((ip_st_of f44_121).trans rfl)
theorem f44_122 : ip_fetch 44 122 = some (.getfield 53, 3) := by decide +kernel
set_option maxRecDepth 100000 in
theorem s44_122 {x0 : Nat} {x1 : Int32} {x2 : Int32} {x3 : Int32} {x4 : Int32} {s0 : Nat} : ip_WP 44 122 [some (.ref x0), some (.int x1), some (.int x2), some (.int x3), some (.int x4)] [.ref s0] (G, F, I, J) b post px ↔ (ip_isO G s0 1 = true ∧ ip_WP 44 125 [some (.ref x0), some (.int x1), some (.int x2), some (.int x3), some (.int x4)] [F s0 22] (G, F, I, J) b post px) := ip_s_getf f44_122 (by decide +kernel)
theorem f44_125 : ip_fetch 44 125 = some (.iload 4, 2) := by decide +kernel
theorem s44_125 {x0 : Nat} {x1 : Int32} {x2 : Int32} {x3 : Int32} {x4 : Int32} {s0 : Nat} : ip_WP 44 125 [some (.ref x0), some (.int x1), some (.int x2), some (.int x3), some (.int x4)] [.ref s0] (G, F, I, J) b post px ↔ ip_WP 44 127 [some (.ref x0), some (.int x1), some (.int x2), some (.int x3), some (.int x4)] [.int x4, .ref s0] (G, F, I, J) b post px := ip_nx_iff ((ip_st_of f44_125).trans rfl)
theorem f44_127 : ip_fetch 44 127 = some (.iload_n 1, 1) := by decide +kernel
theorem s44_127 {x0 : Nat} {x1 : Int32} {x2 : Int32} {x3 : Int32} {x4 : Int32} {s0 : Nat} {s1 : Int32} : ip_WP 44 127 [some (.ref x0), some (.int x1), some (.int x2), some (.int x3), some (.int x4)] [.int s1, .ref s0] (G, F, I, J) b post px ↔ ip_WP 44 128 [some (.ref x0), some (.int x1), some (.int x2), some (.int x3), some (.int x4)] [.int x1, .int s1, .ref s0] (G, F, I, J) b post px := ip_nx_iff ((ip_st_of f44_127).trans rfl)
theorem f44_128 : ip_fetch 44 128 = some (.iastore, 1) := by decide +kernel
theorem s44_128 {x0 : Nat} {x1 : Int32} {x2 : Int32} {x3 : Int32} {x4 : Int32} {s0 : Nat} {s1 : Int32} {s2 : Int32} : ip_WP 44 128 [some (.ref x0), some (.int x1), some (.int x2), some (.int x3), some (.int x4)] [.int s2, .int s1, .ref s0] (G, F, I, J) b post px ↔ (ip_inA G s0 0 s1 = true ∧ ip_WP 44 129 [some (.ref x0), some (.int x1), some (.int x2), some (.int x3), some (.int x4)] [] (G, F, ip_up I s0 s1.toNatClampNeg s2, J) b post px) := ip_ck_iff ((ip_st_of f44_128).trans rfl) ip_nx_iff
theorem f44_129 : ip_fetch 44 129 = some (.aload_n 0, 1) := by decide +kernel
theorem s44_129 {x0 : Nat} {x1 : Int32} {x2 : Int32} {x3 : Int32} {x4 : Int32} : ip_WP 44 129 [some (.ref x0), some (.int x1), some (.int x2), some (.int x3), some (.int x4)] [] (G, F, I, J) b post px ↔ ip_WP 44 130 [some (.ref x0), some (.int x1), some (.int x2), some (.int x3), some (.int x4)] [.ref x0] (G, F, I, J) b post px := ip_nx_iff ((ip_st_of f44_129).trans rfl)
theorem f44_130 : ip_fetch 44 130 = some (.invokevirtual 164, 3) := by decide +kernel
set_option maxRecDepth 100000 in
theorem s44_130 {x0 : Nat} {x1 : Int32} {x2 : Int32} {x3 : Int32} {x4 : Int32} {s0 : Nat} : ip_WP 44 130 [some (.ref x0), some (.int x1), some (.int x2), some (.int x3), some (.int x4)] [.ref s0] (G, F, I, J) b post px ↔ (ip_isO G s0 1 = true ∧ ip_WP 35 0 [some (.ref s0)] [] (G, F, I, J) (0, 0) (fun r h' => ip_WP 44 133 [some (.ref x0), some (.int x1), some (.int x2), some (.int x3), some (.int x4)] (r.toList ++ []) h' b post px) (fun _ _ => False)) := ip_ck_iff (x := ip_cl 35 [some (.ref s0)] [] (0, 0) b) ((ip_st_of f44_130).trans rfl) (ip_cl_iff)
theorem f44_133 : ip_fetch 44 133 = some (.istore_n 2, 1) := by decide +kernel
theorem s44_133 {x0 : Nat} {x1 : Int32} {x2 : Int32} {x3 : Int32} {x4 : Int32} {s0 : Int32} : ip_WP 44 133 [some (.ref x0), some (.int x1), some (.int x2), some (.int x3), some (.int x4)] [.int s0] (G, F, I, J) b post px ↔ ip_WP 44 134 [some (.ref x0), some (.int x1), some (.int s0), some (.int x3), some (.int x4)] [] (G, F, I, J) b post px := ip_nx_iff ((ip_st_of f44_133).trans rfl)
theorem f44_134 : ip_fetch 44 134 = some (.goto (-102), 3) := by decide +kernel
theorem s44_134 {x0 : Nat} {x1 : Int32} {x2 : Int32} {x3 : Int32} {x4 : Int32} : ip_WP 44 134 [some (.ref x0), some (.int x1), some (.int x2), some (.int x3), some (.int x4)] [] (G, F, I, J) b post px ↔ ip_WP 44 32 [some (.ref x0), some (.int x1), some (.int x2), some (.int x3), some (.int x4)] [] (G, F, I, J) b post px := ip_nx_iff ((ip_st_of f44_134).trans rfl)
theorem f44_137 : ip_fetch 44 137 = some (.return_, 1) := by decide +kernel
theorem s44_137 {x0 : Nat} {x1 : Int32} {x2 : Int32} {x3 : Option Value} {x4 : Option Value} : ip_WP 44 137 [some (.ref x0), some (.int x1), some (.int x2), x3, x4] [] (G, F, I, J) b post px ↔ post none (G, F, I, J) := ip_rt_iff ((ip_st_of f44_137).trans rfl)
theorem f45_0 : ip_fetch 45 0 = some (.aload_n 0, 1) := by decide +kernel
theorem s45_0 {x0 : Nat} {x1 : Option Value} {x2 : Option Value} : ip_WP 45 0 [some (.ref x0), x1, x2] [] (G, F, I, J) b post px ↔ ip_WP 45 1 [some (.ref x0), x1, x2] [.ref x0] (G, F, I, J) b post px := ip_nx_iff ((ip_st_of f45_0).trans rfl)
theorem f45_1 : ip_fetch 45 1 = some (.iconst 0, 1) := by decide +kernel
theorem s45_1 {x0 : Nat} {x1 : Option Value} {x2 : Option Value} {s0 : Nat} : ip_WP 45 1 [some (.ref x0), x1, x2] [.ref s0] (G, F, I, J) b post px ↔ ip_WP 45 2 [some (.ref x0), x1, x2] [.int 0, .ref s0] (G, F, I, J) b post px := ip_s_iconst f45_1 (by decide)
theorem f45_2 : ip_fetch 45 2 = some (.invokevirtual 175, 3) := by decide +kernel
set_option maxRecDepth 100000 in
theorem s45_2 {x0 : Nat} {x1 : Option Value} {x2 : Option Value} {s0 : Nat} {s1 : Int32} : ip_WP 45 2 [some (.ref x0), x1, x2] [.int s1, .ref s0] (G, F, I, J) b post px ↔ (ip_isO G s0 1 = true ∧ ip_WP 41 0 [some (.ref s0), some (.int s1), none] [] (G, F, I, J) (0, 0) (fun r h' => ip_WP 45 5 [some (.ref x0), x1, x2] (r.toList ++ []) h' b post px) (fun _ _ => False)) := ip_ck_iff (x := ip_cl 41 [some (.ref s0), some (.int s1), none] [] (0, 0) b) ((ip_st_of f45_2).trans rfl) (ip_cl_iff)
theorem f45_5 : ip_fetch 45 5 = some (.istore_n 1, 1) := by decide +kernel
theorem s45_5 {x0 : Nat} {x1 : Option Value} {x2 : Option Value} {s0 : Int32} : ip_WP 45 5 [some (.ref x0), x1, x2] [.int s0] (G, F, I, J) b post px ↔ ip_WP 45 6 [some (.ref x0), some (.int s0), x2] [] (G, F, I, J) b post px := ip_nx_iff ((ip_st_of f45_5).trans rfl)
theorem f45_6 : ip_fetch 45 6 = some (.aload_n 0, 1) := by decide +kernel
theorem s45_6 {x0 : Nat} {x1 : Int32} {x2 : Option Value} : ip_WP 45 6 [some (.ref x0), some (.int x1), x2] [] (G, F, I, J) b post px ↔ ip_WP 45 7 [some (.ref x0), some (.int x1), x2] [.ref x0] (G, F, I, J) b post px := ip_nx_iff ((ip_st_of f45_6).trans rfl)
theorem f45_7 : ip_fetch 45 7 = some (.aload_n 0, 1) := by decide +kernel
theorem s45_7 {x0 : Nat} {x1 : Int32} {x2 : Option Value} {s0 : Nat} : ip_WP 45 7 [some (.ref x0), some (.int x1), x2] [.ref s0] (G, F, I, J) b post px ↔ ip_WP 45 8 [some (.ref x0), some (.int x1), x2] [.ref x0, .ref s0] (G, F, I, J) b post px := ip_nx_iff ((ip_st_of f45_7).trans rfl)
theorem f45_8 : ip_fetch 45 8 = some (.getfield 101, 3) := by decide +kernel
set_option maxRecDepth 100000 in
theorem s45_8 {x0 : Nat} {x1 : Int32} {x2 : Option Value} {s0 : Nat} {s1 : Nat} : ip_WP 45 8 [some (.ref x0), some (.int x1), x2] [.ref s1, .ref s0] (G, F, I, J) b post px ↔ (ip_isO G s1 1 = true ∧ ip_WP 45 11 [some (.ref x0), some (.int x1), x2] [F s1 6, .ref s0] (G, F, I, J) b post px) := ip_s_getf f45_8 (by decide +kernel)
theorem f45_11 : ip_fetch 45 11 = some (.ifCond .ne 16, 3) := by decide +kernel
theorem s45_11 {x0 : Nat} {x1 : Int32} {x2 : Option Value} {s0 : Nat} {s1 : Int32} : ip_WP 45 11 [some (.ref x0), some (.int x1), x2] [.int s1, .ref s0] (G, F, I, J) b post px ↔ if ¬ s1 = 0 then ip_WP 45 27 [some (.ref x0), some (.int x1), x2] [.ref s0] (G, F, I, J) b post px else ip_WP 45 14 [some (.ref x0), some (.int x1), x2] [.ref s0] (G, F, I, J) b post px := ip_s_if_ne f45_11 rfl
theorem f45_14 : ip_fetch 45 14 = some (.aload_n 0, 1) := by decide +kernel
theorem s45_14 {x0 : Nat} {x1 : Int32} {x2 : Option Value} {s0 : Nat} : ip_WP 45 14 [some (.ref x0), some (.int x1), x2] [.ref s0] (G, F, I, J) b post px ↔ ip_WP 45 15 [some (.ref x0), some (.int x1), x2] [.ref x0, .ref s0] (G, F, I, J) b post px := ip_nx_iff ((ip_st_of f45_14).trans rfl)
theorem f45_15 : ip_fetch 45 15 = some (.getfield 43, 3) := by decide +kernel
set_option maxRecDepth 100000 in
theorem s45_15 {x0 : Nat} {x1 : Int32} {x2 : Option Value} {s0 : Nat} {s1 : Nat} : ip_WP 45 15 [some (.ref x0), some (.int x1), x2] [.ref s1, .ref s0] (G, F, I, J) b post px ↔ (ip_isO G s1 1 = true ∧ ip_WP 45 18 [some (.ref x0), some (.int x1), x2] [F s1 19, .ref s0] (G, F, I, J) b post px) := ip_s_getf f45_15 (by decide +kernel)
theorem f45_18 : ip_fetch 45 18 = some (.iload_n 1, 1) := by decide +kernel
theorem s45_18 {x0 : Nat} {x1 : Int32} {x2 : Option Value} {s0 : Nat} {s1 : Nat} : ip_WP 45 18 [some (.ref x0), some (.int x1), x2] [.ref s1, .ref s0] (G, F, I, J) b post px ↔ ip_WP 45 19 [some (.ref x0), some (.int x1), x2] [.int x1, .ref s1, .ref s0] (G, F, I, J) b post px := ip_nx_iff ((ip_st_of f45_18).trans rfl)
theorem f45_19 : ip_fetch 45 19 = some (.baload, 1) := by decide +kernel
theorem s45_19 {x0 : Nat} {x1 : Int32} {x2 : Option Value} {s0 : Nat} {s1 : Nat} {s2 : Int32} : ip_WP 45 19 [some (.ref x0), some (.int x1), x2] [.int s2, .ref s1, .ref s0] (G, F, I, J) b post px ↔ ((ip_inA G s1 1 s2 || ip_inA G s1 3 s2) = true ∧ ip_WP 45 20 [some (.ref x0), some (.int x1), x2] [.int (I s1 s2.toNatClampNeg), .ref s0] (G, F, I, J) b post px) := ip_ck_iff ((ip_st_of f45_19).trans rfl) ip_nx_iff
theorem f45_20 : ip_fetch 45 20 = some (.ifCond .eq 7, 3) := by decide +kernel
theorem s45_20 {x0 : Nat} {x1 : Int32} {x2 : Option Value} {s0 : Nat} {s1 : Int32} : ip_WP 45 20 [some (.ref x0), some (.int x1), x2] [.int s1, .ref s0] (G, F, I, J) b post px ↔ if s1 = 0 then ip_WP 45 27 [some (.ref x0), some (.int x1), x2] [.ref s0] (G, F, I, J) b post px else ip_WP 45 23 [some (.ref x0), some (.int x1), x2] [.ref s0] (G, F, I, J) b post px := ip_s_if_eq f45_20 rfl
theorem f45_23 : ip_fetch 45 23 = some (.iconst 1, 1) := by decide +kernel
theorem s45_23 {x0 : Nat} {x1 : Int32} {x2 : Option Value} {s0 : Nat} : ip_WP 45 23 [some (.ref x0), some (.int x1), x2] [.ref s0] (G, F, I, J) b post px ↔ ip_WP 45 24 [some (.ref x0), some (.int x1), x2] [.int 1, .ref s0] (G, F, I, J) b post px := ip_s_iconst f45_23 (by decide)
theorem f45_24 : ip_fetch 45 24 = some (.goto 4, 3) := by decide +kernel
theorem s45_24 {x0 : Nat} {x1 : Int32} {x2 : Option Value} {s0 : Nat} {s1 : Int32} : ip_WP 45 24 [some (.ref x0), some (.int x1), x2] [.int s1, .ref s0] (G, F, I, J) b post px ↔ ip_WP 45 28 [some (.ref x0), some (.int x1), x2] [.int s1, .ref s0] (G, F, I, J) b post px := ip_nx_iff ((ip_st_of f45_24).trans rfl)
theorem f45_27 : ip_fetch 45 27 = some (.iconst 0, 1) := by decide +kernel
theorem s45_27 {x0 : Nat} {x1 : Int32} {x2 : Option Value} {s0 : Nat} : ip_WP 45 27 [some (.ref x0), some (.int x1), x2] [.ref s0] (G, F, I, J) b post px ↔ ip_WP 45 28 [some (.ref x0), some (.int x1), x2] [.int 0, .ref s0] (G, F, I, J) b post px := ip_s_iconst f45_27 (by decide)
theorem f45_28 : ip_fetch 45 28 = some (.invokevirtual 171, 3) := by decide +kernel
set_option maxRecDepth 100000 in
theorem s45_28 {x0 : Nat} {x1 : Int32} {x2 : Option Value} {s0 : Nat} {s1 : Int32} : ip_WP 45 28 [some (.ref x0), some (.int x1), x2] [.int s1, .ref s0] (G, F, I, J) b post px ↔ (ip_isO G s0 1 = true ∧ ip_WP 42 0 [some (.ref s0), some (.int s1)] [] (G, F, I, J) (0, 0) (fun r h' => ip_WP 45 31 [some (.ref x0), some (.int x1), x2] (r.toList ++ []) h' b post px) (fun _ _ => False)) := ip_ck_iff (x := ip_cl 42 [some (.ref s0), some (.int s1)] [] (0, 0) b) ((ip_st_of f45_28).trans rfl) (ip_cl_iff)
theorem f45_31 : ip_fetch 45 31 = some (.pop, 1) := by decide +kernel
theorem s45_31 {x0 : Nat} {x1 : Int32} {x2 : Option Value} {s0 : Int32} : ip_WP 45 31 [some (.ref x0), some (.int x1), x2] [.int s0] (G, F, I, J) b post px ↔ ip_WP 45 32 [some (.ref x0), some (.int x1), x2] [] (G, F, I, J) b post px := ip_nx_iff ((ip_st_of f45_31).trans rfl)
theorem f45_32 : ip_fetch 45 32 = some (.aload_n 0, 1) := by decide +kernel
theorem s45_32 {x0 : Nat} {x1 : Int32} {x2 : Option Value} : ip_WP 45 32 [some (.ref x0), some (.int x1), x2] [] (G, F, I, J) b post px ↔ ip_WP 45 33 [some (.ref x0), some (.int x1), x2] [.ref x0] (G, F, I, J) b post px := ip_nx_iff ((ip_st_of f45_32).trans rfl)
theorem f45_33 : ip_fetch 45 33 = some (.bipush 61, 2) := by decide +kernel
theorem s45_33 {x0 : Nat} {x1 : Int32} {x2 : Option Value} {s0 : Nat} : ip_WP 45 33 [some (.ref x0), some (.int x1), x2] [.ref s0] (G, F, I, J) b post px ↔ ip_WP 45 35 [some (.ref x0), some (.int x1), x2] [.int 61, .ref s0] (G, F, I, J) b post px := ip_s_bipush f45_33 (by decide)
theorem f45_35 : ip_fetch 45 35 = some (.invokevirtual 178, 3) := by decide +kernel
set_option maxRecDepth 100000 in
theorem s45_35 {x0 : Nat} {x1 : Int32} {x2 : Option Value} {s0 : Nat} {s1 : Int32} : ip_WP 45 35 [some (.ref x0), some (.int x1), x2] [.int s1, .ref s0] (G, F, I, J) b post px ↔ (ip_isO G s0 1 = true ∧ ip_WP 34 0 [some (.ref s0), some (.int s1)] [] (G, F, I, J) (0, 0) (fun r h' => ip_WP 45 38 [some (.ref x0), some (.int x1), x2] (r.toList ++ []) h' b post px) (fun _ _ => False)) := ip_ck_iff (x := ip_cl 34 [some (.ref s0), some (.int s1)] [] (0, 0) b) ((ip_st_of f45_35).trans rfl) (ip_cl_iff)
theorem f45_38 : ip_fetch 45 38 = some (.aload_n 0, 1) := by decide +kernel
theorem s45_38 {x0 : Nat} {x1 : Int32} {x2 : Option Value} : ip_WP 45 38 [some (.ref x0), some (.int x1), x2] [] (G, F, I, J) b post px ↔ ip_WP 45 39 [some (.ref x0), some (.int x1), x2] [.ref x0] (G, F, I, J) b post px := ip_nx_iff ((ip_st_of f45_38).trans rfl)
theorem f45_39 : ip_fetch 45 39 = some (.bipush 99, 2) := by decide +kernel
theorem s45_39 {x0 : Nat} {x1 : Int32} {x2 : Option Value} {s0 : Nat} : ip_WP 45 39 [some (.ref x0), some (.int x1), x2] [.ref s0] (G, F, I, J) b post px ↔ ip_WP 45 41 [some (.ref x0), some (.int x1), x2] [.int 99, .ref s0] (G, F, I, J) b post px := ip_s_bipush f45_39 (by decide)
theorem f45_41 : ip_fetch 45 41 = some (.invokevirtual 182, 3) := by decide +kernel
set_option maxRecDepth 100000 in
theorem s45_41 {x0 : Nat} {x1 : Int32} {x2 : Option Value} {s0 : Nat} {s1 : Int32} : ip_WP 45 41 [some (.ref x0), some (.int x1), x2] [.int s1, .ref s0] (G, F, I, J) b post px ↔ (ip_isO G s0 1 = true ∧ ip_WP 36 0 [some (.ref s0), some (.int s1), none] [] (G, F, I, J) (0, 0) (fun r h' => ip_WP 45 44 [some (.ref x0), some (.int x1), x2] (r.toList ++ []) h' b post px) (fun _ _ => False)) := ip_ck_iff (x := ip_cl 36 [some (.ref s0), some (.int s1), none] [] (0, 0) b) ((ip_st_of f45_41).trans rfl) (ip_cl_iff)
theorem f45_44 : ip_fetch 45 44 = some (.istore_n 2, 1) := by decide +kernel
theorem s45_44 {x0 : Nat} {x1 : Int32} {x2 : Option Value} {s0 : Int32} : ip_WP 45 44 [some (.ref x0), some (.int x1), x2] [.int s0] (G, F, I, J) b post px ↔ ip_WP 45 45 [some (.ref x0), some (.int x1), some (.int s0)] [] (G, F, I, J) b post px := ip_nx_iff ((ip_st_of f45_44).trans rfl)
theorem f45_45 : ip_fetch 45 45 = some (.aload_n 0, 1) := by decide +kernel
theorem s45_45 {x0 : Nat} {x1 : Int32} {x2 : Int32} : ip_WP 45 45 [some (.ref x0), some (.int x1), some (.int x2)] [] (G, F, I, J) b post px ↔ ip_WP 45 46 [some (.ref x0), some (.int x1), some (.int x2)] [.ref x0] (G, F, I, J) b post px := ip_nx_iff ((ip_st_of f45_45).trans rfl)
theorem f45_46 : ip_fetch 45 46 = some (.getfield 101, 3) := by decide +kernel
set_option maxRecDepth 100000 in
theorem s45_46 {x0 : Nat} {x1 : Int32} {x2 : Int32} {s0 : Nat} : ip_WP 45 46 [some (.ref x0), some (.int x1), some (.int x2)] [.ref s0] (G, F, I, J) b post px ↔ (ip_isO G s0 1 = true ∧ ip_WP 45 49 [some (.ref x0), some (.int x1), some (.int x2)] [F s0 6] (G, F, I, J) b post px) := ip_s_getf f45_46 (by decide +kernel)
theorem f45_49 : ip_fetch 45 49 = some (.ifCond .le 4, 3) := by decide +kernel
theorem s45_49 {x0 : Nat} {x1 : Int32} {x2 : Int32} {s0 : Int32} : ip_WP 45 49 [some (.ref x0), some (.int x1), some (.int x2)] [.int s0] (G, F, I, J) b post px ↔ if s0 ≤ 0 then ip_WP 45 53 [some (.ref x0), some (.int x1), some (.int x2)] [] (G, F, I, J) b post px else ip_WP 45 52 [some (.ref x0), some (.int x1), some (.int x2)] [] (G, F, I, J) b post px := ip_s_if_le f45_49 rfl
theorem f45_52 : ip_fetch 45 52 = some (.return_, 1) := by decide +kernel
theorem s45_52 {x0 : Nat} {x1 : Int32} {x2 : Int32} : ip_WP 45 52 [some (.ref x0), some (.int x1), some (.int x2)] [] (G, F, I, J) b post px ↔ post none (G, F, I, J) := ip_rt_iff ((ip_st_of f45_52).trans rfl)
theorem f45_53 : ip_fetch 45 53 = some (.aload_n 0, 1) := by decide +kernel
theorem s45_53 {x0 : Nat} {x1 : Int32} {x2 : Int32} : ip_WP 45 53 [some (.ref x0), some (.int x1), some (.int x2)] [] (G, F, I, J) b post px ↔ ip_WP 45 54 [some (.ref x0), some (.int x1), some (.int x2)] [.ref x0] (G, F, I, J) b post px := ip_nx_iff ((ip_st_of f45_53).trans rfl)
theorem f45_54 : ip_fetch 45 54 = some (.getfield 40, 3) := by decide +kernel
set_option maxRecDepth 100000 in
theorem s45_54 {x0 : Nat} {x1 : Int32} {x2 : Int32} {s0 : Nat} : ip_WP 45 54 [some (.ref x0), some (.int x1), some (.int x2)] [.ref s0] (G, F, I, J) b post px ↔ (ip_isO G s0 1 = true ∧ ip_WP 45 57 [some (.ref x0), some (.int x1), some (.int x2)] [F s0 18] (G, F, I, J) b post px) := ip_s_getf f45_54 (by decide +kernel)
theorem f45_57 : ip_fetch 45 57 = some (.iload_n 1, 1) := by decide +kernel
theorem s45_57 {x0 : Nat} {x1 : Int32} {x2 : Int32} {s0 : Nat} : ip_WP 45 57 [some (.ref x0), some (.int x1), some (.int x2)] [.ref s0] (G, F, I, J) b post px ↔ ip_WP 45 58 [some (.ref x0), some (.int x1), some (.int x2)] [.int x1, .ref s0] (G, F, I, J) b post px := ip_nx_iff ((ip_st_of f45_57).trans rfl)
theorem f45_58 : ip_fetch 45 58 = some (.iload_n 2, 1) := by decide +kernel
theorem s45_58 {x0 : Nat} {x1 : Int32} {x2 : Int32} {s0 : Nat} {s1 : Int32} : ip_WP 45 58 [some (.ref x0), some (.int x1), some (.int x2)] [.int s1, .ref s0] (G, F, I, J) b post px ↔ ip_WP 45 59 [some (.ref x0), some (.int x1), some (.int x2)] [.int x2, .int s1, .ref s0] (G, F, I, J) b post px := ip_nx_iff ((ip_st_of f45_58).trans rfl)
theorem f45_59 : ip_fetch 45 59 = some (.iastore, 1) := by decide +kernel
theorem s45_59 {x0 : Nat} {x1 : Int32} {x2 : Int32} {s0 : Nat} {s1 : Int32} {s2 : Int32} : ip_WP 45 59 [some (.ref x0), some (.int x1), some (.int x2)] [.int s2, .int s1, .ref s0] (G, F, I, J) b post px ↔ (ip_inA G s0 0 s1 = true ∧ ip_WP 45 60 [some (.ref x0), some (.int x1), some (.int x2)] [] (G, F, ip_up I s0 s1.toNatClampNeg s2, J) b post px) := ip_ck_iff ((ip_st_of f45_59).trans rfl) ip_nx_iff
theorem f45_60 : ip_fetch 45 60 = some (.aload_n 0, 1) := by decide +kernel
theorem s45_60 {x0 : Nat} {x1 : Int32} {x2 : Int32} : ip_WP 45 60 [some (.ref x0), some (.int x1), some (.int x2)] [] (G, F, I, J) b post px ↔ ip_WP 45 61 [some (.ref x0), some (.int x1), some (.int x2)] [.ref x0] (G, F, I, J) b post px := ip_nx_iff ((ip_st_of f45_60).trans rfl)
theorem f45_61 : ip_fetch 45 61 = some (.getfield 43, 3) := by decide +kernel
set_option maxRecDepth 100000 in
theorem s45_61 {x0 : Nat} {x1 : Int32} {x2 : Int32} {s0 : Nat} : ip_WP 45 61 [some (.ref x0), some (.int x1), some (.int x2)] [.ref s0] (G, F, I, J) b post px ↔ (ip_isO G s0 1 = true ∧ ip_WP 45 64 [some (.ref x0), some (.int x1), some (.int x2)] [F s0 19] (G, F, I, J) b post px) := ip_s_getf f45_61 (by decide +kernel)
theorem f45_64 : ip_fetch 45 64 = some (.iload_n 1, 1) := by decide +kernel
theorem s45_64 {x0 : Nat} {x1 : Int32} {x2 : Int32} {s0 : Nat} : ip_WP 45 64 [some (.ref x0), some (.int x1), some (.int x2)] [.ref s0] (G, F, I, J) b post px ↔ ip_WP 45 65 [some (.ref x0), some (.int x1), some (.int x2)] [.int x1, .ref s0] (G, F, I, J) b post px := ip_nx_iff ((ip_st_of f45_64).trans rfl)
theorem f45_65 : ip_fetch 45 65 = some (.iconst 1, 1) := by decide +kernel
theorem s45_65 {x0 : Nat} {x1 : Int32} {x2 : Int32} {s0 : Nat} {s1 : Int32} : ip_WP 45 65 [some (.ref x0), some (.int x1), some (.int x2)] [.int s1, .ref s0] (G, F, I, J) b post px ↔ ip_WP 45 66 [some (.ref x0), some (.int x1), some (.int x2)] [.int 1, .int s1, .ref s0] (G, F, I, J) b post px := ip_s_iconst f45_65 (by decide)
theorem f45_66 : ip_fetch 45 66 = some (.bastore, 1) := by decide +kernel
theorem s45_66 {x0 : Nat} {x1 : Int32} {x2 : Int32} {s0 : Nat} {s1 : Int32} {s2 : Int32} : ip_WP 45 66 [some (.ref x0), some (.int x1), some (.int x2)] [.int s2, .int s1, .ref s0] (G, F, I, J) b post px ↔ if ip_inA G s0 1 s1 = true then ip_WP 45 67 [some (.ref x0), some (.int x1), some (.int x2)] [] (G, F, ip_up I s0 s1.toNatClampNeg (vp_nar .byte s2), J) b post px else (ip_inA G s0 3 s1 = true ∧ ip_WP 45 67 [some (.ref x0), some (.int x1), some (.int x2)] [] (G, F, ip_up I s0 s1.toNatClampNeg (vp_nar .boolean s2), J) b post px) := ip_if_iff ((ip_st_of f45_66).trans rfl) ip_nx_iff (fun hs => ip_ck_iff hs ip_nx_iff)
theorem f45_67 : ip_fetch 45 67 = some (.return_, 1) := by decide +kernel
theorem s45_67 {x0 : Nat} {x1 : Int32} {x2 : Int32} : ip_WP 45 67 [some (.ref x0), some (.int x1), some (.int x2)] [] (G, F, I, J) b post px ↔ post none (G, F, I, J) := ip_rt_iff ((ip_st_of f45_67).trans rfl)
theorem f46_0 : ip_fetch 46 0 = some (.aload_n 0, 1) := by decide +kernel
theorem s46_0 {x0 : Nat} {x1 : Option Value} {x2 : Option Value} : ip_WP 46 0 [some (.ref x0), x1, x2] [] (G, F, I, J) b post px ↔ ip_WP 46 1 [some (.ref x0), x1, x2] [.ref x0] (G, F, I, J) b post px := ip_nx_iff ((ip_st_of f46_0).trans rfl)
theorem f46_1 : ip_fetch 46 1 = some (.iconst 0, 1) := by decide +kernel
theorem s46_1 {x0 : Nat} {x1 : Option Value} {x2 : Option Value} {s0 : Nat} : ip_WP 46 1 [some (.ref x0), x1, x2] [.ref s0] (G, F, I, J) b post px ↔ ip_WP 46 2 [some (.ref x0), x1, x2] [.int 0, .ref s0] (G, F, I, J) b post px := ip_s_iconst f46_1 (by decide)
theorem f46_2 : ip_fetch 46 2 = some (.invokevirtual 175, 3) := by decide +kernel
set_option maxRecDepth 100000 in
theorem s46_2 {x0 : Nat} {x1 : Option Value} {x2 : Option Value} {s0 : Nat} {s1 : Int32} : ip_WP 46 2 [some (.ref x0), x1, x2] [.int s1, .ref s0] (G, F, I, J) b post px ↔ (ip_isO G s0 1 = true ∧ ip_WP 41 0 [some (.ref s0), some (.int s1), none] [] (G, F, I, J) (0, 0) (fun r h' => ip_WP 46 5 [some (.ref x0), x1, x2] (r.toList ++ []) h' b post px) (fun _ _ => False)) := ip_ck_iff (x := ip_cl 41 [some (.ref s0), some (.int s1), none] [] (0, 0) b) ((ip_st_of f46_2).trans rfl) (ip_cl_iff)
theorem f46_5 : ip_fetch 46 5 = some (.istore_n 1, 1) := by decide +kernel
theorem s46_5 {x0 : Nat} {x1 : Option Value} {x2 : Option Value} {s0 : Int32} : ip_WP 46 5 [some (.ref x0), x1, x2] [.int s0] (G, F, I, J) b post px ↔ ip_WP 46 6 [some (.ref x0), some (.int s0), x2] [] (G, F, I, J) b post px := ip_nx_iff ((ip_st_of f46_5).trans rfl)
theorem f46_6 : ip_fetch 46 6 = some (.aload_n 0, 1) := by decide +kernel
theorem s46_6 {x0 : Nat} {x1 : Int32} {x2 : Option Value} : ip_WP 46 6 [some (.ref x0), some (.int x1), x2] [] (G, F, I, J) b post px ↔ ip_WP 46 7 [some (.ref x0), some (.int x1), x2] [.ref x0] (G, F, I, J) b post px := ip_nx_iff ((ip_st_of f46_6).trans rfl)
theorem f46_7 : ip_fetch 46 7 = some (.aload_n 0, 1) := by decide +kernel
theorem s46_7 {x0 : Nat} {x1 : Int32} {x2 : Option Value} {s0 : Nat} : ip_WP 46 7 [some (.ref x0), some (.int x1), x2] [.ref s0] (G, F, I, J) b post px ↔ ip_WP 46 8 [some (.ref x0), some (.int x1), x2] [.ref x0, .ref s0] (G, F, I, J) b post px := ip_nx_iff ((ip_st_of f46_7).trans rfl)
theorem f46_8 : ip_fetch 46 8 = some (.getfield 101, 3) := by decide +kernel
set_option maxRecDepth 100000 in
theorem s46_8 {x0 : Nat} {x1 : Int32} {x2 : Option Value} {s0 : Nat} {s1 : Nat} : ip_WP 46 8 [some (.ref x0), some (.int x1), x2] [.ref s1, .ref s0] (G, F, I, J) b post px ↔ (ip_isO G s1 1 = true ∧ ip_WP 46 11 [some (.ref x0), some (.int x1), x2] [F s1 6, .ref s0] (G, F, I, J) b post px) := ip_s_getf f46_8 (by decide +kernel)
theorem f46_11 : ip_fetch 46 11 = some (.ifCond .ne 16, 3) := by decide +kernel
theorem s46_11 {x0 : Nat} {x1 : Int32} {x2 : Option Value} {s0 : Nat} {s1 : Int32} : ip_WP 46 11 [some (.ref x0), some (.int x1), x2] [.int s1, .ref s0] (G, F, I, J) b post px ↔ if ¬ s1 = 0 then ip_WP 46 27 [some (.ref x0), some (.int x1), x2] [.ref s0] (G, F, I, J) b post px else ip_WP 46 14 [some (.ref x0), some (.int x1), x2] [.ref s0] (G, F, I, J) b post px := ip_s_if_ne f46_11 rfl
theorem f46_14 : ip_fetch 46 14 = some (.aload_n 0, 1) := by decide +kernel
theorem s46_14 {x0 : Nat} {x1 : Int32} {x2 : Option Value} {s0 : Nat} : ip_WP 46 14 [some (.ref x0), some (.int x1), x2] [.ref s0] (G, F, I, J) b post px ↔ ip_WP 46 15 [some (.ref x0), some (.int x1), x2] [.ref x0, .ref s0] (G, F, I, J) b post px := ip_nx_iff ((ip_st_of f46_14).trans rfl)
theorem f46_15 : ip_fetch 46 15 = some (.getfield 47, 3) := by decide +kernel
set_option maxRecDepth 100000 in
theorem s46_15 {x0 : Nat} {x1 : Int32} {x2 : Option Value} {s0 : Nat} {s1 : Nat} : ip_WP 46 15 [some (.ref x0), some (.int x1), x2] [.ref s1, .ref s0] (G, F, I, J) b post px ↔ (ip_isO G s1 1 = true ∧ ip_WP 46 18 [some (.ref x0), some (.int x1), x2] [F s1 20, .ref s0] (G, F, I, J) b post px) := ip_s_getf f46_15 (by decide +kernel)
theorem f46_18 : ip_fetch 46 18 = some (.iload_n 1, 1) := by decide +kernel
theorem s46_18 {x0 : Nat} {x1 : Int32} {x2 : Option Value} {s0 : Nat} {s1 : Nat} : ip_WP 46 18 [some (.ref x0), some (.int x1), x2] [.ref s1, .ref s0] (G, F, I, J) b post px ↔ ip_WP 46 19 [some (.ref x0), some (.int x1), x2] [.int x1, .ref s1, .ref s0] (G, F, I, J) b post px := ip_nx_iff ((ip_st_of f46_18).trans rfl)
theorem f46_19 : ip_fetch 46 19 = some (.iaload, 1) := by decide +kernel
theorem s46_19 {x0 : Nat} {x1 : Int32} {x2 : Option Value} {s0 : Nat} {s1 : Nat} {s2 : Int32} : ip_WP 46 19 [some (.ref x0), some (.int x1), x2] [.int s2, .ref s1, .ref s0] (G, F, I, J) b post px ↔ (ip_inA G s1 0 s2 = true ∧ ip_WP 46 20 [some (.ref x0), some (.int x1), x2] [.int (I s1 s2.toNatClampNeg), .ref s0] (G, F, I, J) b post px) := ip_ck_iff ((ip_st_of f46_19).trans rfl) ip_nx_iff
theorem f46_20 : ip_fetch 46 20 = some (.ifCond .lt 7, 3) := by decide +kernel
theorem s46_20 {x0 : Nat} {x1 : Int32} {x2 : Option Value} {s0 : Nat} {s1 : Int32} : ip_WP 46 20 [some (.ref x0), some (.int x1), x2] [.int s1, .ref s0] (G, F, I, J) b post px ↔ if s1 < 0 then ip_WP 46 27 [some (.ref x0), some (.int x1), x2] [.ref s0] (G, F, I, J) b post px else ip_WP 46 23 [some (.ref x0), some (.int x1), x2] [.ref s0] (G, F, I, J) b post px := ip_s_if_lt f46_20 rfl
theorem f46_23 : ip_fetch 46 23 = some (.iconst 1, 1) := by decide +kernel
theorem s46_23 {x0 : Nat} {x1 : Int32} {x2 : Option Value} {s0 : Nat} : ip_WP 46 23 [some (.ref x0), some (.int x1), x2] [.ref s0] (G, F, I, J) b post px ↔ ip_WP 46 24 [some (.ref x0), some (.int x1), x2] [.int 1, .ref s0] (G, F, I, J) b post px := ip_s_iconst f46_23 (by decide)
theorem f46_24 : ip_fetch 46 24 = some (.goto 4, 3) := by decide +kernel
theorem s46_24 {x0 : Nat} {x1 : Int32} {x2 : Option Value} {s0 : Nat} {s1 : Int32} : ip_WP 46 24 [some (.ref x0), some (.int x1), x2] [.int s1, .ref s0] (G, F, I, J) b post px ↔ ip_WP 46 28 [some (.ref x0), some (.int x1), x2] [.int s1, .ref s0] (G, F, I, J) b post px := ip_nx_iff ((ip_st_of f46_24).trans rfl)
theorem f46_27 : ip_fetch 46 27 = some (.iconst 0, 1) := by decide +kernel
theorem s46_27 {x0 : Nat} {x1 : Int32} {x2 : Option Value} {s0 : Nat} : ip_WP 46 27 [some (.ref x0), some (.int x1), x2] [.ref s0] (G, F, I, J) b post px ↔ ip_WP 46 28 [some (.ref x0), some (.int x1), x2] [.int 0, .ref s0] (G, F, I, J) b post px := ip_s_iconst f46_27 (by decide)
theorem f46_28 : ip_fetch 46 28 = some (.invokevirtual 171, 3) := by decide +kernel
set_option maxRecDepth 100000 in
theorem s46_28 {x0 : Nat} {x1 : Int32} {x2 : Option Value} {s0 : Nat} {s1 : Int32} : ip_WP 46 28 [some (.ref x0), some (.int x1), x2] [.int s1, .ref s0] (G, F, I, J) b post px ↔ (ip_isO G s0 1 = true ∧ ip_WP 42 0 [some (.ref s0), some (.int s1)] [] (G, F, I, J) (0, 0) (fun r h' => ip_WP 46 31 [some (.ref x0), some (.int x1), x2] (r.toList ++ []) h' b post px) (fun _ _ => False)) := ip_ck_iff (x := ip_cl 42 [some (.ref s0), some (.int s1)] [] (0, 0) b) ((ip_st_of f46_28).trans rfl) (ip_cl_iff)
theorem f46_31 : ip_fetch 46 31 = some (.pop, 1) := by decide +kernel
theorem s46_31 {x0 : Nat} {x1 : Int32} {x2 : Option Value} {s0 : Int32} : ip_WP 46 31 [some (.ref x0), some (.int x1), x2] [.int s0] (G, F, I, J) b post px ↔ ip_WP 46 32 [some (.ref x0), some (.int x1), x2] [] (G, F, I, J) b post px := ip_nx_iff ((ip_st_of f46_31).trans rfl)
theorem f46_32 : ip_fetch 46 32 = some (.aload_n 0, 1) := by decide +kernel
theorem s46_32 {x0 : Nat} {x1 : Int32} {x2 : Option Value} : ip_WP 46 32 [some (.ref x0), some (.int x1), x2] [] (G, F, I, J) b post px ↔ ip_WP 46 33 [some (.ref x0), some (.int x1), x2] [.ref x0] (G, F, I, J) b post px := ip_nx_iff ((ip_st_of f46_32).trans rfl)
theorem f46_33 : ip_fetch 46 33 = some (.bipush 62, 2) := by decide +kernel
theorem s46_33 {x0 : Nat} {x1 : Int32} {x2 : Option Value} {s0 : Nat} : ip_WP 46 33 [some (.ref x0), some (.int x1), x2] [.ref s0] (G, F, I, J) b post px ↔ ip_WP 46 35 [some (.ref x0), some (.int x1), x2] [.int 62, .ref s0] (G, F, I, J) b post px := ip_s_bipush f46_33 (by decide)
theorem f46_35 : ip_fetch 46 35 = some (.invokevirtual 178, 3) := by decide +kernel
set_option maxRecDepth 100000 in
theorem s46_35 {x0 : Nat} {x1 : Int32} {x2 : Option Value} {s0 : Nat} {s1 : Int32} : ip_WP 46 35 [some (.ref x0), some (.int x1), x2] [.int s1, .ref s0] (G, F, I, J) b post px ↔ (ip_isO G s0 1 = true ∧ ip_WP 34 0 [some (.ref s0), some (.int s1)] [] (G, F, I, J) (0, 0) (fun r h' => ip_WP 46 38 [some (.ref x0), some (.int x1), x2] (r.toList ++ []) h' b post px) (fun _ _ => False)) := ip_ck_iff (x := ip_cl 34 [some (.ref s0), some (.int s1)] [] (0, 0) b) ((ip_st_of f46_35).trans rfl) (ip_cl_iff)
theorem f46_38 : ip_fetch 46 38 = some (.aload_n 0, 1) := by decide +kernel
theorem s46_38 {x0 : Nat} {x1 : Int32} {x2 : Option Value} : ip_WP 46 38 [some (.ref x0), some (.int x1), x2] [] (G, F, I, J) b post px ↔ ip_WP 46 39 [some (.ref x0), some (.int x1), x2] [.ref x0] (G, F, I, J) b post px := ip_nx_iff ((ip_st_of f46_38).trans rfl)
theorem f46_39 : ip_fetch 46 39 = some (.iconst 1, 1) := by decide +kernel
theorem s46_39 {x0 : Nat} {x1 : Int32} {x2 : Option Value} {s0 : Nat} : ip_WP 46 39 [some (.ref x0), some (.int x1), x2] [.ref s0] (G, F, I, J) b post px ↔ ip_WP 46 40 [some (.ref x0), some (.int x1), x2] [.int 1, .ref s0] (G, F, I, J) b post px := ip_s_iconst f46_39 (by decide)
theorem f46_40 : ip_fetch 46 40 = some (.invokevirtual 175, 3) := by decide +kernel
set_option maxRecDepth 100000 in
theorem s46_40 {x0 : Nat} {x1 : Int32} {x2 : Option Value} {s0 : Nat} {s1 : Int32} : ip_WP 46 40 [some (.ref x0), some (.int x1), x2] [.int s1, .ref s0] (G, F, I, J) b post px ↔ (ip_isO G s0 1 = true ∧ ip_WP 41 0 [some (.ref s0), some (.int s1), none] [] (G, F, I, J) (0, 0) (fun r h' => ip_WP 46 43 [some (.ref x0), some (.int x1), x2] (r.toList ++ []) h' b post px) (fun _ _ => False)) := ip_ck_iff (x := ip_cl 41 [some (.ref s0), some (.int s1), none] [] (0, 0) b) ((ip_st_of f46_40).trans rfl) (ip_cl_iff)
theorem f46_43 : ip_fetch 46 43 = some (.istore_n 2, 1) := by decide +kernel
theorem s46_43 {x0 : Nat} {x1 : Int32} {x2 : Option Value} {s0 : Int32} : ip_WP 46 43 [some (.ref x0), some (.int x1), x2] [.int s0] (G, F, I, J) b post px ↔ ip_WP 46 44 [some (.ref x0), some (.int x1), some (.int s0)] [] (G, F, I, J) b post px := ip_nx_iff ((ip_st_of f46_43).trans rfl)
theorem f46_44 : ip_fetch 46 44 = some (.aload_n 0, 1) := by decide +kernel
theorem s46_44 {x0 : Nat} {x1 : Int32} {x2 : Int32} : ip_WP 46 44 [some (.ref x0), some (.int x1), some (.int x2)] [] (G, F, I, J) b post px ↔ ip_WP 46 45 [some (.ref x0), some (.int x1), some (.int x2)] [.ref x0] (G, F, I, J) b post px := ip_nx_iff ((ip_st_of f46_44).trans rfl)
theorem f46_45 : ip_fetch 46 45 = some (.iconst 0, 1) := by decide +kernel
theorem s46_45 {x0 : Nat} {x1 : Int32} {x2 : Int32} {s0 : Nat} : ip_WP 46 45 [some (.ref x0), some (.int x1), some (.int x2)] [.ref s0] (G, F, I, J) b post px ↔ ip_WP 46 46 [some (.ref x0), some (.int x1), some (.int x2)] [.int 0, .ref s0] (G, F, I, J) b post px := ip_s_iconst f46_45 (by decide)
theorem f46_46 : ip_fetch 46 46 = some (.invokevirtual 171, 3) := by decide +kernel
set_option maxRecDepth 100000 in
theorem s46_46 {x0 : Nat} {x1 : Int32} {x2 : Int32} {s0 : Nat} {s1 : Int32} : ip_WP 46 46 [some (.ref x0), some (.int x1), some (.int x2)] [.int s1, .ref s0] (G, F, I, J) b post px ↔ (ip_isO G s0 1 = true ∧ ip_WP 42 0 [some (.ref s0), some (.int s1)] [] (G, F, I, J) (0, 0) (fun r h' => ip_WP 46 49 [some (.ref x0), some (.int x1), some (.int x2)] (r.toList ++ []) h' b post px) (fun _ _ => False)) := ip_ck_iff (x := ip_cl 42 [some (.ref s0), some (.int s1)] [] (0, 0) b) ((ip_st_of f46_46).trans rfl) (ip_cl_iff)
theorem f46_49 : ip_fetch 46 49 = some (.ifCond .eq 10, 3) := by decide +kernel
theorem s46_49 {x0 : Nat} {x1 : Int32} {x2 : Int32} {s0 : Int32} : ip_WP 46 49 [some (.ref x0), some (.int x1), some (.int x2)] [.int s0] (G, F, I, J) b post px ↔ if s0 = 0 then ip_WP 46 59 [some (.ref x0), some (.int x1), some (.int x2)] [] (G, F, I, J) b post px else ip_WP 46 52 [some (.ref x0), some (.int x1), some (.int x2)] [] (G, F, I, J) b post px := ip_s_if_eq f46_49 rfl
theorem f46_52 : ip_fetch 46 52 = some (.aload_n 0, 1) := by decide +kernel
theorem s46_52 {x0 : Nat} {x1 : Int32} {x2 : Int32} : ip_WP 46 52 [some (.ref x0), some (.int x1), some (.int x2)] [] (G, F, I, J) b post px ↔ ip_WP 46 53 [some (.ref x0), some (.int x1), some (.int x2)] [.ref x0] (G, F, I, J) b post px := ip_nx_iff ((ip_st_of f46_52).trans rfl)
theorem f46_53 : ip_fetch 46 53 = some (.getfield 47, 3) := by decide +kernel
set_option maxRecDepth 100000 in
theorem s46_53 {x0 : Nat} {x1 : Int32} {x2 : Int32} {s0 : Nat} : ip_WP 46 53 [some (.ref x0), some (.int x1), some (.int x2)] [.ref s0] (G, F, I, J) b post px ↔ (ip_isO G s0 1 = true ∧ ip_WP 46 56 [some (.ref x0), some (.int x1), some (.int x2)] [F s0 20] (G, F, I, J) b post px) := ip_s_getf f46_53 (by decide +kernel)
theorem f46_56 : ip_fetch 46 56 = some (.iload_n 1, 1) := by decide +kernel
theorem s46_56 {x0 : Nat} {x1 : Int32} {x2 : Int32} {s0 : Nat} : ip_WP 46 56 [some (.ref x0), some (.int x1), some (.int x2)] [.ref s0] (G, F, I, J) b post px ↔ ip_WP 46 57 [some (.ref x0), some (.int x1), some (.int x2)] [.int x1, .ref s0] (G, F, I, J) b post px := ip_nx_iff ((ip_st_of f46_56).trans rfl)
theorem f46_57 : ip_fetch 46 57 = some (.iload_n 2, 1) := by decide +kernel
theorem s46_57 {x0 : Nat} {x1 : Int32} {x2 : Int32} {s0 : Nat} {s1 : Int32} : ip_WP 46 57 [some (.ref x0), some (.int x1), some (.int x2)] [.int s1, .ref s0] (G, F, I, J) b post px ↔ ip_WP 46 58 [some (.ref x0), some (.int x1), some (.int x2)] [.int x2, .int s1, .ref s0] (G, F, I, J) b post px := ip_nx_iff ((ip_st_of f46_57).trans rfl)
theorem f46_58 : ip_fetch 46 58 = some (.iastore, 1) := by decide +kernel
theorem s46_58 {x0 : Nat} {x1 : Int32} {x2 : Int32} {s0 : Nat} {s1 : Int32} {s2 : Int32} : ip_WP 46 58 [some (.ref x0), some (.int x1), some (.int x2)] [.int s2, .int s1, .ref s0] (G, F, I, J) b post px ↔ (ip_inA G s0 0 s1 = true ∧ ip_WP 46 59 [some (.ref x0), some (.int x1), some (.int x2)] [] (G, F, ip_up I s0 s1.toNatClampNeg s2, J) b post px) := ip_ck_iff ((ip_st_of f46_58).trans rfl) ip_nx_iff
theorem f46_59 : ip_fetch 46 59 = some (.return_, 1) := by decide +kernel
theorem s46_59 {x0 : Nat} {x1 : Int32} {x2 : Int32} : ip_WP 46 59 [some (.ref x0), some (.int x1), some (.int x2)] [] (G, F, I, J) b post px ↔ post none (G, F, I, J) := ip_rt_iff ((ip_st_of f46_59).trans rfl)
theorem f47_0 : ip_fetch 47 0 = some (.iconst 0, 1) := by decide +kernel
theorem s47_0 {x0 : Nat} {x1 : Int32} {x2 : Int32} {x3 : Option Value} {x4 : Option Value} : ip_WP 47 0 [some (.ref x0), some (.int x1), some (.int x2), x3, x4] [] (G, F, I, J) b post px ↔ ip_WP 47 1 [some (.ref x0), some (.int x1), some (.int x2), x3, x4] [.int 0] (G, F, I, J) b post px := ip_s_iconst f47_0 (by decide)
theorem f47_1 : ip_fetch 47 1 = some (.istore_n 3, 1) := by decide +kernel
theorem s47_1 {x0 : Nat} {x1 : Int32} {x2 : Int32} {x3 : Option Value} {x4 : Option Value} {s0 : Int32} : ip_WP 47 1 [some (.ref x0), some (.int x1), some (.int x2), x3, x4] [.int s0] (G, F, I, J) b post px ↔ ip_WP 47 2 [some (.ref x0), some (.int x1), some (.int x2), some (.int s0), x4] [] (G, F, I, J) b post px := ip_nx_iff ((ip_st_of f47_1).trans rfl)
theorem f47_2 : ip_fetch 47 2 = some (.iconst 0, 1) := by decide +kernel
theorem s47_2 {x0 : Nat} {x1 : Int32} {x2 : Int32} {x3 : Int32} {x4 : Option Value} : ip_WP 47 2 [some (.ref x0), some (.int x1), some (.int x2), some (.int x3), x4] [] (G, F, I, J) b post px ↔ ip_WP 47 3 [some (.ref x0), some (.int x1), some (.int x2), some (.int x3), x4] [.int 0] (G, F, I, J) b post px := ip_s_iconst f47_2 (by decide)
theorem f47_3 : ip_fetch 47 3 = some (.istore 4, 2) := by decide +kernel
theorem s47_3 {x0 : Nat} {x1 : Int32} {x2 : Int32} {x3 : Int32} {x4 : Option Value} {s0 : Int32} : ip_WP 47 3 [some (.ref x0), some (.int x1), some (.int x2), some (.int x3), x4] [.int s0] (G, F, I, J) b post px ↔ ip_WP 47 5 [some (.ref x0), some (.int x1), some (.int x2), some (.int x3), some (.int s0)] [] (G, F, I, J) b post px := ip_nx_iff ((ip_st_of f47_3).trans rfl)
theorem f47_5 : ip_fetch 47 5 = some (.iload 4, 2) := by decide +kernel
theorem s47_5 {x0 : Nat} {x1 : Int32} {x2 : Int32} {x3 : Int32} {x4 : Int32} : ip_WP 47 5 [some (.ref x0), some (.int x1), some (.int x2), some (.int x3), some (.int x4)] [] (G, F, I, J) b post px ↔ ip_WP 47 7 [some (.ref x0), some (.int x1), some (.int x2), some (.int x3), some (.int x4)] [.int x4] (G, F, I, J) b post px := ip_nx_iff ((ip_st_of f47_5).trans rfl)
theorem f47_7 : ip_fetch 47 7 = some (.aload_n 0, 1) := by decide +kernel
theorem s47_7 {x0 : Nat} {x1 : Int32} {x2 : Int32} {x3 : Int32} {x4 : Int32} {s0 : Int32} : ip_WP 47 7 [some (.ref x0), some (.int x1), some (.int x2), some (.int x3), some (.int x4)] [.int s0] (G, F, I, J) b post px ↔ ip_WP 47 8 [some (.ref x0), some (.int x1), some (.int x2), some (.int x3), some (.int x4)] [.ref x0, .int s0] (G, F, I, J) b post px := ip_nx_iff ((ip_st_of f47_7).trans rfl)
theorem f47_8 : ip_fetch 47 8 = some (.getfield 185, 3) := by decide +kernel
set_option maxRecDepth 100000 in
theorem s47_8 {x0 : Nat} {x1 : Int32} {x2 : Int32} {x3 : Int32} {x4 : Int32} {s0 : Int32} {s1 : Nat} : ip_WP 47 8 [some (.ref x0), some (.int x1), some (.int x2), some (.int x3), some (.int x4)] [.ref s1, .int s0] (G, F, I, J) b post px ↔ (ip_isO G s1 1 = true ∧ ip_WP 47 11 [some (.ref x0), some (.int x1), some (.int x2), some (.int x3), some (.int x4)] [F s1 23, .int s0] (G, F, I, J) b post px) := ip_s_getf f47_8 (by decide +kernel)
theorem f47_11 : ip_fetch 47 11 = some (.if_icmp .ge 41, 3) := by decide +kernel
theorem s47_11 {x0 : Nat} {x1 : Int32} {x2 : Int32} {x3 : Int32} {x4 : Int32} {s0 : Int32} {s1 : Int32} : ip_WP 47 11 [some (.ref x0), some (.int x1), some (.int x2), some (.int x3), some (.int x4)] [.int s1, .int s0] (G, F, I, J) b post px ↔ if s1 ≤ s0 then ip_WP 47 52 [some (.ref x0), some (.int x1), some (.int x2), some (.int x3), some (.int x4)] [] (G, F, I, J) b post px else ip_WP 47 14 [some (.ref x0), some (.int x1), some (.int x2), some (.int x3), some (.int x4)] [] (G, F, I, J) b post px := ip_s_ic_ge f47_11 rfl
theorem f47_14 : ip_fetch 47 14 = some (.iload_n 3, 1) := by decide +kernel
theorem s47_14 {x0 : Nat} {x1 : Int32} {x2 : Int32} {x3 : Int32} {x4 : Int32} : ip_WP 47 14 [some (.ref x0), some (.int x1), some (.int x2), some (.int x3), some (.int x4)] [] (G, F, I, J) b post px ↔ ip_WP 47 15 [some (.ref x0), some (.int x1), some (.int x2), some (.int x3), some (.int x4)] [.int x3] (G, F, I, J) b post px := ip_nx_iff ((ip_st_of f47_14).trans rfl)
theorem f47_15 : ip_fetch 47 15 = some (.ifCond .ne 25, 3) := by decide +kernel
theorem s47_15 {x0 : Nat} {x1 : Int32} {x2 : Int32} {x3 : Int32} {x4 : Int32} {s0 : Int32} : ip_WP 47 15 [some (.ref x0), some (.int x1), some (.int x2), some (.int x3), some (.int x4)] [.int s0] (G, F, I, J) b post px ↔ if ¬ s0 = 0 then ip_WP 47 40 [some (.ref x0), some (.int x1), some (.int x2), some (.int x3), some (.int x4)] [] (G, F, I, J) b post px else ip_WP 47 18 [some (.ref x0), some (.int x1), some (.int x2), some (.int x3), some (.int x4)] [] (G, F, I, J) b post px := ip_s_if_ne f47_15 rfl
theorem f47_18 : ip_fetch 47 18 = some (.aload_n 0, 1) := by decide +kernel
theorem s47_18 {x0 : Nat} {x1 : Int32} {x2 : Int32} {x3 : Int32} {x4 : Int32} : ip_WP 47 18 [some (.ref x0), some (.int x1), some (.int x2), some (.int x3), some (.int x4)] [] (G, F, I, J) b post px ↔ ip_WP 47 19 [some (.ref x0), some (.int x1), some (.int x2), some (.int x3), some (.int x4)] [.ref x0] (G, F, I, J) b post px := ip_nx_iff ((ip_st_of f47_18).trans rfl)
theorem f47_19 : ip_fetch 47 19 = some (.getfield 56, 3) := by decide +kernel
set_option maxRecDepth 100000 in
theorem s47_19 {x0 : Nat} {x1 : Int32} {x2 : Int32} {x3 : Int32} {x4 : Int32} {s0 : Nat} : ip_WP 47 19 [some (.ref x0), some (.int x1), some (.int x2), some (.int x3), some (.int x4)] [.ref s0] (G, F, I, J) b post px ↔ (ip_isO G s0 1 = true ∧ ip_WP 47 22 [some (.ref x0), some (.int x1), some (.int x2), some (.int x3), some (.int x4)] [F s0 24] (G, F, I, J) b post px) := ip_s_getf f47_19 (by decide +kernel)
theorem f47_22 : ip_fetch 47 22 = some (.iload 4, 2) := by decide +kernel
theorem s47_22 {x0 : Nat} {x1 : Int32} {x2 : Int32} {x3 : Int32} {x4 : Int32} {s0 : Nat} : ip_WP 47 22 [some (.ref x0), some (.int x1), some (.int x2), some (.int x3), some (.int x4)] [.ref s0] (G, F, I, J) b post px ↔ ip_WP 47 24 [some (.ref x0), some (.int x1), some (.int x2), some (.int x3), some (.int x4)] [.int x4, .ref s0] (G, F, I, J) b post px := ip_nx_iff ((ip_st_of f47_22).trans rfl)
theorem f47_24 : ip_fetch 47 24 = some (.iaload, 1) := by decide +kernel
theorem s47_24 {x0 : Nat} {x1 : Int32} {x2 : Int32} {x3 : Int32} {x4 : Int32} {s0 : Nat} {s1 : Int32} : ip_WP 47 24 [some (.ref x0), some (.int x1), some (.int x2), some (.int x3), some (.int x4)] [.int s1, .ref s0] (G, F, I, J) b post px ↔ (ip_inA G s0 0 s1 = true ∧ ip_WP 47 25 [some (.ref x0), some (.int x1), some (.int x2), some (.int x3), some (.int x4)] [.int (I s0 s1.toNatClampNeg)] (G, F, I, J) b post px) := ip_ck_iff ((ip_st_of f47_24).trans rfl) ip_nx_iff
theorem f47_25 : ip_fetch 47 25 = some (.iload_n 1, 1) := by decide +kernel
theorem s47_25 {x0 : Nat} {x1 : Int32} {x2 : Int32} {x3 : Int32} {x4 : Int32} {s0 : Int32} : ip_WP 47 25 [some (.ref x0), some (.int x1), some (.int x2), some (.int x3), some (.int x4)] [.int s0] (G, F, I, J) b post px ↔ ip_WP 47 26 [some (.ref x0), some (.int x1), some (.int x2), some (.int x3), some (.int x4)] [.int x1, .int s0] (G, F, I, J) b post px := ip_nx_iff ((ip_st_of f47_25).trans rfl)
theorem f47_26 : ip_fetch 47 26 = some (.if_icmp .ne 18, 3) := by decide +kernel
theorem s47_26 {x0 : Nat} {x1 : Int32} {x2 : Int32} {x3 : Int32} {x4 : Int32} {s0 : Int32} {s1 : Int32} : ip_WP 47 26 [some (.ref x0), some (.int x1), some (.int x2), some (.int x3), some (.int x4)] [.int s1, .int s0] (G, F, I, J) b post px ↔ if ¬ s0 = s1 then ip_WP 47 44 [some (.ref x0), some (.int x1), some (.int x2), some (.int x3), some (.int x4)] [] (G, F, I, J) b post px else ip_WP 47 29 [some (.ref x0), some (.int x1), some (.int x2), some (.int x3), some (.int x4)] [] (G, F, I, J) b post px := ip_s_ic_ne f47_26 rfl
theorem f47_29 : ip_fetch 47 29 = some (.aload_n 0, 1) := by decide +kernel
theorem s47_29 {x0 : Nat} {x1 : Int32} {x2 : Int32} {x3 : Int32} {x4 : Int32} : ip_WP 47 29 [some (.ref x0), some (.int x1), some (.int x2), some (.int x3), some (.int x4)] [] (G, F, I, J) b post px ↔ ip_WP 47 30 [some (.ref x0), some (.int x1), some (.int x2), some (.int x3), some (.int x4)] [.ref x0] (G, F, I, J) b post px := ip_nx_iff ((ip_st_of f47_29).trans rfl)
theorem f47_30 : ip_fetch 47 30 = some (.getfield 59, 3) := by decide +kernel
set_option maxRecDepth 100000 in
theorem s47_30 {x0 : Nat} {x1 : Int32} {x2 : Int32} {x3 : Int32} {x4 : Int32} {s0 : Nat} : ip_WP 47 30 [some (.ref x0), some (.int x1), some (.int x2), some (.int x3), some (.int x4)] [.ref s0] (G, F, I, J) b post px ↔ (ip_isO G s0 1 = true ∧ ip_WP 47 33 [some (.ref x0), some (.int x1), some (.int x2), some (.int x3), some (.int x4)] [F s0 25] (G, F, I, J) b post px) := ip_s_getf f47_30 (by decide +kernel)
theorem f47_33 : ip_fetch 47 33 = some (.iload 4, 2) := by decide +kernel
theorem s47_33 {x0 : Nat} {x1 : Int32} {x2 : Int32} {x3 : Int32} {x4 : Int32} {s0 : Nat} : ip_WP 47 33 [some (.ref x0), some (.int x1), some (.int x2), some (.int x3), some (.int x4)] [.ref s0] (G, F, I, J) b post px ↔ ip_WP 47 35 [some (.ref x0), some (.int x1), some (.int x2), some (.int x3), some (.int x4)] [.int x4, .ref s0] (G, F, I, J) b post px := ip_nx_iff ((ip_st_of f47_33).trans rfl)
theorem f47_35 : ip_fetch 47 35 = some (.iaload, 1) := by decide +kernel
theorem s47_35 {x0 : Nat} {x1 : Int32} {x2 : Int32} {x3 : Int32} {x4 : Int32} {s0 : Nat} {s1 : Int32} : ip_WP 47 35 [some (.ref x0), some (.int x1), some (.int x2), some (.int x3), some (.int x4)] [.int s1, .ref s0] (G, F, I, J) b post px ↔ (ip_inA G s0 0 s1 = true ∧ ip_WP 47 36 [some (.ref x0), some (.int x1), some (.int x2), some (.int x3), some (.int x4)] [.int (I s0 s1.toNatClampNeg)] (G, F, I, J) b post px) := ip_ck_iff ((ip_st_of f47_35).trans rfl) ip_nx_iff
theorem f47_36 : ip_fetch 47 36 = some (.iload_n 2, 1) := by decide +kernel
theorem s47_36 {x0 : Nat} {x1 : Int32} {x2 : Int32} {x3 : Int32} {x4 : Int32} {s0 : Int32} : ip_WP 47 36 [some (.ref x0), some (.int x1), some (.int x2), some (.int x3), some (.int x4)] [.int s0] (G, F, I, J) b post px ↔ ip_WP 47 37 [some (.ref x0), some (.int x1), some (.int x2), some (.int x3), some (.int x4)] [.int x2, .int s0] (G, F, I, J) b post px := ip_nx_iff ((ip_st_of f47_36).trans rfl)
theorem f47_37 : ip_fetch 47 37 = some (.if_icmp .ne 7, 3) := by decide +kernel
theorem s47_37 {x0 : Nat} {x1 : Int32} {x2 : Int32} {x3 : Int32} {x4 : Int32} {s0 : Int32} {s1 : Int32} : ip_WP 47 37 [some (.ref x0), some (.int x1), some (.int x2), some (.int x3), some (.int x4)] [.int s1, .int s0] (G, F, I, J) b post px ↔ if ¬ s0 = s1 then ip_WP 47 44 [some (.ref x0), some (.int x1), some (.int x2), some (.int x3), some (.int x4)] [] (G, F, I, J) b post px else ip_WP 47 40 [some (.ref x0), some (.int x1), some (.int x2), some (.int x3), some (.int x4)] [] (G, F, I, J) b post px := ip_s_ic_ne f47_37 rfl
theorem f47_40 : ip_fetch 47 40 = some (.iconst 1, 1) := by decide +kernel
theorem s47_40 {x0 : Nat} {x1 : Int32} {x2 : Int32} {x3 : Int32} {x4 : Int32} : ip_WP 47 40 [some (.ref x0), some (.int x1), some (.int x2), some (.int x3), some (.int x4)] [] (G, F, I, J) b post px ↔ ip_WP 47 41 [some (.ref x0), some (.int x1), some (.int x2), some (.int x3), some (.int x4)] [.int 1] (G, F, I, J) b post px := ip_s_iconst f47_40 (by decide)
theorem f47_41 : ip_fetch 47 41 = some (.goto 4, 3) := by decide +kernel
theorem s47_41 {x0 : Nat} {x1 : Int32} {x2 : Int32} {x3 : Int32} {x4 : Int32} {s0 : Int32} : ip_WP 47 41 [some (.ref x0), some (.int x1), some (.int x2), some (.int x3), some (.int x4)] [.int s0] (G, F, I, J) b post px ↔ ip_WP 47 45 [some (.ref x0), some (.int x1), some (.int x2), some (.int x3), some (.int x4)] [.int s0] (G, F, I, J) b post px := ip_nx_iff ((ip_st_of f47_41).trans rfl)
theorem f47_44 : ip_fetch 47 44 = some (.iconst 0, 1) := by decide +kernel
theorem s47_44 {x0 : Nat} {x1 : Int32} {x2 : Int32} {x3 : Int32} {x4 : Int32} : ip_WP 47 44 [some (.ref x0), some (.int x1), some (.int x2), some (.int x3), some (.int x4)] [] (G, F, I, J) b post px ↔ ip_WP 47 45 [some (.ref x0), some (.int x1), some (.int x2), some (.int x3), some (.int x4)] [.int 0] (G, F, I, J) b post px := ip_s_iconst f47_44 (by decide)
theorem f47_45 : ip_fetch 47 45 = some (.istore_n 3, 1) := by decide +kernel
theorem s47_45 {x0 : Nat} {x1 : Int32} {x2 : Int32} {x3 : Int32} {x4 : Int32} {s0 : Int32} : ip_WP 47 45 [some (.ref x0), some (.int x1), some (.int x2), some (.int x3), some (.int x4)] [.int s0] (G, F, I, J) b post px ↔ ip_WP 47 46 [some (.ref x0), some (.int x1), some (.int x2), some (.int s0), some (.int x4)] [] (G, F, I, J) b post px := ip_nx_iff ((ip_st_of f47_45).trans rfl)
theorem f47_46 : ip_fetch 47 46 = some (.iinc 4 1, 3) := by decide +kernel
theorem s47_46 {x0 : Nat} {x1 : Int32} {x2 : Int32} {x3 : Int32} {x4 : Int32} : ip_WP 47 46 [some (.ref x0), some (.int x1), some (.int x2), some (.int x3), some (.int x4)] [] (G, F, I, J) b post px ↔ ip_WP 47 49 [some (.ref x0), some (.int x1), some (.int x2), some (.int x3), some (.int (x4 + 1))] [] (G, F, I, J) b post px := ip_s_iinc f47_46 rfl (by decide)
theorem f47_49 : ip_fetch 47 49 = some (.goto (-44), 3) := by decide +kernel
theorem s47_49 {x0 : Nat} {x1 : Int32} {x2 : Int32} {x3 : Int32} {x4 : Int32} : ip_WP 47 49 [some (.ref x0), some (.int x1), some (.int x2), some (.int x3), some (.int x4)] [] (G, F, I, J) b post px ↔ ip_WP 47 5 [some (.ref x0), some (.int x1), some (.int x2), some (.int x3), some (.int x4)] [] (G, F, I, J) b post px := ip_nx_iff ((ip_st_of f47_49).trans rfl)
theorem f47_52 : ip_fetch 47 52 = some (.iload_n 3, 1) := by decide +kernel
theorem s47_52 {x0 : Nat} {x1 : Int32} {x2 : Int32} {x3 : Int32} {x4 : Int32} : ip_WP 47 52 [some (.ref x0), some (.int x1), some (.int x2), some (.int x3), some (.int x4)] [] (G, F, I, J) b post px ↔ ip_WP 47 53 [some (.ref x0), some (.int x1), some (.int x2), some (.int x3), some (.int x4)] [.int x3] (G, F, I, J) b post px := ip_nx_iff ((ip_st_of f47_52).trans rfl)
theorem f47_53 : ip_fetch 47 53 = some (.ireturn, 1) := by decide +kernel
theorem s47_53 {x0 : Nat} {x1 : Int32} {x2 : Int32} {x3 : Int32} {x4 : Int32} {s0 : Int32} : ip_WP 47 53 [some (.ref x0), some (.int x1), some (.int x2), some (.int x3), some (.int x4)] [.int s0] (G, F, I, J) b post px ↔ ((s0 = 0 ∨ s0 = 1) ∧ post (some (.int s0)) (G, F, I, J)) := ip_s_zret ((ip_st_of f47_53).trans rfl)
theorem f48_0 : ip_fetch 48 0 = some (.aload_n 0, 1) := by decide +kernel
theorem s48_0 {x0 : Nat} {x1 : Option Value} {x2 : Option Value} : ip_WP 48 0 [some (.ref x0), x1, x2] [] (G, F, I, J) b post px ↔ ip_WP 48 1 [some (.ref x0), x1, x2] [.ref x0] (G, F, I, J) b post px := ip_nx_iff ((ip_st_of f48_0).trans rfl)
theorem f48_1 : ip_fetch 48 1 = some (.iconst 1, 1) := by decide +kernel
theorem s48_1 {x0 : Nat} {x1 : Option Value} {x2 : Option Value} {s0 : Nat} : ip_WP 48 1 [some (.ref x0), x1, x2] [.ref s0] (G, F, I, J) b post px ↔ ip_WP 48 2 [some (.ref x0), x1, x2] [.int 1, .ref s0] (G, F, I, J) b post px := ip_s_iconst f48_1 (by decide)
theorem f48_2 : ip_fetch 48 2 = some (.invokevirtual 175, 3) := by decide +kernel
set_option maxRecDepth 100000 in
theorem s48_2 {x0 : Nat} {x1 : Option Value} {x2 : Option Value} {s0 : Nat} {s1 : Int32} : ip_WP 48 2 [some (.ref x0), x1, x2] [.int s1, .ref s0] (G, F, I, J) b post px ↔ (ip_isO G s0 1 = true ∧ ip_WP 41 0 [some (.ref s0), some (.int s1), none] [] (G, F, I, J) (0, 0) (fun r h' => ip_WP 48 5 [some (.ref x0), x1, x2] (r.toList ++ []) h' b post px) (fun _ _ => False)) := ip_ck_iff (x := ip_cl 41 [some (.ref s0), some (.int s1), none] [] (0, 0) b) ((ip_st_of f48_2).trans rfl) (ip_cl_iff)
theorem f48_5 : ip_fetch 48 5 = some (.istore_n 1, 1) := by decide +kernel
theorem s48_5 {x0 : Nat} {x1 : Option Value} {x2 : Option Value} {s0 : Int32} : ip_WP 48 5 [some (.ref x0), x1, x2] [.int s0] (G, F, I, J) b post px ↔ ip_WP 48 6 [some (.ref x0), some (.int s0), x2] [] (G, F, I, J) b post px := ip_nx_iff ((ip_st_of f48_5).trans rfl)
theorem f48_6 : ip_fetch 48 6 = some (.aload_n 0, 1) := by decide +kernel
theorem s48_6 {x0 : Nat} {x1 : Int32} {x2 : Option Value} : ip_WP 48 6 [some (.ref x0), some (.int x1), x2] [] (G, F, I, J) b post px ↔ ip_WP 48 7 [some (.ref x0), some (.int x1), x2] [.ref x0] (G, F, I, J) b post px := ip_nx_iff ((ip_st_of f48_6).trans rfl)
theorem f48_7 : ip_fetch 48 7 = some (.iconst 0, 1) := by decide +kernel
theorem s48_7 {x0 : Nat} {x1 : Int32} {x2 : Option Value} {s0 : Nat} : ip_WP 48 7 [some (.ref x0), some (.int x1), x2] [.ref s0] (G, F, I, J) b post px ↔ ip_WP 48 8 [some (.ref x0), some (.int x1), x2] [.int 0, .ref s0] (G, F, I, J) b post px := ip_s_iconst f48_7 (by decide)
theorem f48_8 : ip_fetch 48 8 = some (.invokevirtual 171, 3) := by decide +kernel
set_option maxRecDepth 100000 in
theorem s48_8 {x0 : Nat} {x1 : Int32} {x2 : Option Value} {s0 : Nat} {s1 : Int32} : ip_WP 48 8 [some (.ref x0), some (.int x1), x2] [.int s1, .ref s0] (G, F, I, J) b post px ↔ (ip_isO G s0 1 = true ∧ ip_WP 42 0 [some (.ref s0), some (.int s1)] [] (G, F, I, J) (0, 0) (fun r h' => ip_WP 48 11 [some (.ref x0), some (.int x1), x2] (r.toList ++ []) h' b post px) (fun _ _ => False)) := ip_ck_iff (x := ip_cl 42 [some (.ref s0), some (.int s1)] [] (0, 0) b) ((ip_st_of f48_8).trans rfl) (ip_cl_iff)
theorem f48_11 : ip_fetch 48 11 = some (.pop, 1) := by decide +kernel
theorem s48_11 {x0 : Nat} {x1 : Int32} {x2 : Option Value} {s0 : Int32} : ip_WP 48 11 [some (.ref x0), some (.int x1), x2] [.int s0] (G, F, I, J) b post px ↔ ip_WP 48 12 [some (.ref x0), some (.int x1), x2] [] (G, F, I, J) b post px := ip_nx_iff ((ip_st_of f48_11).trans rfl)
theorem f48_12 : ip_fetch 48 12 = some (.aload_n 0, 1) := by decide +kernel
theorem s48_12 {x0 : Nat} {x1 : Int32} {x2 : Option Value} : ip_WP 48 12 [some (.ref x0), some (.int x1), x2] [] (G, F, I, J) b post px ↔ ip_WP 48 13 [some (.ref x0), some (.int x1), x2] [.ref x0] (G, F, I, J) b post px := ip_nx_iff ((ip_st_of f48_12).trans rfl)
theorem f48_13 : ip_fetch 48 13 = some (.bipush 62, 2) := by decide +kernel
theorem s48_13 {x0 : Nat} {x1 : Int32} {x2 : Option Value} {s0 : Nat} : ip_WP 48 13 [some (.ref x0), some (.int x1), x2] [.ref s0] (G, F, I, J) b post px ↔ ip_WP 48 15 [some (.ref x0), some (.int x1), x2] [.int 62, .ref s0] (G, F, I, J) b post px := ip_s_bipush f48_13 (by decide)
theorem f48_15 : ip_fetch 48 15 = some (.invokevirtual 178, 3) := by decide +kernel
set_option maxRecDepth 100000 in
theorem s48_15 {x0 : Nat} {x1 : Int32} {x2 : Option Value} {s0 : Nat} {s1 : Int32} : ip_WP 48 15 [some (.ref x0), some (.int x1), x2] [.int s1, .ref s0] (G, F, I, J) b post px ↔ (ip_isO G s0 1 = true ∧ ip_WP 34 0 [some (.ref s0), some (.int s1)] [] (G, F, I, J) (0, 0) (fun r h' => ip_WP 48 18 [some (.ref x0), some (.int x1), x2] (r.toList ++ []) h' b post px) (fun _ _ => False)) := ip_ck_iff (x := ip_cl 34 [some (.ref s0), some (.int s1)] [] (0, 0) b) ((ip_st_of f48_15).trans rfl) (ip_cl_iff)
theorem f48_18 : ip_fetch 48 18 = some (.aload_n 0, 1) := by decide +kernel
theorem s48_18 {x0 : Nat} {x1 : Int32} {x2 : Option Value} : ip_WP 48 18 [some (.ref x0), some (.int x1), x2] [] (G, F, I, J) b post px ↔ ip_WP 48 19 [some (.ref x0), some (.int x1), x2] [.ref x0] (G, F, I, J) b post px := ip_nx_iff ((ip_st_of f48_18).trans rfl)
theorem f48_19 : ip_fetch 48 19 = some (.getfield 101, 3) := by decide +kernel
set_option maxRecDepth 100000 in
theorem s48_19 {x0 : Nat} {x1 : Int32} {x2 : Option Value} {s0 : Nat} : ip_WP 48 19 [some (.ref x0), some (.int x1), x2] [.ref s0] (G, F, I, J) b post px ↔ (ip_isO G s0 1 = true ∧ ip_WP 48 22 [some (.ref x0), some (.int x1), x2] [F s0 6] (G, F, I, J) b post px) := ip_s_getf f48_19 (by decide +kernel)
theorem f48_22 : ip_fetch 48 22 = some (.ifCond .ne 29, 3) := by decide +kernel
theorem s48_22 {x0 : Nat} {x1 : Int32} {x2 : Option Value} {s0 : Int32} : ip_WP 48 22 [some (.ref x0), some (.int x1), x2] [.int s0] (G, F, I, J) b post px ↔ if ¬ s0 = 0 then ip_WP 48 51 [some (.ref x0), some (.int x1), x2] [] (G, F, I, J) b post px else ip_WP 48 25 [some (.ref x0), some (.int x1), x2] [] (G, F, I, J) b post px := ip_s_if_ne f48_22 rfl
theorem f48_25 : ip_fetch 48 25 = some (.aload_n 0, 1) := by decide +kernel
theorem s48_25 {x0 : Nat} {x1 : Int32} {x2 : Option Value} : ip_WP 48 25 [some (.ref x0), some (.int x1), x2] [] (G, F, I, J) b post px ↔ ip_WP 48 26 [some (.ref x0), some (.int x1), x2] [.ref x0] (G, F, I, J) b post px := ip_nx_iff ((ip_st_of f48_25).trans rfl)
theorem f48_26 : ip_fetch 48 26 = some (.getfield 123, 3) := by decide +kernel
set_option maxRecDepth 100000 in
theorem s48_26 {x0 : Nat} {x1 : Int32} {x2 : Option Value} {s0 : Nat} : ip_WP 48 26 [some (.ref x0), some (.int x1), x2] [.ref s0] (G, F, I, J) b post px ↔ (ip_isO G s0 1 = true ∧ ip_WP 48 29 [some (.ref x0), some (.int x1), x2] [F s0 35] (G, F, I, J) b post px) := ip_s_getf f48_26 (by decide +kernel)
theorem f48_29 : ip_fetch 48 29 = some (.iconst 1, 1) := by decide +kernel
theorem s48_29 {x0 : Nat} {x1 : Int32} {x2 : Option Value} {s0 : Int32} : ip_WP 48 29 [some (.ref x0), some (.int x1), x2] [.int s0] (G, F, I, J) b post px ↔ ip_WP 48 30 [some (.ref x0), some (.int x1), x2] [.int 1, .int s0] (G, F, I, J) b post px := ip_s_iconst f48_29 (by decide)
theorem f48_30 : ip_fetch 48 30 = some (.if_icmp .ne 21, 3) := by decide +kernel
theorem s48_30 {x0 : Nat} {x1 : Int32} {x2 : Option Value} {s0 : Int32} {s1 : Int32} : ip_WP 48 30 [some (.ref x0), some (.int x1), x2] [.int s1, .int s0] (G, F, I, J) b post px ↔ if ¬ s0 = s1 then ip_WP 48 51 [some (.ref x0), some (.int x1), x2] [] (G, F, I, J) b post px else ip_WP 48 33 [some (.ref x0), some (.int x1), x2] [] (G, F, I, J) b post px := ip_s_ic_ne f48_30 rfl
theorem f48_33 : ip_fetch 48 33 = some (.aload_n 0, 1) := by decide +kernel
theorem s48_33 {x0 : Nat} {x1 : Int32} {x2 : Option Value} : ip_WP 48 33 [some (.ref x0), some (.int x1), x2] [] (G, F, I, J) b post px ↔ ip_WP 48 34 [some (.ref x0), some (.int x1), x2] [.ref x0] (G, F, I, J) b post px := ip_nx_iff ((ip_st_of f48_33).trans rfl)
theorem f48_34 : ip_fetch 48 34 = some (.getfield 185, 3) := by decide +kernel
set_option maxRecDepth 100000 in
theorem s48_34 {x0 : Nat} {x1 : Int32} {x2 : Option Value} {s0 : Nat} : ip_WP 48 34 [some (.ref x0), some (.int x1), x2] [.ref s0] (G, F, I, J) b post px ↔ (ip_isO G s0 1 = true ∧ ip_WP 48 37 [some (.ref x0), some (.int x1), x2] [F s0 23] (G, F, I, J) b post px) := ip_s_getf f48_34 (by decide +kernel)
theorem f48_37 : ip_fetch 48 37 = some (.bipush 24, 2) := by decide +kernel
theorem s48_37 {x0 : Nat} {x1 : Int32} {x2 : Option Value} {s0 : Int32} : ip_WP 48 37 [some (.ref x0), some (.int x1), x2] [.int s0] (G, F, I, J) b post px ↔ ip_WP 48 39 [some (.ref x0), some (.int x1), x2] [.int 24, .int s0] (G, F, I, J) b post px := ip_s_bipush f48_37 (by decide)
theorem f48_39 : ip_fetch 48 39 = some (.if_icmp .ne 12, 3) := by decide +kernel
theorem s48_39 {x0 : Nat} {x1 : Int32} {x2 : Option Value} {s0 : Int32} {s1 : Int32} : ip_WP 48 39 [some (.ref x0), some (.int x1), x2] [.int s1, .int s0] (G, F, I, J) b post px ↔ if ¬ s0 = s1 then ip_WP 48 51 [some (.ref x0), some (.int x1), x2] [] (G, F, I, J) b post px else ip_WP 48 42 [some (.ref x0), some (.int x1), x2] [] (G, F, I, J) b post px := ip_s_ic_ne f48_39 rfl
theorem f48_42 : ip_fetch 48 42 = some (.aload_n 0, 1) := by decide +kernel
theorem s48_42 {x0 : Nat} {x1 : Int32} {x2 : Option Value} : ip_WP 48 42 [some (.ref x0), some (.int x1), x2] [] (G, F, I, J) b post px ↔ ip_WP 48 43 [some (.ref x0), some (.int x1), x2] [.ref x0] (G, F, I, J) b post px := ip_nx_iff ((ip_st_of f48_42).trans rfl)
theorem f48_43 : ip_fetch 48 43 = some (.iconst 3, 1) := by decide +kernel
theorem s48_43 {x0 : Nat} {x1 : Int32} {x2 : Option Value} {s0 : Nat} : ip_WP 48 43 [some (.ref x0), some (.int x1), x2] [.ref s0] (G, F, I, J) b post px ↔ ip_WP 48 44 [some (.ref x0), some (.int x1), x2] [.int 3, .ref s0] (G, F, I, J) b post px := ip_s_iconst f48_43 (by decide)
theorem f48_44 : ip_fetch 48 44 = some (.aload_n 0, 1) := by decide +kernel
theorem s48_44 {x0 : Nat} {x1 : Int32} {x2 : Option Value} {s0 : Nat} {s1 : Int32} : ip_WP 48 44 [some (.ref x0), some (.int x1), x2] [.int s1, .ref s0] (G, F, I, J) b post px ↔ ip_WP 48 45 [some (.ref x0), some (.int x1), x2] [.ref x0, .int s1, .ref s0] (G, F, I, J) b post px := ip_nx_iff ((ip_st_of f48_44).trans rfl)
theorem f48_45 : ip_fetch 48 45 = some (.getfield 117, 3) := by decide +kernel
set_option maxRecDepth 100000 in
theorem s48_45 {x0 : Nat} {x1 : Int32} {x2 : Option Value} {s0 : Nat} {s1 : Int32} {s2 : Nat} : ip_WP 48 45 [some (.ref x0), some (.int x1), x2] [.ref s2, .int s1, .ref s0] (G, F, I, J) b post px ↔ (ip_isO G s2 1 = true ∧ ip_WP 48 48 [some (.ref x0), some (.int x1), x2] [F s2 36, .int s1, .ref s0] (G, F, I, J) b post px) := ip_s_getf f48_45 (by decide +kernel)
theorem f48_48 : ip_fetch 48 48 = some (.invokevirtual 139, 3) := by decide +kernel
set_option maxRecDepth 100000 in
theorem s48_48 {x0 : Nat} {x1 : Int32} {x2 : Option Value} {s0 : Nat} {s1 : Int32} {s2 : Int32} : ip_WP 48 48 [some (.ref x0), some (.int x1), x2] [.int s2, .int s1, .ref s0] (G, F, I, J) b post px ↔ (ip_isO G s0 1 = true ∧ ip_WP 25 0 [some (.ref s0), some (.int s1), some (.int s2)] [] (G, F, I, J) (0, 0) (fun r h' => ip_WP 48 51 [some (.ref x0), some (.int x1), x2] (r.toList ++ []) h' b post px) (fun _ _ => False)) := ip_ck_iff (x := ip_cl 25 [some (.ref s0), some (.int s1), some (.int s2)] [] (0, 0) b) ((ip_st_of f48_48).trans rfl) (ip_cl_iff)
theorem f48_51 : ip_fetch 48 51 = some (.aload_n 0, 1) := by decide +kernel
theorem s48_51 {x0 : Nat} {x1 : Int32} {x2 : Option Value} : ip_WP 48 51 [some (.ref x0), some (.int x1), x2] [] (G, F, I, J) b post px ↔ ip_WP 48 52 [some (.ref x0), some (.int x1), x2] [.ref x0] (G, F, I, J) b post px := ip_nx_iff ((ip_st_of f48_51).trans rfl)
theorem f48_52 : ip_fetch 48 52 = some (.iconst 1, 1) := by decide +kernel
theorem s48_52 {x0 : Nat} {x1 : Int32} {x2 : Option Value} {s0 : Nat} : ip_WP 48 52 [some (.ref x0), some (.int x1), x2] [.ref s0] (G, F, I, J) b post px ↔ ip_WP 48 53 [some (.ref x0), some (.int x1), x2] [.int 1, .ref s0] (G, F, I, J) b post px := ip_s_iconst f48_52 (by decide)
theorem f48_53 : ip_fetch 48 53 = some (.invokevirtual 175, 3) := by decide +kernel
set_option maxRecDepth 100000 in
theorem s48_53 {x0 : Nat} {x1 : Int32} {x2 : Option Value} {s0 : Nat} {s1 : Int32} : ip_WP 48 53 [some (.ref x0), some (.int x1), x2] [.int s1, .ref s0] (G, F, I, J) b post px ↔ (ip_isO G s0 1 = true ∧ ip_WP 41 0 [some (.ref s0), some (.int s1), none] [] (G, F, I, J) (0, 0) (fun r h' => ip_WP 48 56 [some (.ref x0), some (.int x1), x2] (r.toList ++ []) h' b post px) (fun _ _ => False)) := ip_ck_iff (x := ip_cl 41 [some (.ref s0), some (.int s1), none] [] (0, 0) b) ((ip_st_of f48_53).trans rfl) (ip_cl_iff)
theorem f48_56 : ip_fetch 48 56 = some (.istore_n 2, 1) := by decide +kernel
theorem s48_56 {x0 : Nat} {x1 : Int32} {x2 : Option Value} {s0 : Int32} : ip_WP 48 56 [some (.ref x0), some (.int x1), x2] [.int s0] (G, F, I, J) b post px ↔ ip_WP 48 57 [some (.ref x0), some (.int x1), some (.int s0)] [] (G, F, I, J) b post px := ip_nx_iff ((ip_st_of f48_56).trans rfl)
theorem f48_57 : ip_fetch 48 57 = some (.aload_n 0, 1) := by decide +kernel
theorem s48_57 {x0 : Nat} {x1 : Int32} {x2 : Int32} : ip_WP 48 57 [some (.ref x0), some (.int x1), some (.int x2)] [] (G, F, I, J) b post px ↔ ip_WP 48 58 [some (.ref x0), some (.int x1), some (.int x2)] [.ref x0] (G, F, I, J) b post px := ip_nx_iff ((ip_st_of f48_57).trans rfl)
theorem f48_58 : ip_fetch 48 58 = some (.aload_n 0, 1) := by decide +kernel
theorem s48_58 {x0 : Nat} {x1 : Int32} {x2 : Int32} {s0 : Nat} : ip_WP 48 58 [some (.ref x0), some (.int x1), some (.int x2)] [.ref s0] (G, F, I, J) b post px ↔ ip_WP 48 59 [some (.ref x0), some (.int x1), some (.int x2)] [.ref x0, .ref s0] (G, F, I, J) b post px := ip_nx_iff ((ip_st_of f48_58).trans rfl)
theorem f48_59 : ip_fetch 48 59 = some (.getfield 101, 3) := by decide +kernel
set_option maxRecDepth 100000 in
theorem s48_59 {x0 : Nat} {x1 : Int32} {x2 : Int32} {s0 : Nat} {s1 : Nat} : ip_WP 48 59 [some (.ref x0), some (.int x1), some (.int x2)] [.ref s1, .ref s0] (G, F, I, J) b post px ↔ (ip_isO G s1 1 = true ∧ ip_WP 48 62 [some (.ref x0), some (.int x1), some (.int x2)] [F s1 6, .ref s0] (G, F, I, J) b post px) := ip_s_getf f48_59 (by decide +kernel)
theorem f48_62 : ip_fetch 48 62 = some (.ifCond .ne 16, 3) := by decide +kernel
theorem s48_62 {x0 : Nat} {x1 : Int32} {x2 : Int32} {s0 : Nat} {s1 : Int32} : ip_WP 48 62 [some (.ref x0), some (.int x1), some (.int x2)] [.int s1, .ref s0] (G, F, I, J) b post px ↔ if ¬ s1 = 0 then ip_WP 48 78 [some (.ref x0), some (.int x1), some (.int x2)] [.ref s0] (G, F, I, J) b post px else ip_WP 48 65 [some (.ref x0), some (.int x1), some (.int x2)] [.ref s0] (G, F, I, J) b post px := ip_s_if_ne f48_62 rfl
theorem f48_65 : ip_fetch 48 65 = some (.aload_n 0, 1) := by decide +kernel
theorem s48_65 {x0 : Nat} {x1 : Int32} {x2 : Int32} {s0 : Nat} : ip_WP 48 65 [some (.ref x0), some (.int x1), some (.int x2)] [.ref s0] (G, F, I, J) b post px ↔ ip_WP 48 66 [some (.ref x0), some (.int x1), some (.int x2)] [.ref x0, .ref s0] (G, F, I, J) b post px := ip_nx_iff ((ip_st_of f48_65).trans rfl)
theorem f48_66 : ip_fetch 48 66 = some (.iload_n 1, 1) := by decide +kernel
theorem s48_66 {x0 : Nat} {x1 : Int32} {x2 : Int32} {s0 : Nat} {s1 : Nat} : ip_WP 48 66 [some (.ref x0), some (.int x1), some (.int x2)] [.ref s1, .ref s0] (G, F, I, J) b post px ↔ ip_WP 48 67 [some (.ref x0), some (.int x1), some (.int x2)] [.int x1, .ref s1, .ref s0] (G, F, I, J) b post px := ip_nx_iff ((ip_st_of f48_66).trans rfl)
theorem f48_67 : ip_fetch 48 67 = some (.iload_n 2, 1) := by decide +kernel
theorem s48_67 {x0 : Nat} {x1 : Int32} {x2 : Int32} {s0 : Nat} {s1 : Nat} {s2 : Int32} : ip_WP 48 67 [some (.ref x0), some (.int x1), some (.int x2)] [.int s2, .ref s1, .ref s0] (G, F, I, J) b post px ↔ ip_WP 48 68 [some (.ref x0), some (.int x1), some (.int x2)] [.int x2, .int s2, .ref s1, .ref s0] (G, F, I, J) b post px := ip_nx_iff ((ip_st_of f48_67).trans rfl)
theorem f48_68 : ip_fetch 48 68 = some (.invokevirtual 188, 3) := by decide +kernel
set_option maxRecDepth 100000 in
theorem s48_68 {x0 : Nat} {x1 : Int32} {x2 : Int32} {s0 : Nat} {s1 : Nat} {s2 : Int32} {s3 : Int32} : ip_WP 48 68 [some (.ref x0), some (.int x1), some (.int x2)] [.int s3, .int s2, .ref s1, .ref s0] (G, F, I, J) b post px ↔ (ip_isO G s1 1 = true ∧ ip_WP 47 0 [some (.ref s1), some (.int s2), some (.int s3), none, none] [] (G, F, I, J) (0, 0) (fun r h' => ip_WP 48 71 [some (.ref x0), some (.int x1), some (.int x2)] (r.toList ++ [.ref s0]) h' b post px) (fun _ _ => False)) := ip_ck_iff (x := ip_cl 47 [some (.ref s1), some (.int s2), some (.int s3), none, none] [.ref s0] (0, 0) b) ((ip_st_of f48_68).trans rfl) (ip_cl_iff)
theorem f48_71 : ip_fetch 48 71 = some (.ifCond .eq 7, 3) := by decide +kernel
theorem s48_71 {x0 : Nat} {x1 : Int32} {x2 : Int32} {s0 : Nat} {s1 : Int32} : ip_WP 48 71 [some (.ref x0), some (.int x1), some (.int x2)] [.int s1, .ref s0] (G, F, I, J) b post px ↔ if s1 = 0 then ip_WP 48 78 [some (.ref x0), some (.int x1), some (.int x2)] [.ref s0] (G, F, I, J) b post px else ip_WP 48 74 [some (.ref x0), some (.int x1), some (.int x2)] [.ref s0] (G, F, I, J) b post px := ip_s_if_eq f48_71 rfl
theorem f48_74 : ip_fetch 48 74 = some (.iconst 1, 1) := by decide +kernel
theorem s48_74 {x0 : Nat} {x1 : Int32} {x2 : Int32} {s0 : Nat} : ip_WP 48 74 [some (.ref x0), some (.int x1), some (.int x2)] [.ref s0] (G, F, I, J) b post px ↔ ip_WP 48 75 [some (.ref x0), some (.int x1), some (.int x2)] [.int 1, .ref s0] (G, F, I, J) b post px := ip_s_iconst f48_74 (by decide)
theorem f48_75 : ip_fetch 48 75 = some (.goto 4, 3) := by decide +kernel
theorem s48_75 {x0 : Nat} {x1 : Int32} {x2 : Int32} {s0 : Nat} {s1 : Int32} : ip_WP 48 75 [some (.ref x0), some (.int x1), some (.int x2)] [.int s1, .ref s0] (G, F, I, J) b post px ↔ ip_WP 48 79 [some (.ref x0), some (.int x1), some (.int x2)] [.int s1, .ref s0] (G, F, I, J) b post px := ip_nx_iff ((ip_st_of f48_75).trans rfl)
theorem f48_78 : ip_fetch 48 78 = some (.iconst 0, 1) := by decide +kernel
theorem s48_78 {x0 : Nat} {x1 : Int32} {x2 : Int32} {s0 : Nat} : ip_WP 48 78 [some (.ref x0), some (.int x1), some (.int x2)] [.ref s0] (G, F, I, J) b post px ↔ ip_WP 48 79 [some (.ref x0), some (.int x1), some (.int x2)] [.int 0, .ref s0] (G, F, I, J) b post px := ip_s_iconst f48_78 (by decide)
theorem f48_79 : ip_fetch 48 79 = some (.invokevirtual 171, 3) := by decide +kernel
set_option maxRecDepth 100000 in
theorem s48_79 {x0 : Nat} {x1 : Int32} {x2 : Int32} {s0 : Nat} {s1 : Int32} : ip_WP 48 79 [some (.ref x0), some (.int x1), some (.int x2)] [.int s1, .ref s0] (G, F, I, J) b post px ↔ (ip_isO G s0 1 = true ∧ ip_WP 42 0 [some (.ref s0), some (.int s1)] [] (G, F, I, J) (0, 0) (fun r h' => ip_WP 48 82 [some (.ref x0), some (.int x1), some (.int x2)] (r.toList ++ []) h' b post px) (fun _ _ => False)) := ip_ck_iff (x := ip_cl 42 [some (.ref s0), some (.int s1)] [] (0, 0) b) ((ip_st_of f48_79).trans rfl) (ip_cl_iff)
theorem f48_82 : ip_fetch 48 82 = some (.ifCond .eq 33, 3) := by decide +kernel
theorem s48_82 {x0 : Nat} {x1 : Int32} {x2 : Int32} {s0 : Int32} : ip_WP 48 82 [some (.ref x0), some (.int x1), some (.int x2)] [.int s0] (G, F, I, J) b post px ↔ if s0 = 0 then ip_WP 48 115 [some (.ref x0), some (.int x1), some (.int x2)] [] (G, F, I, J) b post px else ip_WP 48 85 [some (.ref x0), some (.int x1), some (.int x2)] [] (G, F, I, J) b post px := ip_s_if_eq f48_82 rfl
theorem f48_85 : ip_fetch 48 85 = some (.aload_n 0, 1) := by decide +kernel
theorem s48_85 {x0 : Nat} {x1 : Int32} {x2 : Int32} : ip_WP 48 85 [some (.ref x0), some (.int x1), some (.int x2)] [] (G, F, I, J) b post px ↔ ip_WP 48 86 [some (.ref x0), some (.int x1), some (.int x2)] [.ref x0] (G, F, I, J) b post px := ip_nx_iff ((ip_st_of f48_85).trans rfl)
theorem f48_86 : ip_fetch 48 86 = some (.getfield 56, 3) := by decide +kernel
set_option maxRecDepth 100000 in
theorem s48_86 {x0 : Nat} {x1 : Int32} {x2 : Int32} {s0 : Nat} : ip_WP 48 86 [some (.ref x0), some (.int x1), some (.int x2)] [.ref s0] (G, F, I, J) b post px ↔ (ip_isO G s0 1 = true ∧ ip_WP 48 89 [some (.ref x0), some (.int x1), some (.int x2)] [F s0 24] (G, F, I, J) b post px) := ip_s_getf f48_86 (by decide +kernel)
theorem f48_89 : ip_fetch 48 89 = some (.aload_n 0, 1) := by decide +kernel
theorem s48_89 {x0 : Nat} {x1 : Int32} {x2 : Int32} {s0 : Nat} : ip_WP 48 89 [some (.ref x0), some (.int x1), some (.int x2)] [.ref s0] (G, F, I, J) b post px ↔ ip_WP 48 90 [some (.ref x0), some (.int x1), some (.int x2)] [.ref x0, .ref s0] (G, F, I, J) b post px := ip_nx_iff ((ip_st_of f48_89).trans rfl)
theorem f48_90 : ip_fetch 48 90 = some (.getfield 185, 3) := by decide +kernel
set_option maxRecDepth 100000 in
theorem s48_90 {x0 : Nat} {x1 : Int32} {x2 : Int32} {s0 : Nat} {s1 : Nat} : ip_WP 48 90 [some (.ref x0), some (.int x1), some (.int x2)] [.ref s1, .ref s0] (G, F, I, J) b post px ↔ (ip_isO G s1 1 = true ∧ ip_WP 48 93 [some (.ref x0), some (.int x1), some (.int x2)] [F s1 23, .ref s0] (G, F, I, J) b post px) := ip_s_getf f48_90 (by decide +kernel)
theorem f48_93 : ip_fetch 48 93 = some (.iload_n 1, 1) := by decide +kernel
theorem s48_93 {x0 : Nat} {x1 : Int32} {x2 : Int32} {s0 : Nat} {s1 : Int32} : ip_WP 48 93 [some (.ref x0), some (.int x1), some (.int x2)] [.int s1, .ref s0] (G, F, I, J) b post px ↔ ip_WP 48 94 [some (.ref x0), some (.int x1), some (.int x2)] [.int x1, .int s1, .ref s0] (G, F, I, J) b post px := ip_nx_iff ((ip_st_of f48_93).trans rfl)
theorem f48_94 : ip_fetch 48 94 = some (.iastore, 1) := by decide +kernel
theorem s48_94 {x0 : Nat} {x1 : Int32} {x2 : Int32} {s0 : Nat} {s1 : Int32} {s2 : Int32} : ip_WP 48 94 [some (.ref x0), some (.int x1), some (.int x2)] [.int s2, .int s1, .ref s0] (G, F, I, J) b post px ↔ (ip_inA G s0 0 s1 = true ∧ ip_WP 48 95 [some (.ref x0), some (.int x1), some (.int x2)] [] (G, F, ip_up I s0 s1.toNatClampNeg s2, J) b post px) := ip_ck_iff ((ip_st_of f48_94).trans rfl) ip_nx_iff
theorem f48_95 : ip_fetch 48 95 = some (.aload_n 0, 1) := by decide +kernel
theorem s48_95 {x0 : Nat} {x1 : Int32} {x2 : Int32} : ip_WP 48 95 [some (.ref x0), some (.int x1), some (.int x2)] [] (G, F, I, J) b post px ↔ ip_WP 48 96 [some (.ref x0), some (.int x1), some (.int x2)] [.ref x0] (G, F, I, J) b post px := ip_nx_iff ((ip_st_of f48_95).trans rfl)
theorem f48_96 : ip_fetch 48 96 = some (.getfield 59, 3) := by decide +kernel
set_option maxRecDepth 100000 in
theorem s48_96 {x0 : Nat} {x1 : Int32} {x2 : Int32} {s0 : Nat} : ip_WP 48 96 [some (.ref x0), some (.int x1), some (.int x2)] [.ref s0] (G, F, I, J) b post px ↔ (ip_isO G s0 1 = true ∧ ip_WP 48 99 [some (.ref x0), some (.int x1), some (.int x2)] [F s0 25] (G, F, I, J) b post px) := ip_s_getf f48_96 (by decide +kernel)
theorem f48_99 : ip_fetch 48 99 = some (.aload_n 0, 1) := by decide +kernel
theorem s48_99 {x0 : Nat} {x1 : Int32} {x2 : Int32} {s0 : Nat} : ip_WP 48 99 [some (.ref x0), some (.int x1), some (.int x2)] [.ref s0] (G, F, I, J) b post px ↔ ip_WP 48 100 [some (.ref x0), some (.int x1), some (.int x2)] [.ref x0, .ref s0] (G, F, I, J) b post px := ip_nx_iff ((ip_st_of f48_99).trans rfl)
theorem f48_100 : ip_fetch 48 100 = some (.getfield 185, 3) := by decide +kernel
set_option maxRecDepth 100000 in
theorem s48_100 {x0 : Nat} {x1 : Int32} {x2 : Int32} {s0 : Nat} {s1 : Nat} : ip_WP 48 100 [some (.ref x0), some (.int x1), some (.int x2)] [.ref s1, .ref s0] (G, F, I, J) b post px ↔ (ip_isO G s1 1 = true ∧ ip_WP 48 103 [some (.ref x0), some (.int x1), some (.int x2)] [F s1 23, .ref s0] (G, F, I, J) b post px) := ip_s_getf f48_100 (by decide +kernel)
theorem f48_103 : ip_fetch 48 103 = some (.iload_n 2, 1) := by decide +kernel
theorem s48_103 {x0 : Nat} {x1 : Int32} {x2 : Int32} {s0 : Nat} {s1 : Int32} : ip_WP 48 103 [some (.ref x0), some (.int x1), some (.int x2)] [.int s1, .ref s0] (G, F, I, J) b post px ↔ ip_WP 48 104 [some (.ref x0), some (.int x1), some (.int x2)] [.int x2, .int s1, .ref s0] (G, F, I, J) b post px := ip_nx_iff ((ip_st_of f48_103).trans rfl)
theorem f48_104 : ip_fetch 48 104 = some (.iastore, 1) := by decide +kernel
theorem s48_104 {x0 : Nat} {x1 : Int32} {x2 : Int32} {s0 : Nat} {s1 : Int32} {s2 : Int32} : ip_WP 48 104 [some (.ref x0), some (.int x1), some (.int x2)] [.int s2, .int s1, .ref s0] (G, F, I, J) b post px ↔ (ip_inA G s0 0 s1 = true ∧ ip_WP 48 105 [some (.ref x0), some (.int x1), some (.int x2)] [] (G, F, ip_up I s0 s1.toNatClampNeg s2, J) b post px) := ip_ck_iff ((ip_st_of f48_104).trans rfl) ip_nx_iff
theorem f48_105 : ip_fetch 48 105 = some (.aload_n 0, 1) := by decide +kernel
theorem s48_105 {x0 : Nat} {x1 : Int32} {x2 : Int32} : ip_WP 48 105 [some (.ref x0), some (.int x1), some (.int x2)] [] (G, F, I, J) b post px ↔ ip_WP 48 106 [some (.ref x0), some (.int x1), some (.int x2)] [.ref x0] (G, F, I, J) b post px := ip_nx_iff ((ip_st_of f48_105).trans rfl)
theorem f48_106 : ip_fetch 48 106 = some (.dup, 1) := by decide +kernel
theorem s48_106 {x0 : Nat} {x1 : Int32} {x2 : Int32} {s0 : Nat} : ip_WP 48 106 [some (.ref x0), some (.int x1), some (.int x2)] [.ref s0] (G, F, I, J) b post px ↔ ip_WP 48 107 [some (.ref x0), some (.int x1), some (.int x2)] [.ref s0, .ref s0] (G, F, I, J) b post px := ip_nx_iff ((ip_st_of f48_106).trans rfl)
theorem f48_107 : ip_fetch 48 107 = some (.getfield 185, 3) := by decide +kernel
set_option maxRecDepth 100000 in
theorem s48_107 {x0 : Nat} {x1 : Int32} {x2 : Int32} {s0 : Nat} {s1 : Nat} : ip_WP 48 107 [some (.ref x0), some (.int x1), some (.int x2)] [.ref s1, .ref s0] (G, F, I, J) b post px ↔ (ip_isO G s1 1 = true ∧ ip_WP 48 110 [some (.ref x0), some (.int x1), some (.int x2)] [F s1 23, .ref s0] (G, F, I, J) b post px) := ip_s_getf f48_107 (by decide +kernel)
theorem f48_110 : ip_fetch 48 110 = some (.iconst 1, 1) := by decide +kernel
theorem s48_110 {x0 : Nat} {x1 : Int32} {x2 : Int32} {s0 : Nat} {s1 : Int32} : ip_WP 48 110 [some (.ref x0), some (.int x1), some (.int x2)] [.int s1, .ref s0] (G, F, I, J) b post px ↔ ip_WP 48 111 [some (.ref x0), some (.int x1), some (.int x2)] [.int 1, .int s1, .ref s0] (G, F, I, J) b post px := ip_s_iconst f48_110 (by decide)
theorem f48_111 : ip_fetch 48 111 = some (.iadd, 1) := by decide +kernel
theorem s48_111 {x0 : Nat} {x1 : Int32} {x2 : Int32} {s0 : Nat} {s1 : Int32} {s2 : Int32} : ip_WP 48 111 [some (.ref x0), some (.int x1), some (.int x2)] [.int s2, .int s1, .ref s0] (G, F, I, J) b post px ↔ ip_WP 48 112 [some (.ref x0), some (.int x1), some (.int x2)] [.int (s1 + s2), .ref s0] (G, F, I, J) b post px := ip_nx_iff ((ip_st_of f48_111).trans rfl)
theorem f48_112 : ip_fetch 48 112 = some (.putfield 185, 3) := by decide +kernel
set_option maxRecDepth 100000 in
theorem s48_112 {x0 : Nat} {x1 : Int32} {x2 : Int32} {s0 : Nat} {s1 : Int32} : ip_WP 48 112 [some (.ref x0), some (.int x1), some (.int x2)] [.int s1, .ref s0] (G, F, I, J) b post px ↔ (ip_isO G s0 1 = true ∧ ip_WP 48 115 [some (.ref x0), some (.int x1), some (.int x2)] [] (G, ip_up F s0 23 (.int s1), I, J) b post px) := ip_s_put f48_112 (by decide +kernel) rfl
theorem f48_115 : ip_fetch 48 115 = some (.return_, 1) := by decide +kernel
theorem s48_115 {x0 : Nat} {x1 : Int32} {x2 : Int32} : ip_WP 48 115 [some (.ref x0), some (.int x1), some (.int x2)] [] (G, F, I, J) b post px ↔ post none (G, F, I, J) := ip_rt_iff ((ip_st_of f48_115).trans rfl)
theorem f49_0 : ip_fetch 49 0 = some (.iconst 1, 1) := by decide +kernel
theorem s49_0 {x0 : Nat} {x1 : Option Value} {x2 : Option Value} : ip_WP 49 0 [some (.ref x0), x1, x2] [] (G, F, I, J) b post px ↔ ip_WP 49 1 [some (.ref x0), x1, x2] [.int 1] (G, F, I, J) b post px := ip_s_iconst f49_0 (by decide)
theorem f49_1 : ip_fetch 49 1 = some (.istore_n 1, 1) := by decide +kernel
theorem s49_1 {x0 : Nat} {x1 : Option Value} {x2 : Option Value} {s0 : Int32} : ip_WP 49 1 [some (.ref x0), x1, x2] [.int s0] (G, F, I, J) b post px ↔ ip_WP 49 2 [some (.ref x0), some (.int s0), x2] [] (G, F, I, J) b post px := ip_nx_iff ((ip_st_of f49_1).trans rfl)
theorem f49_2 : ip_fetch 49 2 = some (.iload_n 1, 1) := by decide +kernel
theorem s49_2 {x0 : Nat} {x1 : Int32} {x2 : Option Value} : ip_WP 49 2 [some (.ref x0), some (.int x1), x2] [] (G, F, I, J) b post px ↔ ip_WP 49 3 [some (.ref x0), some (.int x1), x2] [.int x1] (G, F, I, J) b post px := ip_nx_iff ((ip_st_of f49_2).trans rfl)
theorem f49_3 : ip_fetch 49 3 = some (.ifCond .eq 52, 3) := by decide +kernel
theorem s49_3 {x0 : Nat} {x1 : Int32} {x2 : Option Value} {s0 : Int32} : ip_WP 49 3 [some (.ref x0), some (.int x1), x2] [.int s0] (G, F, I, J) b post px ↔ if s0 = 0 then ip_WP 49 55 [some (.ref x0), some (.int x1), x2] [] (G, F, I, J) b post px else ip_WP 49 6 [some (.ref x0), some (.int x1), x2] [] (G, F, I, J) b post px := ip_s_if_eq f49_3 rfl
theorem f49_6 : ip_fetch 49 6 = some (.aload_n 0, 1) := by decide +kernel
theorem s49_6 {x0 : Nat} {x1 : Int32} {x2 : Option Value} : ip_WP 49 6 [some (.ref x0), some (.int x1), x2] [] (G, F, I, J) b post px ↔ ip_WP 49 7 [some (.ref x0), some (.int x1), x2] [.ref x0] (G, F, I, J) b post px := ip_nx_iff ((ip_st_of f49_6).trans rfl)
theorem f49_7 : ip_fetch 49 7 = some (.iconst 0, 1) := by decide +kernel
theorem s49_7 {x0 : Nat} {x1 : Int32} {x2 : Option Value} {s0 : Nat} : ip_WP 49 7 [some (.ref x0), some (.int x1), x2] [.ref s0] (G, F, I, J) b post px ↔ ip_WP 49 8 [some (.ref x0), some (.int x1), x2] [.int 0, .ref s0] (G, F, I, J) b post px := ip_s_iconst f49_7 (by decide)
theorem f49_8 : ip_fetch 49 8 = some (.invokevirtual 175, 3) := by decide +kernel
set_option maxRecDepth 100000 in
theorem s49_8 {x0 : Nat} {x1 : Int32} {x2 : Option Value} {s0 : Nat} {s1 : Int32} : ip_WP 49 8 [some (.ref x0), some (.int x1), x2] [.int s1, .ref s0] (G, F, I, J) b post px ↔ (ip_isO G s0 1 = true ∧ ip_WP 41 0 [some (.ref s0), some (.int s1), none] [] (G, F, I, J) (0, 0) (fun r h' => ip_WP 49 11 [some (.ref x0), some (.int x1), x2] (r.toList ++ []) h' b post px) (fun _ _ => False)) := ip_ck_iff (x := ip_cl 41 [some (.ref s0), some (.int s1), none] [] (0, 0) b) ((ip_st_of f49_8).trans rfl) (ip_cl_iff)
theorem f49_11 : ip_fetch 49 11 = some (.istore_n 2, 1) := by decide +kernel
theorem s49_11 {x0 : Nat} {x1 : Int32} {x2 : Option Value} {s0 : Int32} : ip_WP 49 11 [some (.ref x0), some (.int x1), x2] [.int s0] (G, F, I, J) b post px ↔ ip_WP 49 12 [some (.ref x0), some (.int x1), some (.int s0)] [] (G, F, I, J) b post px := ip_nx_iff ((ip_st_of f49_11).trans rfl)
theorem f49_12 : ip_fetch 49 12 = some (.aload_n 0, 1) := by decide +kernel
theorem s49_12 {x0 : Nat} {x1 : Int32} {x2 : Int32} : ip_WP 49 12 [some (.ref x0), some (.int x1), some (.int x2)] [] (G, F, I, J) b post px ↔ ip_WP 49 13 [some (.ref x0), some (.int x1), some (.int x2)] [.ref x0] (G, F, I, J) b post px := ip_nx_iff ((ip_st_of f49_12).trans rfl)
theorem f49_13 : ip_fetch 49 13 = some (.aload_n 0, 1) := by decide +kernel
theorem s49_13 {x0 : Nat} {x1 : Int32} {x2 : Int32} {s0 : Nat} : ip_WP 49 13 [some (.ref x0), some (.int x1), some (.int x2)] [.ref s0] (G, F, I, J) b post px ↔ ip_WP 49 14 [some (.ref x0), some (.int x1), some (.int x2)] [.ref x0, .ref s0] (G, F, I, J) b post px := ip_nx_iff ((ip_st_of f49_13).trans rfl)
theorem f49_14 : ip_fetch 49 14 = some (.getfield 101, 3) := by decide +kernel
set_option maxRecDepth 100000 in
theorem s49_14 {x0 : Nat} {x1 : Int32} {x2 : Int32} {s0 : Nat} {s1 : Nat} : ip_WP 49 14 [some (.ref x0), some (.int x1), some (.int x2)] [.ref s1, .ref s0] (G, F, I, J) b post px ↔ (ip_isO G s1 1 = true ∧ ip_WP 49 17 [some (.ref x0), some (.int x1), some (.int x2)] [F s1 6, .ref s0] (G, F, I, J) b post px) := ip_s_getf f49_14 (by decide +kernel)
theorem f49_17 : ip_fetch 49 17 = some (.ifCond .ne 16, 3) := by decide +kernel
theorem s49_17 {x0 : Nat} {x1 : Int32} {x2 : Int32} {s0 : Nat} {s1 : Int32} : ip_WP 49 17 [some (.ref x0), some (.int x1), some (.int x2)] [.int s1, .ref s0] (G, F, I, J) b post px ↔ if ¬ s1 = 0 then ip_WP 49 33 [some (.ref x0), some (.int x1), some (.int x2)] [.ref s0] (G, F, I, J) b post px else ip_WP 49 20 [some (.ref x0), some (.int x1), some (.int x2)] [.ref s0] (G, F, I, J) b post px := ip_s_if_ne f49_17 rfl
theorem f49_20 : ip_fetch 49 20 = some (.aload_n 0, 1) := by decide +kernel
theorem s49_20 {x0 : Nat} {x1 : Int32} {x2 : Int32} {s0 : Nat} : ip_WP 49 20 [some (.ref x0), some (.int x1), some (.int x2)] [.ref s0] (G, F, I, J) b post px ↔ ip_WP 49 21 [some (.ref x0), some (.int x1), some (.int x2)] [.ref x0, .ref s0] (G, F, I, J) b post px := ip_nx_iff ((ip_st_of f49_20).trans rfl)
theorem f49_21 : ip_fetch 49 21 = some (.getfield 50, 3) := by decide +kernel
set_option maxRecDepth 100000 in
theorem s49_21 {x0 : Nat} {x1 : Int32} {x2 : Int32} {s0 : Nat} {s1 : Nat} : ip_WP 49 21 [some (.ref x0), some (.int x1), some (.int x2)] [.ref s1, .ref s0] (G, F, I, J) b post px ↔ (ip_isO G s1 1 = true ∧ ip_WP 49 24 [some (.ref x0), some (.int x1), some (.int x2)] [F s1 21, .ref s0] (G, F, I, J) b post px) := ip_s_getf f49_21 (by decide +kernel)
theorem f49_24 : ip_fetch 49 24 = some (.iload_n 2, 1) := by decide +kernel
theorem s49_24 {x0 : Nat} {x1 : Int32} {x2 : Int32} {s0 : Nat} {s1 : Nat} : ip_WP 49 24 [some (.ref x0), some (.int x1), some (.int x2)] [.ref s1, .ref s0] (G, F, I, J) b post px ↔ ip_WP 49 25 [some (.ref x0), some (.int x1), some (.int x2)] [.int x2, .ref s1, .ref s0] (G, F, I, J) b post px := ip_nx_iff ((ip_st_of f49_24).trans rfl)
theorem f49_25 : ip_fetch 49 25 = some (.baload, 1) := by decide +kernel
theorem s49_25 {x0 : Nat} {x1 : Int32} {x2 : Int32} {s0 : Nat} {s1 : Nat} {s2 : Int32} : ip_WP 49 25 [some (.ref x0), some (.int x1), some (.int x2)] [.int s2, .ref s1, .ref s0] (G, F, I, J) b post px ↔ ((ip_inA G s1 1 s2 || ip_inA G s1 3 s2) = true ∧ ip_WP 49 26 [some (.ref x0), some (.int x1), some (.int x2)] [.int (I s1 s2.toNatClampNeg), .ref s0] (G, F, I, J) b post px) := ip_ck_iff ((ip_st_of f49_25).trans rfl) ip_nx_iff
theorem f49_26 : ip_fetch 49 26 = some (.ifCond .eq 7, 3) := by decide +kernel
theorem s49_26 {x0 : Nat} {x1 : Int32} {x2 : Int32} {s0 : Nat} {s1 : Int32} : ip_WP 49 26 [some (.ref x0), some (.int x1), some (.int x2)] [.int s1, .ref s0] (G, F, I, J) b post px ↔ if s1 = 0 then ip_WP 49 33 [some (.ref x0), some (.int x1), some (.int x2)] [.ref s0] (G, F, I, J) b post px else ip_WP 49 29 [some (.ref x0), some (.int x1), some (.int x2)] [.ref s0] (G, F, I, J) b post px := ip_s_if_eq f49_26 rfl
theorem f49_29 : ip_fetch 49 29 = some (.iconst 1, 1) := by decide +kernel
theorem s49_29 {x0 : Nat} {x1 : Int32} {x2 : Int32} {s0 : Nat} : ip_WP 49 29 [some (.ref x0), some (.int x1), some (.int x2)] [.ref s0] (G, F, I, J) b post px ↔ ip_WP 49 30 [some (.ref x0), some (.int x1), some (.int x2)] [.int 1, .ref s0] (G, F, I, J) b post px := ip_s_iconst f49_29 (by decide)
theorem f49_30 : ip_fetch 49 30 = some (.goto 4, 3) := by decide +kernel
theorem s49_30 {x0 : Nat} {x1 : Int32} {x2 : Int32} {s0 : Nat} {s1 : Int32} : ip_WP 49 30 [some (.ref x0), some (.int x1), some (.int x2)] [.int s1, .ref s0] (G, F, I, J) b post px ↔ ip_WP 49 34 [some (.ref x0), some (.int x1), some (.int x2)] [.int s1, .ref s0] (G, F, I, J) b post px := ip_nx_iff ((ip_st_of f49_30).trans rfl)
theorem f49_33 : ip_fetch 49 33 = some (.iconst 0, 1) := by decide +kernel
theorem s49_33 {x0 : Nat} {x1 : Int32} {x2 : Int32} {s0 : Nat} : ip_WP 49 33 [some (.ref x0), some (.int x1), some (.int x2)] [.ref s0] (G, F, I, J) b post px ↔ ip_WP 49 34 [some (.ref x0), some (.int x1), some (.int x2)] [.int 0, .ref s0] (G, F, I, J) b post px := ip_s_iconst f49_33 (by decide)
theorem f49_34 : ip_fetch 49 34 = some (.invokevirtual 171, 3) := by decide +kernel
set_option maxRecDepth 100000 in
theorem s49_34 {x0 : Nat} {x1 : Int32} {x2 : Int32} {s0 : Nat} {s1 : Int32} : ip_WP 49 34 [some (.ref x0), some (.int x1), some (.int x2)] [.int s1, .ref s0] (G, F, I, J) b post px ↔ (ip_isO G s0 1 = true ∧ ip_WP 42 0 [some (.ref s0), some (.int s1)] [] (G, F, I, J) (0, 0) (fun r h' => ip_WP 49 37 [some (.ref x0), some (.int x1), some (.int x2)] (r.toList ++ []) h' b post px) (fun _ _ => False)) := ip_ck_iff (x := ip_cl 42 [some (.ref s0), some (.int s1)] [] (0, 0) b) ((ip_st_of f49_34).trans rfl) (ip_cl_iff)
theorem f49_37 : ip_fetch 49 37 = some (.ifCond .eq 10, 3) := by decide +kernel
theorem s49_37 {x0 : Nat} {x1 : Int32} {x2 : Int32} {s0 : Int32} : ip_WP 49 37 [some (.ref x0), some (.int x1), some (.int x2)] [.int s0] (G, F, I, J) b post px ↔ if s0 = 0 then ip_WP 49 47 [some (.ref x0), some (.int x1), some (.int x2)] [] (G, F, I, J) b post px else ip_WP 49 40 [some (.ref x0), some (.int x1), some (.int x2)] [] (G, F, I, J) b post px := ip_s_if_eq f49_37 rfl
theorem f49_40 : ip_fetch 49 40 = some (.aload_n 0, 1) := by decide +kernel
theorem s49_40 {x0 : Nat} {x1 : Int32} {x2 : Int32} : ip_WP 49 40 [some (.ref x0), some (.int x1), some (.int x2)] [] (G, F, I, J) b post px ↔ ip_WP 49 41 [some (.ref x0), some (.int x1), some (.int x2)] [.ref x0] (G, F, I, J) b post px := ip_nx_iff ((ip_st_of f49_40).trans rfl)
theorem f49_41 : ip_fetch 49 41 = some (.getfield 50, 3) := by decide +kernel
set_option maxRecDepth 100000 in
theorem s49_41 {x0 : Nat} {x1 : Int32} {x2 : Int32} {s0 : Nat} : ip_WP 49 41 [some (.ref x0), some (.int x1), some (.int x2)] [.ref s0] (G, F, I, J) b post px ↔ (ip_isO G s0 1 = true ∧ ip_WP 49 44 [some (.ref x0), some (.int x1), some (.int x2)] [F s0 21] (G, F, I, J) b post px) := ip_s_getf f49_41 (by decide +kernel)
theorem f49_44 : ip_fetch 49 44 = some (.iload_n 2, 1) := by decide +kernel
theorem s49_44 {x0 : Nat} {x1 : Int32} {x2 : Int32} {s0 : Nat} : ip_WP 49 44 [some (.ref x0), some (.int x1), some (.int x2)] [.ref s0] (G, F, I, J) b post px ↔ ip_WP 49 45 [some (.ref x0), some (.int x1), some (.int x2)] [.int x2, .ref s0] (G, F, I, J) b post px := ip_nx_iff ((ip_st_of f49_44).trans rfl)
theorem f49_45 : ip_fetch 49 45 = some (.iconst 1, 1) := by decide +kernel
theorem s49_45 {x0 : Nat} {x1 : Int32} {x2 : Int32} {s0 : Nat} {s1 : Int32} : ip_WP 49 45 [some (.ref x0), some (.int x1), some (.int x2)] [.int s1, .ref s0] (G, F, I, J) b post px ↔ ip_WP 49 46 [some (.ref x0), some (.int x1), some (.int x2)] [.int 1, .int s1, .ref s0] (G, F, I, J) b post px := ip_s_iconst f49_45 (by decide)
theorem f49_46 : ip_fetch 49 46 = some (.bastore, 1) := by decide +kernel
theorem s49_46 {x0 : Nat} {x1 : Int32} {x2 : Int32} {s0 : Nat} {s1 : Int32} {s2 : Int32} : ip_WP 49 46 [some (.ref x0), some (.int x1), some (.int x2)] [.int s2, .int s1, .ref s0] (G, F, I, J) b post px ↔ if ip_inA G s0 1 s1 = true then ip_WP 49 47 [some (.ref x0), some (.int x1), some (.int x2)] [] (G, F, ip_up I s0 s1.toNatClampNeg (vp_nar .byte s2), J) b post px else (ip_inA G s0 3 s1 = true ∧ ip_WP 49 47 [some (.ref x0), some (.int x1), some (.int x2)] [] (G, F, ip_up I s0 s1.toNatClampNeg (vp_nar .boolean s2), J) b post px) := ip_if_iff ((ip_st_of f49_46).trans rfl) ip_nx_iff (fun hs => ip_ck_iff hs ip_nx_iff)
theorem f49_47 : ip_fetch 49 47 = some (.aload_n 0, 1) := by decide +kernel
theorem s49_47 {x0 : Nat} {x1 : Int32} {x2 : Int32} : ip_WP 49 47 [some (.ref x0), some (.int x1), some (.int x2)] [] (G, F, I, J) b post px ↔ ip_WP 49 48 [some (.ref x0), some (.int x1), some (.int x2)] [.ref x0] (G, F, I, J) b post px := ip_nx_iff ((ip_st_of f49_47).trans rfl)
theorem f49_48 : ip_fetch 49 48 = some (.invokevirtual 164, 3) := by decide +kernel
set_option maxRecDepth 100000 in
theorem s49_48 {x0 : Nat} {x1 : Int32} {x2 : Int32} {s0 : Nat} : ip_WP 49 48 [some (.ref x0), some (.int x1), some (.int x2)] [.ref s0] (G, F, I, J) b post px ↔ (ip_isO G s0 1 = true ∧ ip_WP 35 0 [some (.ref s0)] [] (G, F, I, J) (0, 0) (fun r h' => ip_WP 49 51 [some (.ref x0), some (.int x1), some (.int x2)] (r.toList ++ []) h' b post px) (fun _ _ => False)) := ip_ck_iff (x := ip_cl 35 [some (.ref s0)] [] (0, 0) b) ((ip_st_of f49_48).trans rfl) (ip_cl_iff)
theorem f49_51 : ip_fetch 49 51 = some (.istore_n 1, 1) := by decide +kernel
theorem s49_51 {x0 : Nat} {x1 : Int32} {x2 : Int32} {s0 : Int32} : ip_WP 49 51 [some (.ref x0), some (.int x1), some (.int x2)] [.int s0] (G, F, I, J) b post px ↔ ip_WP 49 52 [some (.ref x0), some (.int s0), some (.int x2)] [] (G, F, I, J) b post px := ip_nx_iff ((ip_st_of f49_51).trans rfl)
theorem f49_52 : ip_fetch 49 52 = some (.goto (-50), 3) := by decide +kernel
theorem s49_52 {x0 : Nat} {x1 : Int32} {x2 : Int32} : ip_WP 49 52 [some (.ref x0), some (.int x1), some (.int x2)] [] (G, F, I, J) b post px ↔ ip_WP 49 2 [some (.ref x0), some (.int x1), some (.int x2)] [] (G, F, I, J) b post px := ip_nx_iff ((ip_st_of f49_52).trans rfl)
theorem f49_55 : ip_fetch 49 55 = some (.return_, 1) := by decide +kernel
theorem s49_55 {x0 : Nat} {x1 : Int32} {x2 : Option Value} : ip_WP 49 55 [some (.ref x0), some (.int x1), x2] [] (G, F, I, J) b post px ↔ post none (G, F, I, J) := ip_rt_iff ((ip_st_of f49_55).trans rfl)
theorem f50_0 : ip_fetch 50 0 = some (.aload_n 0, 1) := by decide +kernel
theorem s50_0 {x0 : Nat} {x1 : Option Value} {x2 : Option Value} {x3 : Option Value} : ip_WP 50 0 [some (.ref x0), x1, x2, x3] [] (G, F, I, J) b post px ↔ ip_WP 50 1 [some (.ref x0), x1, x2, x3] [.ref x0] (G, F, I, J) b post px := ip_nx_iff ((ip_st_of f50_0).trans rfl)
theorem f50_1 : ip_fetch 50 1 = some (.iconst 2, 1) := by decide +kernel
theorem s50_1 {x0 : Nat} {x1 : Option Value} {x2 : Option Value} {x3 : Option Value} {s0 : Nat} : ip_WP 50 1 [some (.ref x0), x1, x2, x3] [.ref s0] (G, F, I, J) b post px ↔ ip_WP 50 2 [some (.ref x0), x1, x2, x3] [.int 2, .ref s0] (G, F, I, J) b post px := ip_s_iconst f50_1 (by decide)
theorem f50_2 : ip_fetch 50 2 = some (.invokevirtual 161, 3) := by decide +kernel
set_option maxRecDepth 100000 in
theorem s50_2 {x0 : Nat} {x1 : Option Value} {x2 : Option Value} {x3 : Option Value} {s0 : Nat} {s1 : Int32} : ip_WP 50 2 [some (.ref x0), x1, x2, x3] [.int s1, .ref s0] (G, F, I, J) b post px ↔ (ip_isO G s0 1 = true ∧ ip_WP 40 0 [some (.ref s0), some (.int s1)] [] (G, F, I, J) (0, 0) (fun r h' => ip_WP 50 5 [some (.ref x0), x1, x2, x3] (r.toList ++ []) h' b post px) (fun _ _ => False)) := ip_ck_iff (x := ip_cl 40 [some (.ref s0), some (.int s1)] [] (0, 0) b) ((ip_st_of f50_2).trans rfl) (ip_cl_iff)
theorem f50_5 : ip_fetch 50 5 = some (.istore_n 1, 1) := by decide +kernel
theorem s50_5 {x0 : Nat} {x1 : Option Value} {x2 : Option Value} {x3 : Option Value} {s0 : Int32} : ip_WP 50 5 [some (.ref x0), x1, x2, x3] [.int s0] (G, F, I, J) b post px ↔ ip_WP 50 6 [some (.ref x0), some (.int s0), x2, x3] [] (G, F, I, J) b post px := ip_nx_iff ((ip_st_of f50_5).trans rfl)
theorem f50_6 : ip_fetch 50 6 = some (.aload_n 0, 1) := by decide +kernel
theorem s50_6 {x0 : Nat} {x1 : Int32} {x2 : Option Value} {x3 : Option Value} : ip_WP 50 6 [some (.ref x0), some (.int x1), x2, x3] [] (G, F, I, J) b post px ↔ ip_WP 50 7 [some (.ref x0), some (.int x1), x2, x3] [.ref x0] (G, F, I, J) b post px := ip_nx_iff ((ip_st_of f50_6).trans rfl)
theorem f50_7 : ip_fetch 50 7 = some (.bipush 61, 2) := by decide +kernel
theorem s50_7 {x0 : Nat} {x1 : Int32} {x2 : Option Value} {x3 : Option Value} {s0 : Nat} : ip_WP 50 7 [some (.ref x0), some (.int x1), x2, x3] [.ref s0] (G, F, I, J) b post px ↔ ip_WP 50 9 [some (.ref x0), some (.int x1), x2, x3] [.int 61, .ref s0] (G, F, I, J) b post px := ip_s_bipush f50_7 (by decide)
theorem f50_9 : ip_fetch 50 9 = some (.invokevirtual 178, 3) := by decide +kernel
set_option maxRecDepth 100000 in
theorem s50_9 {x0 : Nat} {x1 : Int32} {x2 : Option Value} {x3 : Option Value} {s0 : Nat} {s1 : Int32} : ip_WP 50 9 [some (.ref x0), some (.int x1), x2, x3] [.int s1, .ref s0] (G, F, I, J) b post px ↔ (ip_isO G s0 1 = true ∧ ip_WP 34 0 [some (.ref s0), some (.int s1)] [] (G, F, I, J) (0, 0) (fun r h' => ip_WP 50 12 [some (.ref x0), some (.int x1), x2, x3] (r.toList ++ []) h' b post px) (fun _ _ => False)) := ip_ck_iff (x := ip_cl 34 [some (.ref s0), some (.int s1)] [] (0, 0) b) ((ip_st_of f50_9).trans rfl) (ip_cl_iff)
theorem f50_12 : ip_fetch 50 12 = some (.aload_n 0, 1) := by decide +kernel
theorem s50_12 {x0 : Nat} {x1 : Int32} {x2 : Option Value} {x3 : Option Value} : ip_WP 50 12 [some (.ref x0), some (.int x1), x2, x3] [] (G, F, I, J) b post px ↔ ip_WP 50 13 [some (.ref x0), some (.int x1), x2, x3] [.ref x0] (G, F, I, J) b post px := ip_nx_iff ((ip_st_of f50_12).trans rfl)
theorem f50_13 : ip_fetch 50 13 = some (.sipush 999, 3) := by decide +kernel
theorem s50_13 {x0 : Nat} {x1 : Int32} {x2 : Option Value} {x3 : Option Value} {s0 : Nat} : ip_WP 50 13 [some (.ref x0), some (.int x1), x2, x3] [.ref s0] (G, F, I, J) b post px ↔ ip_WP 50 16 [some (.ref x0), some (.int x1), x2, x3] [.int 999, .ref s0] (G, F, I, J) b post px := ip_s_sipush f50_13 (by decide)
theorem f50_16 : ip_fetch 50 16 = some (.invokevirtual 182, 3) := by decide +kernel
set_option maxRecDepth 100000 in
theorem s50_16 {x0 : Nat} {x1 : Int32} {x2 : Option Value} {x3 : Option Value} {s0 : Nat} {s1 : Int32} : ip_WP 50 16 [some (.ref x0), some (.int x1), x2, x3] [.int s1, .ref s0] (G, F, I, J) b post px ↔ (ip_isO G s0 1 = true ∧ ip_WP 36 0 [some (.ref s0), some (.int s1), none] [] (G, F, I, J) (0, 0) (fun r h' => ip_WP 50 19 [some (.ref x0), some (.int x1), x2, x3] (r.toList ++ []) h' b post px) (fun _ _ => False)) := ip_ck_iff (x := ip_cl 36 [some (.ref s0), some (.int s1), none] [] (0, 0) b) ((ip_st_of f50_16).trans rfl) (ip_cl_iff)
theorem f50_19 : ip_fetch 50 19 = some (.istore_n 2, 1) := by decide +kernel
theorem s50_19 {x0 : Nat} {x1 : Int32} {x2 : Option Value} {x3 : Option Value} {s0 : Int32} : ip_WP 50 19 [some (.ref x0), some (.int x1), x2, x3] [.int s0] (G, F, I, J) b post px ↔ ip_WP 50 20 [some (.ref x0), some (.int x1), some (.int s0), x3] [] (G, F, I, J) b post px := ip_nx_iff ((ip_st_of f50_19).trans rfl)
theorem f50_20 : ip_fetch 50 20 = some (.aload_n 0, 1) := by decide +kernel
theorem s50_20 {x0 : Nat} {x1 : Int32} {x2 : Int32} {x3 : Option Value} : ip_WP 50 20 [some (.ref x0), some (.int x1), some (.int x2), x3] [] (G, F, I, J) b post px ↔ ip_WP 50 21 [some (.ref x0), some (.int x1), some (.int x2), x3] [.ref x0] (G, F, I, J) b post px := ip_nx_iff ((ip_st_of f50_20).trans rfl)
theorem f50_21 : ip_fetch 50 21 = some (.getfield 101, 3) := by decide +kernel
set_option maxRecDepth 100000 in
theorem s50_21 {x0 : Nat} {x1 : Int32} {x2 : Int32} {x3 : Option Value} {s0 : Nat} : ip_WP 50 21 [some (.ref x0), some (.int x1), some (.int x2), x3] [.ref s0] (G, F, I, J) b post px ↔ (ip_isO G s0 1 = true ∧ ip_WP 50 24 [some (.ref x0), some (.int x1), some (.int x2), x3] [F s0 6] (G, F, I, J) b post px) := ip_s_getf f50_21 (by decide +kernel)
theorem f50_24 : ip_fetch 50 24 = some (.ifCond .le 4, 3) := by decide +kernel
theorem s50_24 {x0 : Nat} {x1 : Int32} {x2 : Int32} {x3 : Option Value} {s0 : Int32} : ip_WP 50 24 [some (.ref x0), some (.int x1), some (.int x2), x3] [.int s0] (G, F, I, J) b post px ↔ if s0 ≤ 0 then ip_WP 50 28 [some (.ref x0), some (.int x1), some (.int x2), x3] [] (G, F, I, J) b post px else ip_WP 50 27 [some (.ref x0), some (.int x1), some (.int x2), x3] [] (G, F, I, J) b post px := ip_s_if_le f50_24 rfl
theorem f50_27 : ip_fetch 50 27 = some (.return_, 1) := by decide +kernel
theorem s50_27 {x0 : Nat} {x1 : Int32} {x2 : Int32} {x3 : Option Value} : ip_WP 50 27 [some (.ref x0), some (.int x1), some (.int x2), x3] [] (G, F, I, J) b post px ↔ post none (G, F, I, J) := ip_rt_iff ((ip_st_of f50_27).trans rfl)
theorem f50_28 : ip_fetch 50 28 = some (.aload_n 0, 1) := by decide +kernel
theorem s50_28 {x0 : Nat} {x1 : Int32} {x2 : Int32} {x3 : Option Value} : ip_WP 50 28 [some (.ref x0), some (.int x1), some (.int x2), x3] [] (G, F, I, J) b post px ↔ ip_WP 50 29 [some (.ref x0), some (.int x1), some (.int x2), x3] [.ref x0] (G, F, I, J) b post px := ip_nx_iff ((ip_st_of f50_28).trans rfl)
theorem f50_29 : ip_fetch 50 29 = some (.getfield 62, 3) := by decide +kernel
set_option maxRecDepth 100000 in
theorem s50_29 {x0 : Nat} {x1 : Int32} {x2 : Int32} {x3 : Option Value} {s0 : Nat} : ip_WP 50 29 [some (.ref x0), some (.int x1), some (.int x2), x3] [.ref s0] (G, F, I, J) b post px ↔ (ip_isO G s0 1 = true ∧ ip_WP 50 32 [some (.ref x0), some (.int x1), some (.int x2), x3] [F s0 26] (G, F, I, J) b post px) := ip_s_getf f50_29 (by decide +kernel)
theorem f50_32 : ip_fetch 50 32 = some (.iload_n 1, 1) := by decide +kernel
theorem s50_32 {x0 : Nat} {x1 : Int32} {x2 : Int32} {x3 : Option Value} {s0 : Nat} : ip_WP 50 32 [some (.ref x0), some (.int x1), some (.int x2), x3] [.ref s0] (G, F, I, J) b post px ↔ ip_WP 50 33 [some (.ref x0), some (.int x1), some (.int x2), x3] [.int x1, .ref s0] (G, F, I, J) b post px := ip_nx_iff ((ip_st_of f50_32).trans rfl)
theorem f50_33 : ip_fetch 50 33 = some (.iload_n 2, 1) := by decide +kernel
theorem s50_33 {x0 : Nat} {x1 : Int32} {x2 : Int32} {x3 : Option Value} {s0 : Nat} {s1 : Int32} : ip_WP 50 33 [some (.ref x0), some (.int x1), some (.int x2), x3] [.int s1, .ref s0] (G, F, I, J) b post px ↔ ip_WP 50 34 [some (.ref x0), some (.int x1), some (.int x2), x3] [.int x2, .int s1, .ref s0] (G, F, I, J) b post px := ip_nx_iff ((ip_st_of f50_33).trans rfl)
theorem f50_34 : ip_fetch 50 34 = some (.iastore, 1) := by decide +kernel
theorem s50_34 {x0 : Nat} {x1 : Int32} {x2 : Int32} {x3 : Option Value} {s0 : Nat} {s1 : Int32} {s2 : Int32} : ip_WP 50 34 [some (.ref x0), some (.int x1), some (.int x2), x3] [.int s2, .int s1, .ref s0] (G, F, I, J) b post px ↔ (ip_inA G s0 0 s1 = true ∧ ip_WP 50 35 [some (.ref x0), some (.int x1), some (.int x2), x3] [] (G, F, ip_up I s0 s1.toNatClampNeg s2, J) b post px) := ip_ck_iff ((ip_st_of f50_34).trans rfl) ip_nx_iff
theorem f50_35 : ip_fetch 50 35 = some (.aload_n 0, 1) := by decide +kernel
theorem s50_35 {x0 : Nat} {x1 : Int32} {x2 : Int32} {x3 : Option Value} : ip_WP 50 35 [some (.ref x0), some (.int x1), some (.int x2), x3] [] (G, F, I, J) b post px ↔ ip_WP 50 36 [some (.ref x0), some (.int x1), some (.int x2), x3] [.ref x0] (G, F, I, J) b post px := ip_nx_iff ((ip_st_of f50_35).trans rfl)
theorem f50_36 : ip_fetch 50 36 = some (.getfield 65, 3) := by decide +kernel
set_option maxRecDepth 100000 in
theorem s50_36 {x0 : Nat} {x1 : Int32} {x2 : Int32} {x3 : Option Value} {s0 : Nat} : ip_WP 50 36 [some (.ref x0), some (.int x1), some (.int x2), x3] [.ref s0] (G, F, I, J) b post px ↔ (ip_isO G s0 1 = true ∧ ip_WP 50 39 [some (.ref x0), some (.int x1), some (.int x2), x3] [F s0 27] (G, F, I, J) b post px) := ip_s_getf f50_36 (by decide +kernel)
theorem f50_39 : ip_fetch 50 39 = some (.iload_n 1, 1) := by decide +kernel
theorem s50_39 {x0 : Nat} {x1 : Int32} {x2 : Int32} {x3 : Option Value} {s0 : Nat} : ip_WP 50 39 [some (.ref x0), some (.int x1), some (.int x2), x3] [.ref s0] (G, F, I, J) b post px ↔ ip_WP 50 40 [some (.ref x0), some (.int x1), some (.int x2), x3] [.int x1, .ref s0] (G, F, I, J) b post px := ip_nx_iff ((ip_st_of f50_39).trans rfl)
theorem f50_40 : ip_fetch 50 40 = some (.iconst (-1), 1) := by decide +kernel
theorem s50_40 {x0 : Nat} {x1 : Int32} {x2 : Int32} {x3 : Option Value} {s0 : Nat} {s1 : Int32} : ip_WP 50 40 [some (.ref x0), some (.int x1), some (.int x2), x3] [.int s1, .ref s0] (G, F, I, J) b post px ↔ ip_WP 50 41 [some (.ref x0), some (.int x1), some (.int x2), x3] [.int (-1), .int s1, .ref s0] (G, F, I, J) b post px := ip_s_iconst f50_40 (by decide)
theorem f50_41 : ip_fetch 50 41 = some (.iastore, 1) := by decide +kernel
theorem s50_41 {x0 : Nat} {x1 : Int32} {x2 : Int32} {x3 : Option Value} {s0 : Nat} {s1 : Int32} {s2 : Int32} : ip_WP 50 41 [some (.ref x0), some (.int x1), some (.int x2), x3] [.int s2, .int s1, .ref s0] (G, F, I, J) b post px ↔ (ip_inA G s0 0 s1 = true ∧ ip_WP 50 42 [some (.ref x0), some (.int x1), some (.int x2), x3] [] (G, F, ip_up I s0 s1.toNatClampNeg s2, J) b post px) := ip_ck_iff ((ip_st_of f50_41).trans rfl) ip_nx_iff
theorem f50_42 : ip_fetch 50 42 = some (.aload_n 0, 1) := by decide +kernel
theorem s50_42 {x0 : Nat} {x1 : Int32} {x2 : Int32} {x3 : Option Value} : ip_WP 50 42 [some (.ref x0), some (.int x1), some (.int x2), x3] [] (G, F, I, J) b post px ↔ ip_WP 50 43 [some (.ref x0), some (.int x1), some (.int x2), x3] [.ref x0] (G, F, I, J) b post px := ip_nx_iff ((ip_st_of f50_42).trans rfl)
theorem f50_43 : ip_fetch 50 43 = some (.bipush 8, 2) := by decide +kernel
theorem s50_43 {x0 : Nat} {x1 : Int32} {x2 : Int32} {x3 : Option Value} {s0 : Nat} : ip_WP 50 43 [some (.ref x0), some (.int x1), some (.int x2), x3] [.ref s0] (G, F, I, J) b post px ↔ ip_WP 50 45 [some (.ref x0), some (.int x1), some (.int x2), x3] [.int 8, .ref s0] (G, F, I, J) b post px := ip_s_bipush f50_43 (by decide)
theorem f50_45 : ip_fetch 50 45 = some (.invokevirtual 168, 3) := by decide +kernel
set_option maxRecDepth 100000 in
theorem s50_45 {x0 : Nat} {x1 : Int32} {x2 : Int32} {x3 : Option Value} {s0 : Nat} {s1 : Int32} : ip_WP 50 45 [some (.ref x0), some (.int x1), some (.int x2), x3] [.int s1, .ref s0] (G, F, I, J) b post px ↔ (ip_isO G s0 1 = true ∧ ip_WP 33 0 [some (.ref s0), some (.int s1)] [] (G, F, I, J) (0, 0) (fun r h' => ip_WP 50 48 [some (.ref x0), some (.int x1), some (.int x2), x3] (r.toList ++ []) h' b post px) (fun _ _ => False)) := ip_ck_iff (x := ip_cl 33 [some (.ref s0), some (.int s1)] [] (0, 0) b) ((ip_st_of f50_45).trans rfl) (ip_cl_iff)
theorem f50_48 : ip_fetch 50 48 = some (.ifCond .ne 4, 3) := by decide +kernel
theorem s50_48 {x0 : Nat} {x1 : Int32} {x2 : Int32} {x3 : Option Value} {s0 : Int32} : ip_WP 50 48 [some (.ref x0), some (.int x1), some (.int x2), x3] [.int s0] (G, F, I, J) b post px ↔ if ¬ s0 = 0 then ip_WP 50 52 [some (.ref x0), some (.int x1), some (.int x2), x3] [] (G, F, I, J) b post px else ip_WP 50 51 [some (.ref x0), some (.int x1), some (.int x2), x3] [] (G, F, I, J) b post px := ip_s_if_ne f50_48 rfl
theorem f50_51 : ip_fetch 50 51 = some (.return_, 1) := by decide +kernel
theorem s50_51 {x0 : Nat} {x1 : Int32} {x2 : Int32} {x3 : Option Value} : ip_WP 50 51 [some (.ref x0), some (.int x1), some (.int x2), x3] [] (G, F, I, J) b post px ↔ post none (G, F, I, J) := ip_rt_iff ((ip_st_of f50_51).trans rfl)
theorem f50_52 : ip_fetch 50 52 = some (.aload_n 0, 1) := by decide +kernel
theorem s50_52 {x0 : Nat} {x1 : Int32} {x2 : Int32} {x3 : Option Value} : ip_WP 50 52 [some (.ref x0), some (.int x1), some (.int x2), x3] [] (G, F, I, J) b post px ↔ ip_WP 50 53 [some (.ref x0), some (.int x1), some (.int x2), x3] [.ref x0] (G, F, I, J) b post px := ip_nx_iff ((ip_st_of f50_52).trans rfl)
theorem f50_53 : ip_fetch 50 53 = some (.invokevirtual 146, 3) := by decide +kernel
set_option maxRecDepth 100000 in
theorem s50_53 {x0 : Nat} {x1 : Int32} {x2 : Int32} {x3 : Option Value} {s0 : Nat} : ip_WP 50 53 [some (.ref x0), some (.int x1), some (.int x2), x3] [.ref s0] (G, F, I, J) b post px ↔ (ip_isO G s0 1 = true ∧ ip_WP 31 0 [some (.ref s0), none] [] (G, F, I, J) (0, 0) (fun r h' => ip_WP 50 56 [some (.ref x0), some (.int x1), some (.int x2), x3] (r.toList ++ []) h' b post px) (fun _ _ => False)) := ip_ck_iff (x := ip_cl 31 [some (.ref s0), none] [] (0, 0) b) ((ip_st_of f50_53).trans rfl) (ip_cl_iff)
theorem f50_56 : ip_fetch 50 56 = some (.aload_n 0, 1) := by decide +kernel
theorem s50_56 {x0 : Nat} {x1 : Int32} {x2 : Int32} {x3 : Option Value} : ip_WP 50 56 [some (.ref x0), some (.int x1), some (.int x2), x3] [] (G, F, I, J) b post px ↔ ip_WP 50 57 [some (.ref x0), some (.int x1), some (.int x2), x3] [.ref x0] (G, F, I, J) b post px := ip_nx_iff ((ip_st_of f50_56).trans rfl)
theorem f50_57 : ip_fetch 50 57 = some (.iconst 1, 1) := by decide +kernel
theorem s50_57 {x0 : Nat} {x1 : Int32} {x2 : Int32} {x3 : Option Value} {s0 : Nat} : ip_WP 50 57 [some (.ref x0), some (.int x1), some (.int x2), x3] [.ref s0] (G, F, I, J) b post px ↔ ip_WP 50 58 [some (.ref x0), some (.int x1), some (.int x2), x3] [.int 1, .ref s0] (G, F, I, J) b post px := ip_s_iconst f50_57 (by decide)
theorem f50_58 : ip_fetch 50 58 = some (.invokevirtual 175, 3) := by decide +kernel
set_option maxRecDepth 100000 in
theorem s50_58 {x0 : Nat} {x1 : Int32} {x2 : Int32} {x3 : Option Value} {s0 : Nat} {s1 : Int32} : ip_WP 50 58 [some (.ref x0), some (.int x1), some (.int x2), x3] [.int s1, .ref s0] (G, F, I, J) b post px ↔ (ip_isO G s0 1 = true ∧ ip_WP 41 0 [some (.ref s0), some (.int s1), none] [] (G, F, I, J) (0, 0) (fun r h' => ip_WP 50 61 [some (.ref x0), some (.int x1), some (.int x2), x3] (r.toList ++ []) h' b post px) (fun _ _ => False)) := ip_ck_iff (x := ip_cl 41 [some (.ref s0), some (.int s1), none] [] (0, 0) b) ((ip_st_of f50_58).trans rfl) (ip_cl_iff)
theorem f50_61 : ip_fetch 50 61 = some (.istore_n 3, 1) := by decide +kernel
theorem s50_61 {x0 : Nat} {x1 : Int32} {x2 : Int32} {x3 : Option Value} {s0 : Int32} : ip_WP 50 61 [some (.ref x0), some (.int x1), some (.int x2), x3] [.int s0] (G, F, I, J) b post px ↔ ip_WP 50 62 [some (.ref x0), some (.int x1), some (.int x2), some (.int s0)] [] (G, F, I, J) b post px := ip_nx_iff ((ip_st_of f50_61).trans rfl)
theorem f50_62 : ip_fetch 50 62 = some (.aload_n 0, 1) := by decide +kernel
theorem s50_62 {x0 : Nat} {x1 : Int32} {x2 : Int32} {x3 : Int32} : ip_WP 50 62 [some (.ref x0), some (.int x1), some (.int x2), some (.int x3)] [] (G, F, I, J) b post px ↔ ip_WP 50 63 [some (.ref x0), some (.int x1), some (.int x2), some (.int x3)] [.ref x0] (G, F, I, J) b post px := ip_nx_iff ((ip_st_of f50_62).trans rfl)
theorem f50_63 : ip_fetch 50 63 = some (.iconst 0, 1) := by decide +kernel
theorem s50_63 {x0 : Nat} {x1 : Int32} {x2 : Int32} {x3 : Int32} {s0 : Nat} : ip_WP 50 63 [some (.ref x0), some (.int x1), some (.int x2), some (.int x3)] [.ref s0] (G, F, I, J) b post px ↔ ip_WP 50 64 [some (.ref x0), some (.int x1), some (.int x2), some (.int x3)] [.int 0, .ref s0] (G, F, I, J) b post px := ip_s_iconst f50_63 (by decide)
theorem f50_64 : ip_fetch 50 64 = some (.invokevirtual 171, 3) := by decide +kernel
set_option maxRecDepth 100000 in
theorem s50_64 {x0 : Nat} {x1 : Int32} {x2 : Int32} {x3 : Int32} {s0 : Nat} {s1 : Int32} : ip_WP 50 64 [some (.ref x0), some (.int x1), some (.int x2), some (.int x3)] [.int s1, .ref s0] (G, F, I, J) b post px ↔ (ip_isO G s0 1 = true ∧ ip_WP 42 0 [some (.ref s0), some (.int s1)] [] (G, F, I, J) (0, 0) (fun r h' => ip_WP 50 67 [some (.ref x0), some (.int x1), some (.int x2), some (.int x3)] (r.toList ++ []) h' b post px) (fun _ _ => False)) := ip_ck_iff (x := ip_cl 42 [some (.ref s0), some (.int s1)] [] (0, 0) b) ((ip_st_of f50_64).trans rfl) (ip_cl_iff)
theorem f50_67 : ip_fetch 50 67 = some (.ifCond .eq 10, 3) := by decide +kernel
theorem s50_67 {x0 : Nat} {x1 : Int32} {x2 : Int32} {x3 : Int32} {s0 : Int32} : ip_WP 50 67 [some (.ref x0), some (.int x1), some (.int x2), some (.int x3)] [.int s0] (G, F, I, J) b post px ↔ if s0 = 0 then ip_WP 50 77 [some (.ref x0), some (.int x1), some (.int x2), some (.int x3)] [] (G, F, I, J) b post px else ip_WP 50 70 [some (.ref x0), some (.int x1), some (.int x2), some (.int x3)] [] (G, F, I, J) b post px := ip_s_if_eq f50_67 rfl
theorem f50_70 : ip_fetch 50 70 = some (.aload_n 0, 1) := by decide +kernel
theorem s50_70 {x0 : Nat} {x1 : Int32} {x2 : Int32} {x3 : Int32} : ip_WP 50 70 [some (.ref x0), some (.int x1), some (.int x2), some (.int x3)] [] (G, F, I, J) b post px ↔ ip_WP 50 71 [some (.ref x0), some (.int x1), some (.int x2), some (.int x3)] [.ref x0] (G, F, I, J) b post px := ip_nx_iff ((ip_st_of f50_70).trans rfl)
theorem f50_71 : ip_fetch 50 71 = some (.getfield 65, 3) := by decide +kernel
set_option maxRecDepth 100000 in
theorem s50_71 {x0 : Nat} {x1 : Int32} {x2 : Int32} {x3 : Int32} {s0 : Nat} : ip_WP 50 71 [some (.ref x0), some (.int x1), some (.int x2), some (.int x3)] [.ref s0] (G, F, I, J) b post px ↔ (ip_isO G s0 1 = true ∧ ip_WP 50 74 [some (.ref x0), some (.int x1), some (.int x2), some (.int x3)] [F s0 27] (G, F, I, J) b post px) := ip_s_getf f50_71 (by decide +kernel)
theorem f50_74 : ip_fetch 50 74 = some (.iload_n 1, 1) := by decide +kernel
theorem s50_74 {x0 : Nat} {x1 : Int32} {x2 : Int32} {x3 : Int32} {s0 : Nat} : ip_WP 50 74 [some (.ref x0), some (.int x1), some (.int x2), some (.int x3)] [.ref s0] (G, F, I, J) b post px ↔ ip_WP 50 75 [some (.ref x0), some (.int x1), some (.int x2), some (.int x3)] [.int x1, .ref s0] (G, F, I, J) b post px := ip_nx_iff ((ip_st_of f50_74).trans rfl)
theorem f50_75 : ip_fetch 50 75 = some (.iload_n 3, 1) := by decide +kernel
theorem s50_75 {x0 : Nat} {x1 : Int32} {x2 : Int32} {x3 : Int32} {s0 : Nat} {s1 : Int32} : ip_WP 50 75 [some (.ref x0), some (.int x1), some (.int x2), some (.int x3)] [.int s1, .ref s0] (G, F, I, J) b post px ↔ ip_WP 50 76 [some (.ref x0), some (.int x1), some (.int x2), some (.int x3)] [.int x3, .int s1, .ref s0] (G, F, I, J) b post px := ip_nx_iff ((ip_st_of f50_75).trans rfl)
theorem f50_76 : ip_fetch 50 76 = some (.iastore, 1) := by decide +kernel
theorem s50_76 {x0 : Nat} {x1 : Int32} {x2 : Int32} {x3 : Int32} {s0 : Nat} {s1 : Int32} {s2 : Int32} : ip_WP 50 76 [some (.ref x0), some (.int x1), some (.int x2), some (.int x3)] [.int s2, .int s1, .ref s0] (G, F, I, J) b post px ↔ (ip_inA G s0 0 s1 = true ∧ ip_WP 50 77 [some (.ref x0), some (.int x1), some (.int x2), some (.int x3)] [] (G, F, ip_up I s0 s1.toNatClampNeg s2, J) b post px) := ip_ck_iff ((ip_st_of f50_76).trans rfl) ip_nx_iff
theorem f50_77 : ip_fetch 50 77 = some (.return_, 1) := by decide +kernel
theorem s50_77 {x0 : Nat} {x1 : Int32} {x2 : Int32} {x3 : Int32} : ip_WP 50 77 [some (.ref x0), some (.int x1), some (.int x2), some (.int x3)] [] (G, F, I, J) b post px ↔ post none (G, F, I, J) := ip_rt_iff ((ip_st_of f50_77).trans rfl)
theorem f51_0 : ip_fetch 51 0 = some (.aload_n 0, 1) := by decide +kernel
theorem s51_0 {x0 : Nat} {x1 : Option Value} {x2 : Option Value} {x3 : Option Value} : ip_WP 51 0 [some (.ref x0), x1, x2, x3] [] (G, F, I, J) b post px ↔ ip_WP 51 1 [some (.ref x0), x1, x2, x3] [.ref x0] (G, F, I, J) b post px := ip_nx_iff ((ip_st_of f51_0).trans rfl)
theorem f51_1 : ip_fetch 51 1 = some (.iconst 3, 1) := by decide +kernel
theorem s51_1 {x0 : Nat} {x1 : Option Value} {x2 : Option Value} {x3 : Option Value} {s0 : Nat} : ip_WP 51 1 [some (.ref x0), x1, x2, x3] [.ref s0] (G, F, I, J) b post px ↔ ip_WP 51 2 [some (.ref x0), x1, x2, x3] [.int 3, .ref s0] (G, F, I, J) b post px := ip_s_iconst f51_1 (by decide)
theorem f51_2 : ip_fetch 51 2 = some (.invokevirtual 161, 3) := by decide +kernel
set_option maxRecDepth 100000 in
theorem s51_2 {x0 : Nat} {x1 : Option Value} {x2 : Option Value} {x3 : Option Value} {s0 : Nat} {s1 : Int32} : ip_WP 51 2 [some (.ref x0), x1, x2, x3] [.int s1, .ref s0] (G, F, I, J) b post px ↔ (ip_isO G s0 1 = true ∧ ip_WP 40 0 [some (.ref s0), some (.int s1)] [] (G, F, I, J) (0, 0) (fun r h' => ip_WP 51 5 [some (.ref x0), x1, x2, x3] (r.toList ++ []) h' b post px) (fun _ _ => False)) := ip_ck_iff (x := ip_cl 40 [some (.ref s0), some (.int s1)] [] (0, 0) b) ((ip_st_of f51_2).trans rfl) (ip_cl_iff)
theorem f51_5 : ip_fetch 51 5 = some (.istore_n 1, 1) := by decide +kernel
theorem s51_5 {x0 : Nat} {x1 : Option Value} {x2 : Option Value} {x3 : Option Value} {s0 : Int32} : ip_WP 51 5 [some (.ref x0), x1, x2, x3] [.int s0] (G, F, I, J) b post px ↔ ip_WP 51 6 [some (.ref x0), some (.int s0), x2, x3] [] (G, F, I, J) b post px := ip_nx_iff ((ip_st_of f51_5).trans rfl)
theorem f51_6 : ip_fetch 51 6 = some (.aload_n 0, 1) := by decide +kernel
theorem s51_6 {x0 : Nat} {x1 : Int32} {x2 : Option Value} {x3 : Option Value} : ip_WP 51 6 [some (.ref x0), some (.int x1), x2, x3] [] (G, F, I, J) b post px ↔ ip_WP 51 7 [some (.ref x0), some (.int x1), x2, x3] [.ref x0] (G, F, I, J) b post px := ip_nx_iff ((ip_st_of f51_6).trans rfl)
theorem f51_7 : ip_fetch 51 7 = some (.bipush 58, 2) := by decide +kernel
theorem s51_7 {x0 : Nat} {x1 : Int32} {x2 : Option Value} {x3 : Option Value} {s0 : Nat} : ip_WP 51 7 [some (.ref x0), some (.int x1), x2, x3] [.ref s0] (G, F, I, J) b post px ↔ ip_WP 51 9 [some (.ref x0), some (.int x1), x2, x3] [.int 58, .ref s0] (G, F, I, J) b post px := ip_s_bipush f51_7 (by decide)
theorem f51_9 : ip_fetch 51 9 = some (.invokevirtual 178, 3) := by decide +kernel
set_option maxRecDepth 100000 in
theorem s51_9 {x0 : Nat} {x1 : Int32} {x2 : Option Value} {x3 : Option Value} {s0 : Nat} {s1 : Int32} : ip_WP 51 9 [some (.ref x0), some (.int x1), x2, x3] [.int s1, .ref s0] (G, F, I, J) b post px ↔ (ip_isO G s0 1 = true ∧ ip_WP 34 0 [some (.ref s0), some (.int s1)] [] (G, F, I, J) (0, 0) (fun r h' => ip_WP 51 12 [some (.ref x0), some (.int x1), x2, x3] (r.toList ++ []) h' b post px) (fun _ _ => False)) := ip_ck_iff (x := ip_cl 34 [some (.ref s0), some (.int s1)] [] (0, 0) b) ((ip_st_of f51_9).trans rfl) (ip_cl_iff)
theorem f51_12 : ip_fetch 51 12 = some (.aload_n 0, 1) := by decide +kernel
theorem s51_12 {x0 : Nat} {x1 : Int32} {x2 : Option Value} {x3 : Option Value} : ip_WP 51 12 [some (.ref x0), some (.int x1), x2, x3] [] (G, F, I, J) b post px ↔ ip_WP 51 13 [some (.ref x0), some (.int x1), x2, x3] [.ref x0] (G, F, I, J) b post px := ip_nx_iff ((ip_st_of f51_12).trans rfl)
theorem f51_13 : ip_fetch 51 13 = some (.getfield 101, 3) := by decide +kernel
set_option maxRecDepth 100000 in
theorem s51_13 {x0 : Nat} {x1 : Int32} {x2 : Option Value} {x3 : Option Value} {s0 : Nat} : ip_WP 51 13 [some (.ref x0), some (.int x1), x2, x3] [.ref s0] (G, F, I, J) b post px ↔ (ip_isO G s0 1 = true ∧ ip_WP 51 16 [some (.ref x0), some (.int x1), x2, x3] [F s0 6] (G, F, I, J) b post px) := ip_s_getf f51_13 (by decide +kernel)
theorem f51_16 : ip_fetch 51 16 = some (.ifCond .ne 7, 3) := by decide +kernel
theorem s51_16 {x0 : Nat} {x1 : Int32} {x2 : Option Value} {x3 : Option Value} {s0 : Int32} : ip_WP 51 16 [some (.ref x0), some (.int x1), x2, x3] [.int s0] (G, F, I, J) b post px ↔ if ¬ s0 = 0 then ip_WP 51 23 [some (.ref x0), some (.int x1), x2, x3] [] (G, F, I, J) b post px else ip_WP 51 19 [some (.ref x0), some (.int x1), x2, x3] [] (G, F, I, J) b post px := ip_s_if_ne f51_16 rfl
theorem f51_19 : ip_fetch 51 19 = some (.iconst 1, 1) := by decide +kernel
theorem s51_19 {x0 : Nat} {x1 : Int32} {x2 : Option Value} {x3 : Option Value} : ip_WP 51 19 [some (.ref x0), some (.int x1), x2, x3] [] (G, F, I, J) b post px ↔ ip_WP 51 20 [some (.ref x0), some (.int x1), x2, x3] [.int 1] (G, F, I, J) b post px := ip_s_iconst f51_19 (by decide)
theorem f51_20 : ip_fetch 51 20 = some (.goto 4, 3) := by decide +kernel
theorem s51_20 {x0 : Nat} {x1 : Int32} {x2 : Option Value} {x3 : Option Value} {s0 : Int32} : ip_WP 51 20 [some (.ref x0), some (.int x1), x2, x3] [.int s0] (G, F, I, J) b post px ↔ ip_WP 51 24 [some (.ref x0), some (.int x1), x2, x3] [.int s0] (G, F, I, J) b post px := ip_nx_iff ((ip_st_of f51_20).trans rfl)
theorem f51_23 : ip_fetch 51 23 = some (.iconst 0, 1) := by decide +kernel
theorem s51_23 {x0 : Nat} {x1 : Int32} {x2 : Option Value} {x3 : Option Value} : ip_WP 51 23 [some (.ref x0), some (.int x1), x2, x3] [] (G, F, I, J) b post px ↔ ip_WP 51 24 [some (.ref x0), some (.int x1), x2, x3] [.int 0] (G, F, I, J) b post px := ip_s_iconst f51_23 (by decide)
theorem f51_24 : ip_fetch 51 24 = some (.istore_n 2, 1) := by decide +kernel
theorem s51_24 {x0 : Nat} {x1 : Int32} {x2 : Option Value} {x3 : Option Value} {s0 : Int32} : ip_WP 51 24 [some (.ref x0), some (.int x1), x2, x3] [.int s0] (G, F, I, J) b post px ↔ ip_WP 51 25 [some (.ref x0), some (.int x1), some (.int s0), x3] [] (G, F, I, J) b post px := ip_nx_iff ((ip_st_of f51_24).trans rfl)
theorem f51_25 : ip_fetch 51 25 = some (.iload_n 2, 1) := by decide +kernel
theorem s51_25 {x0 : Nat} {x1 : Int32} {x2 : Int32} {x3 : Option Value} : ip_WP 51 25 [some (.ref x0), some (.int x1), some (.int x2), x3] [] (G, F, I, J) b post px ↔ ip_WP 51 26 [some (.ref x0), some (.int x1), some (.int x2), x3] [.int x2] (G, F, I, J) b post px := ip_nx_iff ((ip_st_of f51_25).trans rfl)
theorem f51_26 : ip_fetch 51 26 = some (.ifCond .eq 62, 3) := by decide +kernel
theorem s51_26 {x0 : Nat} {x1 : Int32} {x2 : Int32} {x3 : Option Value} {s0 : Int32} : ip_WP 51 26 [some (.ref x0), some (.int x1), some (.int x2), x3] [.int s0] (G, F, I, J) b post px ↔ if s0 = 0 then ip_WP 51 88 [some (.ref x0), some (.int x1), some (.int x2), x3] [] (G, F, I, J) b post px else ip_WP 51 29 [some (.ref x0), some (.int x1), some (.int x2), x3] [] (G, F, I, J) b post px := ip_s_if_eq f51_26 rfl
theorem f51_29 : ip_fetch 51 29 = some (.aload_n 0, 1) := by decide +kernel
theorem s51_29 {x0 : Nat} {x1 : Int32} {x2 : Int32} {x3 : Option Value} : ip_WP 51 29 [some (.ref x0), some (.int x1), some (.int x2), x3] [] (G, F, I, J) b post px ↔ ip_WP 51 30 [some (.ref x0), some (.int x1), some (.int x2), x3] [.ref x0] (G, F, I, J) b post px := ip_nx_iff ((ip_st_of f51_29).trans rfl)
theorem f51_30 : ip_fetch 51 30 = some (.iconst 0, 1) := by decide +kernel
theorem s51_30 {x0 : Nat} {x1 : Int32} {x2 : Int32} {x3 : Option Value} {s0 : Nat} : ip_WP 51 30 [some (.ref x0), some (.int x1), some (.int x2), x3] [.ref s0] (G, F, I, J) b post px ↔ ip_WP 51 31 [some (.ref x0), some (.int x1), some (.int x2), x3] [.int 0, .ref s0] (G, F, I, J) b post px := ip_s_iconst f51_30 (by decide)
theorem f51_31 : ip_fetch 51 31 = some (.invokevirtual 175, 3) := by decide +kernel
set_option maxRecDepth 100000 in
theorem s51_31 {x0 : Nat} {x1 : Int32} {x2 : Int32} {x3 : Option Value} {s0 : Nat} {s1 : Int32} : ip_WP 51 31 [some (.ref x0), some (.int x1), some (.int x2), x3] [.int s1, .ref s0] (G, F, I, J) b post px ↔ (ip_isO G s0 1 = true ∧ ip_WP 41 0 [some (.ref s0), some (.int s1), none] [] (G, F, I, J) (0, 0) (fun r h' => ip_WP 51 34 [some (.ref x0), some (.int x1), some (.int x2), x3] (r.toList ++ []) h' b post px) (fun _ _ => False)) := ip_ck_iff (x := ip_cl 41 [some (.ref s0), some (.int s1), none] [] (0, 0) b) ((ip_st_of f51_31).trans rfl) (ip_cl_iff)
theorem f51_34 : ip_fetch 51 34 = some (.istore_n 3, 1) := by decide +kernel
theorem s51_34 {x0 : Nat} {x1 : Int32} {x2 : Int32} {x3 : Option Value} {s0 : Int32} : ip_WP 51 34 [some (.ref x0), some (.int x1), some (.int x2), x3] [.int s0] (G, F, I, J) b post px ↔ ip_WP 51 35 [some (.ref x0), some (.int x1), some (.int x2), some (.int s0)] [] (G, F, I, J) b post px := ip_nx_iff ((ip_st_of f51_34).trans rfl)
theorem f51_35 : ip_fetch 51 35 = some (.aload_n 0, 1) := by decide +kernel
theorem s51_35 {x0 : Nat} {x1 : Int32} {x2 : Int32} {x3 : Int32} : ip_WP 51 35 [some (.ref x0), some (.int x1), some (.int x2), some (.int x3)] [] (G, F, I, J) b post px ↔ ip_WP 51 36 [some (.ref x0), some (.int x1), some (.int x2), some (.int x3)] [.ref x0] (G, F, I, J) b post px := ip_nx_iff ((ip_st_of f51_35).trans rfl)
theorem f51_36 : ip_fetch 51 36 = some (.aload_n 0, 1) := by decide +kernel
theorem s51_36 {x0 : Nat} {x1 : Int32} {x2 : Int32} {x3 : Int32} {s0 : Nat} : ip_WP 51 36 [some (.ref x0), some (.int x1), some (.int x2), some (.int x3)] [.ref s0] (G, F, I, J) b post px ↔ ip_WP 51 37 [some (.ref x0), some (.int x1), some (.int x2), some (.int x3)] [.ref x0, .ref s0] (G, F, I, J) b post px := ip_nx_iff ((ip_st_of f51_36).trans rfl)
theorem f51_37 : ip_fetch 51 37 = some (.getfield 101, 3) := by decide +kernel
set_option maxRecDepth 100000 in
theorem s51_37 {x0 : Nat} {x1 : Int32} {x2 : Int32} {x3 : Int32} {s0 : Nat} {s1 : Nat} : ip_WP 51 37 [some (.ref x0), some (.int x1), some (.int x2), some (.int x3)] [.ref s1, .ref s0] (G, F, I, J) b post px ↔ (ip_isO G s1 1 = true ∧ ip_WP 51 40 [some (.ref x0), some (.int x1), some (.int x2), some (.int x3)] [F s1 6, .ref s0] (G, F, I, J) b post px) := ip_s_getf f51_37 (by decide +kernel)
theorem f51_40 : ip_fetch 51 40 = some (.ifCond .ne 21, 3) := by decide +kernel
theorem s51_40 {x0 : Nat} {x1 : Int32} {x2 : Int32} {x3 : Int32} {s0 : Nat} {s1 : Int32} : ip_WP 51 40 [some (.ref x0), some (.int x1), some (.int x2), some (.int x3)] [.int s1, .ref s0] (G, F, I, J) b post px ↔ if ¬ s1 = 0 then ip_WP 51 61 [some (.ref x0), some (.int x1), some (.int x2), some (.int x3)] [.ref s0] (G, F, I, J) b post px else ip_WP 51 43 [some (.ref x0), some (.int x1), some (.int x2), some (.int x3)] [.ref s0] (G, F, I, J) b post px := ip_s_if_ne f51_40 rfl
theorem f51_43 : ip_fetch 51 43 = some (.aload_n 0, 1) := by decide +kernel
theorem s51_43 {x0 : Nat} {x1 : Int32} {x2 : Int32} {x3 : Int32} {s0 : Nat} : ip_WP 51 43 [some (.ref x0), some (.int x1), some (.int x2), some (.int x3)] [.ref s0] (G, F, I, J) b post px ↔ ip_WP 51 44 [some (.ref x0), some (.int x1), some (.int x2), some (.int x3)] [.ref x0, .ref s0] (G, F, I, J) b post px := ip_nx_iff ((ip_st_of f51_43).trans rfl)
theorem f51_44 : ip_fetch 51 44 = some (.getfield 68, 3) := by decide +kernel
set_option maxRecDepth 100000 in
theorem s51_44 {x0 : Nat} {x1 : Int32} {x2 : Int32} {x3 : Int32} {s0 : Nat} {s1 : Nat} : ip_WP 51 44 [some (.ref x0), some (.int x1), some (.int x2), some (.int x3)] [.ref s1, .ref s0] (G, F, I, J) b post px ↔ (ip_isO G s1 1 = true ∧ ip_WP 51 47 [some (.ref x0), some (.int x1), some (.int x2), some (.int x3)] [F s1 28, .ref s0] (G, F, I, J) b post px) := ip_s_getf f51_44 (by decide +kernel)
theorem f51_47 : ip_fetch 51 47 = some (.bipush 12, 2) := by decide +kernel
theorem s51_47 {x0 : Nat} {x1 : Int32} {x2 : Int32} {x3 : Int32} {s0 : Nat} {s1 : Nat} : ip_WP 51 47 [some (.ref x0), some (.int x1), some (.int x2), some (.int x3)] [.ref s1, .ref s0] (G, F, I, J) b post px ↔ ip_WP 51 49 [some (.ref x0), some (.int x1), some (.int x2), some (.int x3)] [.int 12, .ref s1, .ref s0] (G, F, I, J) b post px := ip_s_bipush f51_47 (by decide)
theorem f51_49 : ip_fetch 51 49 = some (.iload_n 1, 1) := by decide +kernel
theorem s51_49 {x0 : Nat} {x1 : Int32} {x2 : Int32} {x3 : Int32} {s0 : Nat} {s1 : Nat} {s2 : Int32} : ip_WP 51 49 [some (.ref x0), some (.int x1), some (.int x2), some (.int x3)] [.int s2, .ref s1, .ref s0] (G, F, I, J) b post px ↔ ip_WP 51 50 [some (.ref x0), some (.int x1), some (.int x2), some (.int x3)] [.int x1, .int s2, .ref s1, .ref s0] (G, F, I, J) b post px := ip_nx_iff ((ip_st_of f51_49).trans rfl)
theorem f51_50 : ip_fetch 51 50 = some (.imul, 1) := by decide +kernel
theorem s51_50 {x0 : Nat} {x1 : Int32} {x2 : Int32} {x3 : Int32} {s0 : Nat} {s1 : Nat} {s2 : Int32} {s3 : Int32} : ip_WP 51 50 [some (.ref x0), some (.int x1), some (.int x2), some (.int x3)] [.int s3, .int s2, .ref s1, .ref s0] (G, F, I, J) b post px ↔ ip_WP 51 51 [some (.ref x0), some (.int x1), some (.int x2), some (.int x3)] [.int (s2 * s3), .ref s1, .ref s0] (G, F, I, J) b post px := ip_nx_iff ((ip_st_of f51_50).trans rfl)
theorem f51_51 : ip_fetch 51 51 = some (.iload_n 3, 1) := by decide +kernel
theorem s51_51 {x0 : Nat} {x1 : Int32} {x2 : Int32} {x3 : Int32} {s0 : Nat} {s1 : Nat} {s2 : Int32} : ip_WP 51 51 [some (.ref x0), some (.int x1), some (.int x2), some (.int x3)] [.int s2, .ref s1, .ref s0] (G, F, I, J) b post px ↔ ip_WP 51 52 [some (.ref x0), some (.int x1), some (.int x2), some (.int x3)] [.int x3, .int s2, .ref s1, .ref s0] (G, F, I, J) b post px := ip_nx_iff ((ip_st_of f51_51).trans rfl)
theorem f51_52 : ip_fetch 51 52 = some (.iadd, 1) := by decide +kernel
theorem s51_52 {x0 : Nat} {x1 : Int32} {x2 : Int32} {x3 : Int32} {s0 : Nat} {s1 : Nat} {s2 : Int32} {s3 : Int32} : ip_WP 51 52 [some (.ref x0), some (.int x1), some (.int x2), some (.int x3)] [.int s3, .int s2, .ref s1, .ref s0] (G, F, I, J) b post px ↔ ip_WP 51 53 [some (.ref x0), some (.int x1), some (.int x2), some (.int x3)] [.int (s2 + s3), .ref s1, .ref s0] (G, F, I, J) b post px := ip_nx_iff ((ip_st_of f51_52).trans rfl)
theorem f51_53 : ip_fetch 51 53 = some (.baload, 1) := by decide +kernel
theorem s51_53 {x0 : Nat} {x1 : Int32} {x2 : Int32} {x3 : Int32} {s0 : Nat} {s1 : Nat} {s2 : Int32} : ip_WP 51 53 [some (.ref x0), some (.int x1), some (.int x2), some (.int x3)] [.int s2, .ref s1, .ref s0] (G, F, I, J) b post px ↔ ((ip_inA G s1 1 s2 || ip_inA G s1 3 s2) = true ∧ ip_WP 51 54 [some (.ref x0), some (.int x1), some (.int x2), some (.int x3)] [.int (I s1 s2.toNatClampNeg), .ref s0] (G, F, I, J) b post px) := ip_ck_iff ((ip_st_of f51_53).trans rfl) ip_nx_iff
theorem f51_54 : ip_fetch 51 54 = some (.ifCond .eq 7, 3) := by decide +kernel
theorem s51_54 {x0 : Nat} {x1 : Int32} {x2 : Int32} {x3 : Int32} {s0 : Nat} {s1 : Int32} : ip_WP 51 54 [some (.ref x0), some (.int x1), some (.int x2), some (.int x3)] [.int s1, .ref s0] (G, F, I, J) b post px ↔ if s1 = 0 then ip_WP 51 61 [some (.ref x0), some (.int x1), some (.int x2), some (.int x3)] [.ref s0] (G, F, I, J) b post px else ip_WP 51 57 [some (.ref x0), some (.int x1), some (.int x2), some (.int x3)] [.ref s0] (G, F, I, J) b post px := ip_s_if_eq f51_54 rfl
theorem f51_57 : ip_fetch 51 57 = some (.iconst 1, 1) := by decide +kernel
theorem s51_57 {x0 : Nat} {x1 : Int32} {x2 : Int32} {x3 : Int32} {s0 : Nat} : ip_WP 51 57 [some (.ref x0), some (.int x1), some (.int x2), some (.int x3)] [.ref s0] (G, F, I, J) b post px ↔ ip_WP 51 58 [some (.ref x0), some (.int x1), some (.int x2), some (.int x3)] [.int 1, .ref s0] (G, F, I, J) b post px := ip_s_iconst f51_57 (by decide)
theorem f51_58 : ip_fetch 51 58 = some (.goto 4, 3) := by decide +kernel
theorem s51_58 {x0 : Nat} {x1 : Int32} {x2 : Int32} {x3 : Int32} {s0 : Nat} {s1 : Int32} : ip_WP 51 58 [some (.ref x0), some (.int x1), some (.int x2), some (.int x3)] [.int s1, .ref s0] (G, F, I, J) b post px ↔ ip_WP 51 62 [some (.ref x0), some (.int x1), some (.int x2), some (.int x3)] [.int s1, .ref s0] (G, F, I, J) b post px := ip_nx_iff ((ip_st_of f51_58).trans rfl)
theorem f51_61 : ip_fetch 51 61 = some (.iconst 0, 1) := by decide +kernel
theorem s51_61 {x0 : Nat} {x1 : Int32} {x2 : Int32} {x3 : Int32} {s0 : Nat} : ip_WP 51 61 [some (.ref x0), some (.int x1), some (.int x2), some (.int x3)] [.ref s0] (G, F, I, J) b post px ↔ ip_WP 51 62 [some (.ref x0), some (.int x1), some (.int x2), some (.int x3)] [.int 0, .ref s0] (G, F, I, J) b post px := ip_s_iconst f51_61 (by decide)
theorem f51_62 : ip_fetch 51 62 = some (.invokevirtual 171, 3) := by decide +kernel
set_option maxRecDepth 100000 in
theorem s51_62 {x0 : Nat} {x1 : Int32} {x2 : Int32} {x3 : Int32} {s0 : Nat} {s1 : Int32} : ip_WP 51 62 [some (.ref x0), some (.int x1), some (.int x2), some (.int x3)] [.int s1, .ref s0] (G, F, I, J) b post px ↔ (ip_isO G s0 1 = true ∧ ip_WP 42 0 [some (.ref s0), some (.int s1)] [] (G, F, I, J) (0, 0) (fun r h' => ip_WP 51 65 [some (.ref x0), some (.int x1), some (.int x2), some (.int x3)] (r.toList ++ []) h' b post px) (fun _ _ => False)) := ip_ck_iff (x := ip_cl 42 [some (.ref s0), some (.int s1)] [] (0, 0) b) ((ip_st_of f51_62).trans rfl) (ip_cl_iff)
theorem f51_65 : ip_fetch 51 65 = some (.ifCond .eq 15, 3) := by decide +kernel
theorem s51_65 {x0 : Nat} {x1 : Int32} {x2 : Int32} {x3 : Int32} {s0 : Int32} : ip_WP 51 65 [some (.ref x0), some (.int x1), some (.int x2), some (.int x3)] [.int s0] (G, F, I, J) b post px ↔ if s0 = 0 then ip_WP 51 80 [some (.ref x0), some (.int x1), some (.int x2), some (.int x3)] [] (G, F, I, J) b post px else ip_WP 51 68 [some (.ref x0), some (.int x1), some (.int x2), some (.int x3)] [] (G, F, I, J) b post px := ip_s_if_eq f51_65 rfl
theorem f51_68 : ip_fetch 51 68 = some (.aload_n 0, 1) := by decide +kernel
theorem s51_68 {x0 : Nat} {x1 : Int32} {x2 : Int32} {x3 : Int32} : ip_WP 51 68 [some (.ref x0), some (.int x1), some (.int x2), some (.int x3)] [] (G, F, I, J) b post px ↔ ip_WP 51 69 [some (.ref x0), some (.int x1), some (.int x2), some (.int x3)] [.ref x0] (G, F, I, J) b post px := ip_nx_iff ((ip_st_of f51_68).trans rfl)
theorem f51_69 : ip_fetch 51 69 = some (.getfield 68, 3) := by decide +kernel
set_option maxRecDepth 100000 in
theorem s51_69 {x0 : Nat} {x1 : Int32} {x2 : Int32} {x3 : Int32} {s0 : Nat} : ip_WP 51 69 [some (.ref x0), some (.int x1), some (.int x2), some (.int x3)] [.ref s0] (G, F, I, J) b post px ↔ (ip_isO G s0 1 = true ∧ ip_WP 51 72 [some (.ref x0), some (.int x1), some (.int x2), some (.int x3)] [F s0 28] (G, F, I, J) b post px) := ip_s_getf f51_69 (by decide +kernel)
theorem f51_72 : ip_fetch 51 72 = some (.bipush 12, 2) := by decide +kernel
theorem s51_72 {x0 : Nat} {x1 : Int32} {x2 : Int32} {x3 : Int32} {s0 : Nat} : ip_WP 51 72 [some (.ref x0), some (.int x1), some (.int x2), some (.int x3)] [.ref s0] (G, F, I, J) b post px ↔ ip_WP 51 74 [some (.ref x0), some (.int x1), some (.int x2), some (.int x3)] [.int 12, .ref s0] (G, F, I, J) b post px := ip_s_bipush f51_72 (by decide)
theorem f51_74 : ip_fetch 51 74 = some (.iload_n 1, 1) := by decide +kernel
theorem s51_74 {x0 : Nat} {x1 : Int32} {x2 : Int32} {x3 : Int32} {s0 : Nat} {s1 : Int32} : ip_WP 51 74 [some (.ref x0), some (.int x1), some (.int x2), some (.int x3)] [.int s1, .ref s0] (G, F, I, J) b post px ↔ ip_WP 51 75 [some (.ref x0), some (.int x1), some (.int x2), some (.int x3)] [.int x1, .int s1, .ref s0] (G, F, I, J) b post px := ip_nx_iff ((ip_st_of f51_74).trans rfl)
theorem f51_75 : ip_fetch 51 75 = some (.imul, 1) := by decide +kernel
theorem s51_75 {x0 : Nat} {x1 : Int32} {x2 : Int32} {x3 : Int32} {s0 : Nat} {s1 : Int32} {s2 : Int32} : ip_WP 51 75 [some (.ref x0), some (.int x1), some (.int x2), some (.int x3)] [.int s2, .int s1, .ref s0] (G, F, I, J) b post px ↔ ip_WP 51 76 [some (.ref x0), some (.int x1), some (.int x2), some (.int x3)] [.int (s1 * s2), .ref s0] (G, F, I, J) b post px := ip_nx_iff ((ip_st_of f51_75).trans rfl)
theorem f51_76 : ip_fetch 51 76 = some (.iload_n 3, 1) := by decide +kernel
theorem s51_76 {x0 : Nat} {x1 : Int32} {x2 : Int32} {x3 : Int32} {s0 : Nat} {s1 : Int32} : ip_WP 51 76 [some (.ref x0), some (.int x1), some (.int x2), some (.int x3)] [.int s1, .ref s0] (G, F, I, J) b post px ↔ ip_WP 51 77 [some (.ref x0), some (.int x1), some (.int x2), some (.int x3)] [.int x3, .int s1, .ref s0] (G, F, I, J) b post px := ip_nx_iff ((ip_st_of f51_76).trans rfl)
theorem f51_77 : ip_fetch 51 77 = some (.iadd, 1) := by decide +kernel
theorem s51_77 {x0 : Nat} {x1 : Int32} {x2 : Int32} {x3 : Int32} {s0 : Nat} {s1 : Int32} {s2 : Int32} : ip_WP 51 77 [some (.ref x0), some (.int x1), some (.int x2), some (.int x3)] [.int s2, .int s1, .ref s0] (G, F, I, J) b post px ↔ ip_WP 51 78 [some (.ref x0), some (.int x1), some (.int x2), some (.int x3)] [.int (s1 + s2), .ref s0] (G, F, I, J) b post px := ip_nx_iff ((ip_st_of f51_77).trans rfl)
theorem f51_78 : ip_fetch 51 78 = some (.iconst 1, 1) := by decide +kernel
theorem s51_78 {x0 : Nat} {x1 : Int32} {x2 : Int32} {x3 : Int32} {s0 : Nat} {s1 : Int32} : ip_WP 51 78 [some (.ref x0), some (.int x1), some (.int x2), some (.int x3)] [.int s1, .ref s0] (G, F, I, J) b post px ↔ ip_WP 51 79 [some (.ref x0), some (.int x1), some (.int x2), some (.int x3)] [.int 1, .int s1, .ref s0] (G, F, I, J) b post px := ip_s_iconst f51_78 (by decide)
theorem f51_79 : ip_fetch 51 79 = some (.bastore, 1) := by decide +kernel
theorem s51_79 {x0 : Nat} {x1 : Int32} {x2 : Int32} {x3 : Int32} {s0 : Nat} {s1 : Int32} {s2 : Int32} : ip_WP 51 79 [some (.ref x0), some (.int x1), some (.int x2), some (.int x3)] [.int s2, .int s1, .ref s0] (G, F, I, J) b post px ↔ if ip_inA G s0 1 s1 = true then ip_WP 51 80 [some (.ref x0), some (.int x1), some (.int x2), some (.int x3)] [] (G, F, ip_up I s0 s1.toNatClampNeg (vp_nar .byte s2), J) b post px else (ip_inA G s0 3 s1 = true ∧ ip_WP 51 80 [some (.ref x0), some (.int x1), some (.int x2), some (.int x3)] [] (G, F, ip_up I s0 s1.toNatClampNeg (vp_nar .boolean s2), J) b post px) := ip_if_iff ((ip_st_of f51_79).trans rfl) ip_nx_iff (fun hs => ip_ck_iff hs ip_nx_iff)
theorem f51_80 : ip_fetch 51 80 = some (.aload_n 0, 1) := by decide +kernel
theorem s51_80 {x0 : Nat} {x1 : Int32} {x2 : Int32} {x3 : Int32} : ip_WP 51 80 [some (.ref x0), some (.int x1), some (.int x2), some (.int x3)] [] (G, F, I, J) b post px ↔ ip_WP 51 81 [some (.ref x0), some (.int x1), some (.int x2), some (.int x3)] [.ref x0] (G, F, I, J) b post px := ip_nx_iff ((ip_st_of f51_80).trans rfl)
theorem f51_81 : ip_fetch 51 81 = some (.invokevirtual 164, 3) := by decide +kernel
set_option maxRecDepth 100000 in
theorem s51_81 {x0 : Nat} {x1 : Int32} {x2 : Int32} {x3 : Int32} {s0 : Nat} : ip_WP 51 81 [some (.ref x0), some (.int x1), some (.int x2), some (.int x3)] [.ref s0] (G, F, I, J) b post px ↔ (ip_isO G s0 1 = true ∧ ip_WP 35 0 [some (.ref s0)] [] (G, F, I, J) (0, 0) (fun r h' => ip_WP 51 84 [some (.ref x0), some (.int x1), some (.int x2), some (.int x3)] (r.toList ++ []) h' b post px) (fun _ _ => False)) := ip_ck_iff (x := ip_cl 35 [some (.ref s0)] [] (0, 0) b) ((ip_st_of f51_81).trans rfl) (ip_cl_iff)
theorem f51_84 : ip_fetch 51 84 = some (.istore_n 2, 1) := by decide +kernel
theorem s51_84 {x0 : Nat} {x1 : Int32} {x2 : Int32} {x3 : Int32} {s0 : Int32} : ip_WP 51 84 [some (.ref x0), some (.int x1), some (.int x2), some (.int x3)] [.int s0] (G, F, I, J) b post px ↔ ip_WP 51 85 [some (.ref x0), some (.int x1), some (.int s0), some (.int x3)] [] (G, F, I, J) b post px := ip_nx_iff ((ip_st_of f51_84).trans rfl)
theorem f51_85 : ip_fetch 51 85 = some (.goto (-60), 3) := by decide +kernel
theorem s51_85 {x0 : Nat} {x1 : Int32} {x2 : Int32} {x3 : Int32} : ip_WP 51 85 [some (.ref x0), some (.int x1), some (.int x2), some (.int x3)] [] (G, F, I, J) b post px ↔ ip_WP 51 25 [some (.ref x0), some (.int x1), some (.int x2), some (.int x3)] [] (G, F, I, J) b post px := ip_nx_iff ((ip_st_of f51_85).trans rfl)
theorem f51_88 : ip_fetch 51 88 = some (.return_, 1) := by decide +kernel
theorem s51_88 {x0 : Nat} {x1 : Int32} {x2 : Int32} {x3 : Option Value} : ip_WP 51 88 [some (.ref x0), some (.int x1), some (.int x2), x3] [] (G, F, I, J) b post px ↔ post none (G, F, I, J) := ip_rt_iff ((ip_st_of f51_88).trans rfl)
theorem f52_0 : ip_fetch 52 0 = some (.aload_n 0, 1) := by decide +kernel
theorem s52_0 {x0 : Nat} {x1 : Option Value} : ip_WP 52 0 [some (.ref x0), x1] [] (G, F, I, J) b post px ↔ ip_WP 52 1 [some (.ref x0), x1] [.ref x0] (G, F, I, J) b post px := ip_nx_iff ((ip_st_of f52_0).trans rfl)
theorem f52_1 : ip_fetch 52 1 = some (.getfield 123, 3) := by decide +kernel
set_option maxRecDepth 100000 in
theorem s52_1 {x0 : Nat} {x1 : Option Value} {s0 : Nat} : ip_WP 52 1 [some (.ref x0), x1] [.ref s0] (G, F, I, J) b post px ↔ (ip_isO G s0 1 = true ∧ ip_WP 52 4 [some (.ref x0), x1] [F s0 35] (G, F, I, J) b post px) := ip_s_getf f52_1 (by decide +kernel)
theorem f52_4 : ip_fetch 52 4 = some (.iconst 4, 1) := by decide +kernel
theorem s52_4 {x0 : Nat} {x1 : Option Value} {s0 : Int32} : ip_WP 52 4 [some (.ref x0), x1] [.int s0] (G, F, I, J) b post px ↔ ip_WP 52 5 [some (.ref x0), x1] [.int 4, .int s0] (G, F, I, J) b post px := ip_s_iconst f52_4 (by decide)
theorem f52_5 : ip_fetch 52 5 = some (.if_icmp .ne 10, 3) := by decide +kernel
theorem s52_5 {x0 : Nat} {x1 : Option Value} {s0 : Int32} {s1 : Int32} : ip_WP 52 5 [some (.ref x0), x1] [.int s1, .int s0] (G, F, I, J) b post px ↔ if ¬ s0 = s1 then ip_WP 52 15 [some (.ref x0), x1] [] (G, F, I, J) b post px else ip_WP 52 8 [some (.ref x0), x1] [] (G, F, I, J) b post px := ip_s_ic_ne f52_5 rfl
theorem f52_8 : ip_fetch 52 8 = some (.aload_n 0, 1) := by decide +kernel
theorem s52_8 {x0 : Nat} {x1 : Option Value} : ip_WP 52 8 [some (.ref x0), x1] [] (G, F, I, J) b post px ↔ ip_WP 52 9 [some (.ref x0), x1] [.ref x0] (G, F, I, J) b post px := ip_nx_iff ((ip_st_of f52_8).trans rfl)
theorem f52_9 : ip_fetch 52 9 = some (.getfield 136, 3) := by decide +kernel
set_option maxRecDepth 100000 in
theorem s52_9 {x0 : Nat} {x1 : Option Value} {s0 : Nat} : ip_WP 52 9 [some (.ref x0), x1] [.ref s0] (G, F, I, J) b post px ↔ (ip_isO G s0 1 = true ∧ ip_WP 52 12 [some (.ref x0), x1] [F s0 38] (G, F, I, J) b post px) := ip_s_getf f52_9 (by decide +kernel)
theorem f52_12 : ip_fetch 52 12 = some (.goto 4, 3) := by decide +kernel
theorem s52_12 {x0 : Nat} {x1 : Option Value} {s0 : Int32} : ip_WP 52 12 [some (.ref x0), x1] [.int s0] (G, F, I, J) b post px ↔ ip_WP 52 16 [some (.ref x0), x1] [.int s0] (G, F, I, J) b post px := ip_nx_iff ((ip_st_of f52_12).trans rfl)
theorem f52_15 : ip_fetch 52 15 = some (.iconst (-1), 1) := by decide +kernel
theorem s52_15 {x0 : Nat} {x1 : Option Value} : ip_WP 52 15 [some (.ref x0), x1] [] (G, F, I, J) b post px ↔ ip_WP 52 16 [some (.ref x0), x1] [.int (-1)] (G, F, I, J) b post px := ip_s_iconst f52_15 (by decide)
theorem f52_16 : ip_fetch 52 16 = some (.istore_n 1, 1) := by decide +kernel
theorem s52_16 {x0 : Nat} {x1 : Option Value} {s0 : Int32} : ip_WP 52 16 [some (.ref x0), x1] [.int s0] (G, F, I, J) b post px ↔ ip_WP 52 17 [some (.ref x0), some (.int s0)] [] (G, F, I, J) b post px := ip_nx_iff ((ip_st_of f52_16).trans rfl)
theorem f52_17 : ip_fetch 52 17 = some (.iload_n 1, 1) := by decide +kernel
theorem s52_17 {x0 : Nat} {x1 : Int32} : ip_WP 52 17 [some (.ref x0), some (.int x1)] [] (G, F, I, J) b post px ↔ ip_WP 52 18 [some (.ref x0), some (.int x1)] [.int x1] (G, F, I, J) b post px := ip_nx_iff ((ip_st_of f52_17).trans rfl)
theorem f52_18 : ip_fetch 52 18 = some (.ifCond .lt 20, 3) := by decide +kernel
theorem s52_18 {x0 : Nat} {x1 : Int32} {s0 : Int32} : ip_WP 52 18 [some (.ref x0), some (.int x1)] [.int s0] (G, F, I, J) b post px ↔ if s0 < 0 then ip_WP 52 38 [some (.ref x0), some (.int x1)] [] (G, F, I, J) b post px else ip_WP 52 21 [some (.ref x0), some (.int x1)] [] (G, F, I, J) b post px := ip_s_if_lt f52_18 rfl
theorem f52_21 : ip_fetch 52 21 = some (.iload_n 1, 1) := by decide +kernel
theorem s52_21 {x0 : Nat} {x1 : Int32} : ip_WP 52 21 [some (.ref x0), some (.int x1)] [] (G, F, I, J) b post px ↔ ip_WP 52 22 [some (.ref x0), some (.int x1)] [.int x1] (G, F, I, J) b post px := ip_nx_iff ((ip_st_of f52_21).trans rfl)
theorem f52_22 : ip_fetch 52 22 = some (.iconst 2, 1) := by decide +kernel
theorem s52_22 {x0 : Nat} {x1 : Int32} {s0 : Int32} : ip_WP 52 22 [some (.ref x0), some (.int x1)] [.int s0] (G, F, I, J) b post px ↔ ip_WP 52 23 [some (.ref x0), some (.int x1)] [.int 2, .int s0] (G, F, I, J) b post px := ip_s_iconst f52_22 (by decide)
theorem f52_23 : ip_fetch 52 23 = some (.if_icmp .eq 15, 3) := by decide +kernel
theorem s52_23 {x0 : Nat} {x1 : Int32} {s0 : Int32} {s1 : Int32} : ip_WP 52 23 [some (.ref x0), some (.int x1)] [.int s1, .int s0] (G, F, I, J) b post px ↔ if s0 = s1 then ip_WP 52 38 [some (.ref x0), some (.int x1)] [] (G, F, I, J) b post px else ip_WP 52 26 [some (.ref x0), some (.int x1)] [] (G, F, I, J) b post px := ip_s_ic_eq f52_23 rfl
theorem f52_26 : ip_fetch 52 26 = some (.iload_n 1, 1) := by decide +kernel
theorem s52_26 {x0 : Nat} {x1 : Int32} : ip_WP 52 26 [some (.ref x0), some (.int x1)] [] (G, F, I, J) b post px ↔ ip_WP 52 27 [some (.ref x0), some (.int x1)] [.int x1] (G, F, I, J) b post px := ip_nx_iff ((ip_st_of f52_26).trans rfl)
theorem f52_27 : ip_fetch 52 27 = some (.bipush 8, 2) := by decide +kernel
theorem s52_27 {x0 : Nat} {x1 : Int32} {s0 : Int32} : ip_WP 52 27 [some (.ref x0), some (.int x1)] [.int s0] (G, F, I, J) b post px ↔ ip_WP 52 29 [some (.ref x0), some (.int x1)] [.int 8, .int s0] (G, F, I, J) b post px := ip_s_bipush f52_27 (by decide)
theorem f52_29 : ip_fetch 52 29 = some (.if_icmp .eq 9, 3) := by decide +kernel
theorem s52_29 {x0 : Nat} {x1 : Int32} {s0 : Int32} {s1 : Int32} : ip_WP 52 29 [some (.ref x0), some (.int x1)] [.int s1, .int s0] (G, F, I, J) b post px ↔ if s0 = s1 then ip_WP 52 38 [some (.ref x0), some (.int x1)] [] (G, F, I, J) b post px else ip_WP 52 32 [some (.ref x0), some (.int x1)] [] (G, F, I, J) b post px := ip_s_ic_eq f52_29 rfl
theorem f52_32 : ip_fetch 52 32 = some (.iload_n 1, 1) := by decide +kernel
theorem s52_32 {x0 : Nat} {x1 : Int32} : ip_WP 52 32 [some (.ref x0), some (.int x1)] [] (G, F, I, J) b post px ↔ ip_WP 52 33 [some (.ref x0), some (.int x1)] [.int x1] (G, F, I, J) b post px := ip_nx_iff ((ip_st_of f52_32).trans rfl)
theorem f52_33 : ip_fetch 52 33 = some (.bipush 10, 2) := by decide +kernel
theorem s52_33 {x0 : Nat} {x1 : Int32} {s0 : Int32} : ip_WP 52 33 [some (.ref x0), some (.int x1)] [.int s0] (G, F, I, J) b post px ↔ ip_WP 52 35 [some (.ref x0), some (.int x1)] [.int 10, .int s0] (G, F, I, J) b post px := ip_s_bipush f52_33 (by decide)
theorem f52_35 : ip_fetch 52 35 = some (.if_icmp .lt 13, 3) := by decide +kernel
theorem s52_35 {x0 : Nat} {x1 : Int32} {s0 : Int32} {s1 : Int32} : ip_WP 52 35 [some (.ref x0), some (.int x1)] [.int s1, .int s0] (G, F, I, J) b post px ↔ if s0 < s1 then ip_WP 52 48 [some (.ref x0), some (.int x1)] [] (G, F, I, J) b post px else ip_WP 52 38 [some (.ref x0), some (.int x1)] [] (G, F, I, J) b post px := ip_s_ic_lt f52_35 rfl
theorem f52_38 : ip_fetch 52 38 = some (.aload_n 0, 1) := by decide +kernel
theorem s52_38 {x0 : Nat} {x1 : Int32} : ip_WP 52 38 [some (.ref x0), some (.int x1)] [] (G, F, I, J) b post px ↔ ip_WP 52 39 [some (.ref x0), some (.int x1)] [.ref x0] (G, F, I, J) b post px := ip_nx_iff ((ip_st_of f52_38).trans rfl)
theorem f52_39 : ip_fetch 52 39 = some (.iconst 2, 1) := by decide +kernel
theorem s52_39 {x0 : Nat} {x1 : Int32} {s0 : Nat} : ip_WP 52 39 [some (.ref x0), some (.int x1)] [.ref s0] (G, F, I, J) b post px ↔ ip_WP 52 40 [some (.ref x0), some (.int x1)] [.int 2, .ref s0] (G, F, I, J) b post px := ip_s_iconst f52_39 (by decide)
theorem f52_40 : ip_fetch 52 40 = some (.aload_n 0, 1) := by decide +kernel
theorem s52_40 {x0 : Nat} {x1 : Int32} {s0 : Nat} {s1 : Int32} : ip_WP 52 40 [some (.ref x0), some (.int x1)] [.int s1, .ref s0] (G, F, I, J) b post px ↔ ip_WP 52 41 [some (.ref x0), some (.int x1)] [.ref x0, .int s1, .ref s0] (G, F, I, J) b post px := ip_nx_iff ((ip_st_of f52_40).trans rfl)
theorem f52_41 : ip_fetch 52 41 = some (.getfield 117, 3) := by decide +kernel
set_option maxRecDepth 100000 in
theorem s52_41 {x0 : Nat} {x1 : Int32} {s0 : Nat} {s1 : Int32} {s2 : Nat} : ip_WP 52 41 [some (.ref x0), some (.int x1)] [.ref s2, .int s1, .ref s0] (G, F, I, J) b post px ↔ (ip_isO G s2 1 = true ∧ ip_WP 52 44 [some (.ref x0), some (.int x1)] [F s2 36, .int s1, .ref s0] (G, F, I, J) b post px) := ip_s_getf f52_41 (by decide +kernel)
theorem f52_44 : ip_fetch 52 44 = some (.invokevirtual 139, 3) := by decide +kernel
set_option maxRecDepth 100000 in
theorem s52_44 {x0 : Nat} {x1 : Int32} {s0 : Nat} {s1 : Int32} {s2 : Int32} : ip_WP 52 44 [some (.ref x0), some (.int x1)] [.int s2, .int s1, .ref s0] (G, F, I, J) b post px ↔ (ip_isO G s0 1 = true ∧ ip_WP 25 0 [some (.ref s0), some (.int s1), some (.int s2)] [] (G, F, I, J) (0, 0) (fun r h' => ip_WP 52 47 [some (.ref x0), some (.int x1)] (r.toList ++ []) h' b post px) (fun _ _ => False)) := ip_ck_iff (x := ip_cl 25 [some (.ref s0), some (.int s1), some (.int s2)] [] (0, 0) b) ((ip_st_of f52_44).trans rfl) (ip_cl_iff)
theorem f52_47 : ip_fetch 52 47 = some (.return_, 1) := by decide +kernel
theorem s52_47 {x0 : Nat} {x1 : Int32} : ip_WP 52 47 [some (.ref x0), some (.int x1)] [] (G, F, I, J) b post px ↔ post none (G, F, I, J) := ip_rt_iff ((ip_st_of f52_47).trans rfl)
theorem f52_48 : ip_fetch 52 48 = some (.aload_n 0, 1) := by decide +kernel
theorem s52_48 {x0 : Nat} {x1 : Int32} : ip_WP 52 48 [some (.ref x0), some (.int x1)] [] (G, F, I, J) b post px ↔ ip_WP 52 49 [some (.ref x0), some (.int x1)] [.ref x0] (G, F, I, J) b post px := ip_nx_iff ((ip_st_of f52_48).trans rfl)
theorem f52_49 : ip_fetch 52 49 = some (.invokevirtual 146, 3) := by decide +kernel
set_option maxRecDepth 100000 in
theorem s52_49 {x0 : Nat} {x1 : Int32} {s0 : Nat} : ip_WP 52 49 [some (.ref x0), some (.int x1)] [.ref s0] (G, F, I, J) b post px ↔ (ip_isO G s0 1 = true ∧ ip_WP 31 0 [some (.ref s0), none] [] (G, F, I, J) (0, 0) (fun r h' => ip_WP 52 52 [some (.ref x0), some (.int x1)] (r.toList ++ []) h' b post px) (fun _ _ => False)) := ip_ck_iff (x := ip_cl 31 [some (.ref s0), none] [] (0, 0) b) ((ip_st_of f52_49).trans rfl) (ip_cl_iff)
theorem f52_52 : ip_fetch 52 52 = some (.iload_n 1, 1) := by decide +kernel
theorem s52_52 {x0 : Nat} {x1 : Int32} : ip_WP 52 52 [some (.ref x0), some (.int x1)] [] (G, F, I, J) b post px ↔ ip_WP 52 53 [some (.ref x0), some (.int x1)] [.int x1] (G, F, I, J) b post px := ip_nx_iff ((ip_st_of f52_52).trans rfl)
theorem f52_53 : ip_fetch 52 53 = some (.ifCond .ne 7, 3) := by decide +kernel
theorem s52_53 {x0 : Nat} {x1 : Int32} {s0 : Int32} : ip_WP 52 53 [some (.ref x0), some (.int x1)] [.int s0] (G, F, I, J) b post px ↔ if ¬ s0 = 0 then ip_WP 52 60 [some (.ref x0), some (.int x1)] [] (G, F, I, J) b post px else ip_WP 52 56 [some (.ref x0), some (.int x1)] [] (G, F, I, J) b post px := ip_s_if_ne f52_53 rfl
theorem f52_56 : ip_fetch 52 56 = some (.aload_n 0, 1) := by decide +kernel
theorem s52_56 {x0 : Nat} {x1 : Int32} : ip_WP 52 56 [some (.ref x0), some (.int x1)] [] (G, F, I, J) b post px ↔ ip_WP 52 57 [some (.ref x0), some (.int x1)] [.ref x0] (G, F, I, J) b post px := ip_nx_iff ((ip_st_of f52_56).trans rfl)
theorem f52_57 : ip_fetch 52 57 = some (.invokevirtual 192, 3) := by decide +kernel
set_option maxRecDepth 100000 in
theorem s52_57 {x0 : Nat} {x1 : Int32} {s0 : Nat} : ip_WP 52 57 [some (.ref x0), some (.int x1)] [.ref s0] (G, F, I, J) b post px ↔ (ip_isO G s0 1 = true ∧ ip_WP 43 0 [some (.ref s0), none] [] (G, F, I, J) (0, 0) (fun r h' => ip_WP 52 60 [some (.ref x0), some (.int x1)] (r.toList ++ []) h' b post px) (fun _ _ => False)) := ip_ck_iff (x := ip_cl 43 [some (.ref s0), none] [] (0, 0) b) ((ip_st_of f52_57).trans rfl) (ip_cl_iff)
theorem f52_60 : ip_fetch 52 60 = some (.iload_n 1, 1) := by decide +kernel
theorem s52_60 {x0 : Nat} {x1 : Int32} : ip_WP 52 60 [some (.ref x0), some (.int x1)] [] (G, F, I, J) b post px ↔ ip_WP 52 61 [some (.ref x0), some (.int x1)] [.int x1] (G, F, I, J) b post px := ip_nx_iff ((ip_st_of f52_60).trans rfl)
theorem f52_61 : ip_fetch 52 61 = some (.iconst 1, 1) := by decide +kernel
theorem s52_61 {x0 : Nat} {x1 : Int32} {s0 : Int32} : ip_WP 52 61 [some (.ref x0), some (.int x1)] [.int s0] (G, F, I, J) b post px ↔ ip_WP 52 62 [some (.ref x0), some (.int x1)] [.int 1, .int s0] (G, F, I, J) b post px := ip_s_iconst f52_61 (by decide)
theorem f52_62 : ip_fetch 52 62 = some (.if_icmp .ne 7, 3) := by decide +kernel
theorem s52_62 {x0 : Nat} {x1 : Int32} {s0 : Int32} {s1 : Int32} : ip_WP 52 62 [some (.ref x0), some (.int x1)] [.int s1, .int s0] (G, F, I, J) b post px ↔ if ¬ s0 = s1 then ip_WP 52 69 [some (.ref x0), some (.int x1)] [] (G, F, I, J) b post px else ip_WP 52 65 [some (.ref x0), some (.int x1)] [] (G, F, I, J) b post px := ip_s_ic_ne f52_62 rfl
theorem f52_65 : ip_fetch 52 65 = some (.aload_n 0, 1) := by decide +kernel
theorem s52_65 {x0 : Nat} {x1 : Int32} : ip_WP 52 65 [some (.ref x0), some (.int x1)] [] (G, F, I, J) b post px ↔ ip_WP 52 66 [some (.ref x0), some (.int x1)] [.ref x0] (G, F, I, J) b post px := ip_nx_iff ((ip_st_of f52_65).trans rfl)
theorem f52_66 : ip_fetch 52 66 = some (.invokevirtual 195, 3) := by decide +kernel
set_option maxRecDepth 100000 in
theorem s52_66 {x0 : Nat} {x1 : Int32} {s0 : Nat} : ip_WP 52 66 [some (.ref x0), some (.int x1)] [.ref s0] (G, F, I, J) b post px ↔ (ip_isO G s0 1 = true ∧ ip_WP 44 0 [some (.ref s0), none, none, none, none] [] (G, F, I, J) (0, 0) (fun r h' => ip_WP 52 69 [some (.ref x0), some (.int x1)] (r.toList ++ []) h' b post px) (fun _ _ => False)) := ip_ck_iff (x := ip_cl 44 [some (.ref s0), none, none, none, none] [] (0, 0) b) ((ip_st_of f52_66).trans rfl) (ip_cl_iff)
theorem f52_69 : ip_fetch 52 69 = some (.iload_n 1, 1) := by decide +kernel
theorem s52_69 {x0 : Nat} {x1 : Int32} : ip_WP 52 69 [some (.ref x0), some (.int x1)] [] (G, F, I, J) b post px ↔ ip_WP 52 70 [some (.ref x0), some (.int x1)] [.int x1] (G, F, I, J) b post px := ip_nx_iff ((ip_st_of f52_69).trans rfl)
theorem f52_70 : ip_fetch 52 70 = some (.iconst 3, 1) := by decide +kernel
theorem s52_70 {x0 : Nat} {x1 : Int32} {s0 : Int32} : ip_WP 52 70 [some (.ref x0), some (.int x1)] [.int s0] (G, F, I, J) b post px ↔ ip_WP 52 71 [some (.ref x0), some (.int x1)] [.int 3, .int s0] (G, F, I, J) b post px := ip_s_iconst f52_70 (by decide)
theorem f52_71 : ip_fetch 52 71 = some (.if_icmp .ne 7, 3) := by decide +kernel
theorem s52_71 {x0 : Nat} {x1 : Int32} {s0 : Int32} {s1 : Int32} : ip_WP 52 71 [some (.ref x0), some (.int x1)] [.int s1, .int s0] (G, F, I, J) b post px ↔ if ¬ s0 = s1 then ip_WP 52 78 [some (.ref x0), some (.int x1)] [] (G, F, I, J) b post px else ip_WP 52 74 [some (.ref x0), some (.int x1)] [] (G, F, I, J) b post px := ip_s_ic_ne f52_71 rfl
theorem f52_74 : ip_fetch 52 74 = some (.aload_n 0, 1) := by decide +kernel
theorem s52_74 {x0 : Nat} {x1 : Int32} : ip_WP 52 74 [some (.ref x0), some (.int x1)] [] (G, F, I, J) b post px ↔ ip_WP 52 75 [some (.ref x0), some (.int x1)] [.ref x0] (G, F, I, J) b post px := ip_nx_iff ((ip_st_of f52_74).trans rfl)
theorem f52_75 : ip_fetch 52 75 = some (.invokevirtual 198, 3) := by decide +kernel
set_option maxRecDepth 100000 in
theorem s52_75 {x0 : Nat} {x1 : Int32} {s0 : Nat} : ip_WP 52 75 [some (.ref x0), some (.int x1)] [.ref s0] (G, F, I, J) b post px ↔ (ip_isO G s0 1 = true ∧ ip_WP 45 0 [some (.ref s0), none, none] [] (G, F, I, J) (0, 0) (fun r h' => ip_WP 52 78 [some (.ref x0), some (.int x1)] (r.toList ++ []) h' b post px) (fun _ _ => False)) := ip_ck_iff (x := ip_cl 45 [some (.ref s0), none, none] [] (0, 0) b) ((ip_st_of f52_75).trans rfl) (ip_cl_iff)
theorem f52_78 : ip_fetch 52 78 = some (.iload_n 1, 1) := by decide +kernel
theorem s52_78 {x0 : Nat} {x1 : Int32} : ip_WP 52 78 [some (.ref x0), some (.int x1)] [] (G, F, I, J) b post px ↔ ip_WP 52 79 [some (.ref x0), some (.int x1)] [.int x1] (G, F, I, J) b post px := ip_nx_iff ((ip_st_of f52_78).trans rfl)
theorem f52_79 : ip_fetch 52 79 = some (.iconst 4, 1) := by decide +kernel
theorem s52_79 {x0 : Nat} {x1 : Int32} {s0 : Int32} : ip_WP 52 79 [some (.ref x0), some (.int x1)] [.int s0] (G, F, I, J) b post px ↔ ip_WP 52 80 [some (.ref x0), some (.int x1)] [.int 4, .int s0] (G, F, I, J) b post px := ip_s_iconst f52_79 (by decide)
theorem f52_80 : ip_fetch 52 80 = some (.if_icmp .ne 7, 3) := by decide +kernel
theorem s52_80 {x0 : Nat} {x1 : Int32} {s0 : Int32} {s1 : Int32} : ip_WP 52 80 [some (.ref x0), some (.int x1)] [.int s1, .int s0] (G, F, I, J) b post px ↔ if ¬ s0 = s1 then ip_WP 52 87 [some (.ref x0), some (.int x1)] [] (G, F, I, J) b post px else ip_WP 52 83 [some (.ref x0), some (.int x1)] [] (G, F, I, J) b post px := ip_s_ic_ne f52_80 rfl
theorem f52_83 : ip_fetch 52 83 = some (.aload_n 0, 1) := by decide +kernel
theorem s52_83 {x0 : Nat} {x1 : Int32} : ip_WP 52 83 [some (.ref x0), some (.int x1)] [] (G, F, I, J) b post px ↔ ip_WP 52 84 [some (.ref x0), some (.int x1)] [.ref x0] (G, F, I, J) b post px := ip_nx_iff ((ip_st_of f52_83).trans rfl)
theorem f52_84 : ip_fetch 52 84 = some (.invokevirtual 201, 3) := by decide +kernel
set_option maxRecDepth 100000 in
theorem s52_84 {x0 : Nat} {x1 : Int32} {s0 : Nat} : ip_WP 52 84 [some (.ref x0), some (.int x1)] [.ref s0] (G, F, I, J) b post px ↔ (ip_isO G s0 1 = true ∧ ip_WP 46 0 [some (.ref s0), none, none] [] (G, F, I, J) (0, 0) (fun r h' => ip_WP 52 87 [some (.ref x0), some (.int x1)] (r.toList ++ []) h' b post px) (fun _ _ => False)) := ip_ck_iff (x := ip_cl 46 [some (.ref s0), none, none] [] (0, 0) b) ((ip_st_of f52_84).trans rfl) (ip_cl_iff)
theorem f52_87 : ip_fetch 52 87 = some (.iload_n 1, 1) := by decide +kernel
theorem s52_87 {x0 : Nat} {x1 : Int32} : ip_WP 52 87 [some (.ref x0), some (.int x1)] [] (G, F, I, J) b post px ↔ ip_WP 52 88 [some (.ref x0), some (.int x1)] [.int x1] (G, F, I, J) b post px := ip_nx_iff ((ip_st_of f52_87).trans rfl)
theorem f52_88 : ip_fetch 52 88 = some (.iconst 5, 1) := by decide +kernel
theorem s52_88 {x0 : Nat} {x1 : Int32} {s0 : Int32} : ip_WP 52 88 [some (.ref x0), some (.int x1)] [.int s0] (G, F, I, J) b post px ↔ ip_WP 52 89 [some (.ref x0), some (.int x1)] [.int 5, .int s0] (G, F, I, J) b post px := ip_s_iconst f52_88 (by decide)
theorem f52_89 : ip_fetch 52 89 = some (.if_icmp .ne 7, 3) := by decide +kernel
theorem s52_89 {x0 : Nat} {x1 : Int32} {s0 : Int32} {s1 : Int32} : ip_WP 52 89 [some (.ref x0), some (.int x1)] [.int s1, .int s0] (G, F, I, J) b post px ↔ if ¬ s0 = s1 then ip_WP 52 96 [some (.ref x0), some (.int x1)] [] (G, F, I, J) b post px else ip_WP 52 92 [some (.ref x0), some (.int x1)] [] (G, F, I, J) b post px := ip_s_ic_ne f52_89 rfl
theorem f52_92 : ip_fetch 52 92 = some (.aload_n 0, 1) := by decide +kernel
theorem s52_92 {x0 : Nat} {x1 : Int32} : ip_WP 52 92 [some (.ref x0), some (.int x1)] [] (G, F, I, J) b post px ↔ ip_WP 52 93 [some (.ref x0), some (.int x1)] [.ref x0] (G, F, I, J) b post px := ip_nx_iff ((ip_st_of f52_92).trans rfl)
theorem f52_93 : ip_fetch 52 93 = some (.invokevirtual 204, 3) := by decide +kernel
set_option maxRecDepth 100000 in
theorem s52_93 {x0 : Nat} {x1 : Int32} {s0 : Nat} : ip_WP 52 93 [some (.ref x0), some (.int x1)] [.ref s0] (G, F, I, J) b post px ↔ (ip_isO G s0 1 = true ∧ ip_WP 48 0 [some (.ref s0), none, none] [] (G, F, I, J) (0, 0) (fun r h' => ip_WP 52 96 [some (.ref x0), some (.int x1)] (r.toList ++ []) h' b post px) (fun _ _ => False)) := ip_ck_iff (x := ip_cl 48 [some (.ref s0), none, none] [] (0, 0) b) ((ip_st_of f52_93).trans rfl) (ip_cl_iff)
theorem f52_96 : ip_fetch 52 96 = some (.iload_n 1, 1) := by decide +kernel
theorem s52_96 {x0 : Nat} {x1 : Int32} : ip_WP 52 96 [some (.ref x0), some (.int x1)] [] (G, F, I, J) b post px ↔ ip_WP 52 97 [some (.ref x0), some (.int x1)] [.int x1] (G, F, I, J) b post px := ip_nx_iff ((ip_st_of f52_96).trans rfl)
theorem f52_97 : ip_fetch 52 97 = some (.bipush 6, 2) := by decide +kernel
theorem s52_97 {x0 : Nat} {x1 : Int32} {s0 : Int32} : ip_WP 52 97 [some (.ref x0), some (.int x1)] [.int s0] (G, F, I, J) b post px ↔ ip_WP 52 99 [some (.ref x0), some (.int x1)] [.int 6, .int s0] (G, F, I, J) b post px := ip_s_bipush f52_97 (by decide)
theorem f52_99 : ip_fetch 52 99 = some (.if_icmp .ne 7, 3) := by decide +kernel
theorem s52_99 {x0 : Nat} {x1 : Int32} {s0 : Int32} {s1 : Int32} : ip_WP 52 99 [some (.ref x0), some (.int x1)] [.int s1, .int s0] (G, F, I, J) b post px ↔ if ¬ s0 = s1 then ip_WP 52 106 [some (.ref x0), some (.int x1)] [] (G, F, I, J) b post px else ip_WP 52 102 [some (.ref x0), some (.int x1)] [] (G, F, I, J) b post px := ip_s_ic_ne f52_99 rfl
theorem f52_102 : ip_fetch 52 102 = some (.aload_n 0, 1) := by decide +kernel
theorem s52_102 {x0 : Nat} {x1 : Int32} : ip_WP 52 102 [some (.ref x0), some (.int x1)] [] (G, F, I, J) b post px ↔ ip_WP 52 103 [some (.ref x0), some (.int x1)] [.ref x0] (G, F, I, J) b post px := ip_nx_iff ((ip_st_of f52_102).trans rfl)
theorem f52_103 : ip_fetch 52 103 = some (.invokevirtual 207, 3) := by decide +kernel
set_option maxRecDepth 100000 in
theorem s52_103 {x0 : Nat} {x1 : Int32} {s0 : Nat} : ip_WP 52 103 [some (.ref x0), some (.int x1)] [.ref s0] (G, F, I, J) b post px ↔ (ip_isO G s0 1 = true ∧ ip_WP 49 0 [some (.ref s0), none, none] [] (G, F, I, J) (0, 0) (fun r h' => ip_WP 52 106 [some (.ref x0), some (.int x1)] (r.toList ++ []) h' b post px) (fun _ _ => False)) := ip_ck_iff (x := ip_cl 49 [some (.ref s0), none, none] [] (0, 0) b) ((ip_st_of f52_103).trans rfl) (ip_cl_iff)
theorem f52_106 : ip_fetch 52 106 = some (.iload_n 1, 1) := by decide +kernel
theorem s52_106 {x0 : Nat} {x1 : Int32} : ip_WP 52 106 [some (.ref x0), some (.int x1)] [] (G, F, I, J) b post px ↔ ip_WP 52 107 [some (.ref x0), some (.int x1)] [.int x1] (G, F, I, J) b post px := ip_nx_iff ((ip_st_of f52_106).trans rfl)
theorem f52_107 : ip_fetch 52 107 = some (.bipush 7, 2) := by decide +kernel
theorem s52_107 {x0 : Nat} {x1 : Int32} {s0 : Int32} : ip_WP 52 107 [some (.ref x0), some (.int x1)] [.int s0] (G, F, I, J) b post px ↔ ip_WP 52 109 [some (.ref x0), some (.int x1)] [.int 7, .int s0] (G, F, I, J) b post px := ip_s_bipush f52_107 (by decide)
theorem f52_109 : ip_fetch 52 109 = some (.if_icmp .ne 7, 3) := by decide +kernel
theorem s52_109 {x0 : Nat} {x1 : Int32} {s0 : Int32} {s1 : Int32} : ip_WP 52 109 [some (.ref x0), some (.int x1)] [.int s1, .int s0] (G, F, I, J) b post px ↔ if ¬ s0 = s1 then ip_WP 52 116 [some (.ref x0), some (.int x1)] [] (G, F, I, J) b post px else ip_WP 52 112 [some (.ref x0), some (.int x1)] [] (G, F, I, J) b post px := ip_s_ic_ne f52_109 rfl
theorem f52_112 : ip_fetch 52 112 = some (.aload_n 0, 1) := by decide +kernel
theorem s52_112 {x0 : Nat} {x1 : Int32} : ip_WP 52 112 [some (.ref x0), some (.int x1)] [] (G, F, I, J) b post px ↔ ip_WP 52 113 [some (.ref x0), some (.int x1)] [.ref x0] (G, F, I, J) b post px := ip_nx_iff ((ip_st_of f52_112).trans rfl)
theorem f52_113 : ip_fetch 52 113 = some (.invokevirtual 210, 3) := by decide +kernel
set_option maxRecDepth 100000 in
theorem s52_113 {x0 : Nat} {x1 : Int32} {s0 : Nat} : ip_WP 52 113 [some (.ref x0), some (.int x1)] [.ref s0] (G, F, I, J) b post px ↔ (ip_isO G s0 1 = true ∧ ip_WP 50 0 [some (.ref s0), none, none, none] [] (G, F, I, J) (0, 0) (fun r h' => ip_WP 52 116 [some (.ref x0), some (.int x1)] (r.toList ++ []) h' b post px) (fun _ _ => False)) := ip_ck_iff (x := ip_cl 50 [some (.ref s0), none, none, none] [] (0, 0) b) ((ip_st_of f52_113).trans rfl) (ip_cl_iff)
theorem f52_116 : ip_fetch 52 116 = some (.iload_n 1, 1) := by decide +kernel
theorem s52_116 {x0 : Nat} {x1 : Int32} : ip_WP 52 116 [some (.ref x0), some (.int x1)] [] (G, F, I, J) b post px ↔ ip_WP 52 117 [some (.ref x0), some (.int x1)] [.int x1] (G, F, I, J) b post px := ip_nx_iff ((ip_st_of f52_116).trans rfl)
theorem f52_117 : ip_fetch 52 117 = some (.bipush 9, 2) := by decide +kernel
theorem s52_117 {x0 : Nat} {x1 : Int32} {s0 : Int32} : ip_WP 52 117 [some (.ref x0), some (.int x1)] [.int s0] (G, F, I, J) b post px ↔ ip_WP 52 119 [some (.ref x0), some (.int x1)] [.int 9, .int s0] (G, F, I, J) b post px := ip_s_bipush f52_117 (by decide)
theorem f52_119 : ip_fetch 52 119 = some (.if_icmp .ne 7, 3) := by decide +kernel
theorem s52_119 {x0 : Nat} {x1 : Int32} {s0 : Int32} {s1 : Int32} : ip_WP 52 119 [some (.ref x0), some (.int x1)] [.int s1, .int s0] (G, F, I, J) b post px ↔ if ¬ s0 = s1 then ip_WP 52 126 [some (.ref x0), some (.int x1)] [] (G, F, I, J) b post px else ip_WP 52 122 [some (.ref x0), some (.int x1)] [] (G, F, I, J) b post px := ip_s_ic_ne f52_119 rfl
theorem f52_122 : ip_fetch 52 122 = some (.aload_n 0, 1) := by decide +kernel
theorem s52_122 {x0 : Nat} {x1 : Int32} : ip_WP 52 122 [some (.ref x0), some (.int x1)] [] (G, F, I, J) b post px ↔ ip_WP 52 123 [some (.ref x0), some (.int x1)] [.ref x0] (G, F, I, J) b post px := ip_nx_iff ((ip_st_of f52_122).trans rfl)
theorem f52_123 : ip_fetch 52 123 = some (.invokevirtual 213, 3) := by decide +kernel
set_option maxRecDepth 100000 in
theorem s52_123 {x0 : Nat} {x1 : Int32} {s0 : Nat} : ip_WP 52 123 [some (.ref x0), some (.int x1)] [.ref s0] (G, F, I, J) b post px ↔ (ip_isO G s0 1 = true ∧ ip_WP 51 0 [some (.ref s0), none, none, none] [] (G, F, I, J) (0, 0) (fun r h' => ip_WP 52 126 [some (.ref x0), some (.int x1)] (r.toList ++ []) h' b post px) (fun _ _ => False)) := ip_ck_iff (x := ip_cl 51 [some (.ref s0), none, none, none] [] (0, 0) b) ((ip_st_of f52_123).trans rfl) (ip_cl_iff)
theorem f52_126 : ip_fetch 52 126 = some (.aload_n 0, 1) := by decide +kernel
theorem s52_126 {x0 : Nat} {x1 : Int32} : ip_WP 52 126 [some (.ref x0), some (.int x1)] [] (G, F, I, J) b post px ↔ ip_WP 52 127 [some (.ref x0), some (.int x1)] [.ref x0] (G, F, I, J) b post px := ip_nx_iff ((ip_st_of f52_126).trans rfl)
theorem f52_127 : ip_fetch 52 127 = some (.bipush 59, 2) := by decide +kernel
theorem s52_127 {x0 : Nat} {x1 : Int32} {s0 : Nat} : ip_WP 52 127 [some (.ref x0), some (.int x1)] [.ref s0] (G, F, I, J) b post px ↔ ip_WP 52 129 [some (.ref x0), some (.int x1)] [.int 59, .ref s0] (G, F, I, J) b post px := ip_s_bipush f52_127 (by decide)
theorem f52_129 : ip_fetch 52 129 = some (.invokevirtual 178, 3) := by decide +kernel
set_option maxRecDepth 100000 in
theorem s52_129 {x0 : Nat} {x1 : Int32} {s0 : Nat} {s1 : Int32} : ip_WP 52 129 [some (.ref x0), some (.int x1)] [.int s1, .ref s0] (G, F, I, J) b post px ↔ (ip_isO G s0 1 = true ∧ ip_WP 34 0 [some (.ref s0), some (.int s1)] [] (G, F, I, J) (0, 0) (fun r h' => ip_WP 52 132 [some (.ref x0), some (.int x1)] (r.toList ++ []) h' b post px) (fun _ _ => False)) := ip_ck_iff (x := ip_cl 34 [some (.ref s0), some (.int s1)] [] (0, 0) b) ((ip_st_of f52_129).trans rfl) (ip_cl_iff)
theorem f52_132 : ip_fetch 52 132 = some (.aload_n 0, 1) := by decide +kernel
theorem s52_132 {x0 : Nat} {x1 : Int32} : ip_WP 52 132 [some (.ref x0), some (.int x1)] [] (G, F, I, J) b post px ↔ ip_WP 52 133 [some (.ref x0), some (.int x1)] [.ref x0] (G, F, I, J) b post px := ip_nx_iff ((ip_st_of f52_132).trans rfl)
theorem f52_133 : ip_fetch 52 133 = some (.dup, 1) := by decide +kernel
theorem s52_133 {x0 : Nat} {x1 : Int32} {s0 : Nat} : ip_WP 52 133 [some (.ref x0), some (.int x1)] [.ref s0] (G, F, I, J) b post px ↔ ip_WP 52 134 [some (.ref x0), some (.int x1)] [.ref s0, .ref s0] (G, F, I, J) b post px := ip_nx_iff ((ip_st_of f52_133).trans rfl)
theorem f52_134 : ip_fetch 52 134 = some (.getfield 216, 3) := by decide +kernel
set_option maxRecDepth 100000 in
theorem s52_134 {x0 : Nat} {x1 : Int32} {s0 : Nat} {s1 : Nat} : ip_WP 52 134 [some (.ref x0), some (.int x1)] [.ref s1, .ref s0] (G, F, I, J) b post px ↔ (ip_isO G s1 1 = true ∧ ip_WP 52 137 [some (.ref x0), some (.int x1)] [F s1 9, .ref s0] (G, F, I, J) b post px) := ip_s_getf f52_134 (by decide +kernel)
theorem f52_137 : ip_fetch 52 137 = some (.iconst 1, 1) := by decide +kernel
theorem s52_137 {x0 : Nat} {x1 : Int32} {s0 : Nat} {s1 : Int32} : ip_WP 52 137 [some (.ref x0), some (.int x1)] [.int s1, .ref s0] (G, F, I, J) b post px ↔ ip_WP 52 138 [some (.ref x0), some (.int x1)] [.int 1, .int s1, .ref s0] (G, F, I, J) b post px := ip_s_iconst f52_137 (by decide)
theorem f52_138 : ip_fetch 52 138 = some (.iadd, 1) := by decide +kernel
theorem s52_138 {x0 : Nat} {x1 : Int32} {s0 : Nat} {s1 : Int32} {s2 : Int32} : ip_WP 52 138 [some (.ref x0), some (.int x1)] [.int s2, .int s1, .ref s0] (G, F, I, J) b post px ↔ ip_WP 52 139 [some (.ref x0), some (.int x1)] [.int (s1 + s2), .ref s0] (G, F, I, J) b post px := ip_nx_iff ((ip_st_of f52_138).trans rfl)
theorem f52_139 : ip_fetch 52 139 = some (.putfield 216, 3) := by decide +kernel
set_option maxRecDepth 100000 in
theorem s52_139 {x0 : Nat} {x1 : Int32} {s0 : Nat} {s1 : Int32} : ip_WP 52 139 [some (.ref x0), some (.int x1)] [.int s1, .ref s0] (G, F, I, J) b post px ↔ (ip_isO G s0 1 = true ∧ ip_WP 52 142 [some (.ref x0), some (.int x1)] [] (G, ip_up F s0 9 (.int s1), I, J) b post px) := ip_s_put f52_139 (by decide +kernel) rfl
theorem f52_142 : ip_fetch 52 142 = some (.return_, 1) := by decide +kernel
theorem s52_142 {x0 : Nat} {x1 : Int32} : ip_WP 52 142 [some (.ref x0), some (.int x1)] [] (G, F, I, J) b post px ↔ post none (G, F, I, J) := ip_rt_iff ((ip_st_of f52_142).trans rfl)
theorem f53_0 : ip_fetch 53 0 = some (.aload_n 0, 1) := by decide +kernel
theorem s53_0 {x0 : Nat} {x1 : Option Value} : ip_WP 53 0 [some (.ref x0), x1] [] (G, F, I, J) b post px ↔ ip_WP 53 1 [some (.ref x0), x1] [.ref x0] (G, F, I, J) b post px := ip_nx_iff ((ip_st_of f53_0).trans rfl)
theorem f53_1 : ip_fetch 53 1 = some (.iconst 0, 1) := by decide +kernel
theorem s53_1 {x0 : Nat} {x1 : Option Value} {s0 : Nat} : ip_WP 53 1 [some (.ref x0), x1] [.ref s0] (G, F, I, J) b post px ↔ ip_WP 53 2 [some (.ref x0), x1] [.int 0, .ref s0] (G, F, I, J) b post px := ip_s_iconst f53_1 (by decide)
theorem f53_2 : ip_fetch 53 2 = some (.putfield 216, 3) := by decide +kernel
set_option maxRecDepth 100000 in
theorem s53_2 {x0 : Nat} {x1 : Option Value} {s0 : Nat} {s1 : Int32} : ip_WP 53 2 [some (.ref x0), x1] [.int s1, .ref s0] (G, F, I, J) b post px ↔ (ip_isO G s0 1 = true ∧ ip_WP 53 5 [some (.ref x0), x1] [] (G, ip_up F s0 9 (.int s1), I, J) b post px) := ip_s_put f53_2 (by decide +kernel) rfl
theorem f53_5 : ip_fetch 53 5 = some (.aload_n 0, 1) := by decide +kernel
theorem s53_5 {x0 : Nat} {x1 : Option Value} : ip_WP 53 5 [some (.ref x0), x1] [] (G, F, I, J) b post px ↔ ip_WP 53 6 [some (.ref x0), x1] [.ref x0] (G, F, I, J) b post px := ip_nx_iff ((ip_st_of f53_5).trans rfl)
theorem f53_6 : ip_fetch 53 6 = some (.iconst 0, 1) := by decide +kernel
theorem s53_6 {x0 : Nat} {x1 : Option Value} {s0 : Nat} : ip_WP 53 6 [some (.ref x0), x1] [.ref s0] (G, F, I, J) b post px ↔ ip_WP 53 7 [some (.ref x0), x1] [.int 0, .ref s0] (G, F, I, J) b post px := ip_s_iconst f53_6 (by decide)
theorem f53_7 : ip_fetch 53 7 = some (.putfield 149, 3) := by decide +kernel
set_option maxRecDepth 100000 in
theorem s53_7 {x0 : Nat} {x1 : Option Value} {s0 : Nat} {s1 : Int32} : ip_WP 53 7 [some (.ref x0), x1] [.int s1, .ref s0] (G, F, I, J) b post px ↔ (ip_isO G s0 1 = true ∧ ip_WP 53 10 [some (.ref x0), x1] [] (G, ip_up F s0 10 (.int s1), I, J) b post px) := ip_s_put f53_7 (by decide +kernel) rfl
theorem f53_10 : ip_fetch 53 10 = some (.aload_n 0, 1) := by decide +kernel
theorem s53_10 {x0 : Nat} {x1 : Option Value} : ip_WP 53 10 [some (.ref x0), x1] [] (G, F, I, J) b post px ↔ ip_WP 53 11 [some (.ref x0), x1] [.ref x0] (G, F, I, J) b post px := ip_nx_iff ((ip_st_of f53_10).trans rfl)
theorem f53_11 : ip_fetch 53 11 = some (.iconst 0, 1) := by decide +kernel
theorem s53_11 {x0 : Nat} {x1 : Option Value} {s0 : Nat} : ip_WP 53 11 [some (.ref x0), x1] [.ref s0] (G, F, I, J) b post px ↔ ip_WP 53 12 [some (.ref x0), x1] [.int 0, .ref s0] (G, F, I, J) b post px := ip_s_iconst f53_11 (by decide)
theorem f53_12 : ip_fetch 53 12 = some (.putfield 185, 3) := by decide +kernel
set_option maxRecDepth 100000 in
theorem s53_12 {x0 : Nat} {x1 : Option Value} {s0 : Nat} {s1 : Int32} : ip_WP 53 12 [some (.ref x0), x1] [.int s1, .ref s0] (G, F, I, J) b post px ↔ (ip_isO G s0 1 = true ∧ ip_WP 53 15 [some (.ref x0), x1] [] (G, ip_up F s0 23 (.int s1), I, J) b post px) := ip_s_put f53_12 (by decide +kernel) rfl
theorem f53_15 : ip_fetch 53 15 = some (.iconst 0, 1) := by decide +kernel
theorem s53_15 {x0 : Nat} {x1 : Option Value} : ip_WP 53 15 [some (.ref x0), x1] [] (G, F, I, J) b post px ↔ ip_WP 53 16 [some (.ref x0), x1] [.int 0] (G, F, I, J) b post px := ip_s_iconst f53_15 (by decide)
theorem f53_16 : ip_fetch 53 16 = some (.istore_n 1, 1) := by decide +kernel
theorem s53_16 {x0 : Nat} {x1 : Option Value} {s0 : Int32} : ip_WP 53 16 [some (.ref x0), x1] [.int s0] (G, F, I, J) b post px ↔ ip_WP 53 17 [some (.ref x0), some (.int s0)] [] (G, F, I, J) b post px := ip_nx_iff ((ip_st_of f53_16).trans rfl)
theorem f53_17 : ip_fetch 53 17 = some (.iload_n 1, 1) := by decide +kernel
theorem s53_17 {x0 : Nat} {x1 : Int32} : ip_WP 53 17 [some (.ref x0), some (.int x1)] [] (G, F, I, J) b post px ↔ ip_WP 53 18 [some (.ref x0), some (.int x1)] [.int x1] (G, F, I, J) b post px := ip_nx_iff ((ip_st_of f53_17).trans rfl)
theorem f53_18 : ip_fetch 53 18 = some (.iconst 4, 1) := by decide +kernel
theorem s53_18 {x0 : Nat} {x1 : Int32} {s0 : Int32} : ip_WP 53 18 [some (.ref x0), some (.int x1)] [.int s0] (G, F, I, J) b post px ↔ ip_WP 53 19 [some (.ref x0), some (.int x1)] [.int 4, .int s0] (G, F, I, J) b post px := ip_s_iconst f53_18 (by decide)
theorem f53_19 : ip_fetch 53 19 = some (.if_icmp .ge 16, 3) := by decide +kernel
theorem s53_19 {x0 : Nat} {x1 : Int32} {s0 : Int32} {s1 : Int32} : ip_WP 53 19 [some (.ref x0), some (.int x1)] [.int s1, .int s0] (G, F, I, J) b post px ↔ if s1 ≤ s0 then ip_WP 53 35 [some (.ref x0), some (.int x1)] [] (G, F, I, J) b post px else ip_WP 53 22 [some (.ref x0), some (.int x1)] [] (G, F, I, J) b post px := ip_s_ic_ge f53_19 rfl
theorem f53_22 : ip_fetch 53 22 = some (.aload_n 0, 1) := by decide +kernel
theorem s53_22 {x0 : Nat} {x1 : Int32} : ip_WP 53 22 [some (.ref x0), some (.int x1)] [] (G, F, I, J) b post px ↔ ip_WP 53 23 [some (.ref x0), some (.int x1)] [.ref x0] (G, F, I, J) b post px := ip_nx_iff ((ip_st_of f53_22).trans rfl)
theorem f53_23 : ip_fetch 53 23 = some (.getfield 34, 3) := by decide +kernel
set_option maxRecDepth 100000 in
theorem s53_23 {x0 : Nat} {x1 : Int32} {s0 : Nat} : ip_WP 53 23 [some (.ref x0), some (.int x1)] [.ref s0] (G, F, I, J) b post px ↔ (ip_isO G s0 1 = true ∧ ip_WP 53 26 [some (.ref x0), some (.int x1)] [F s0 16] (G, F, I, J) b post px) := ip_s_getf f53_23 (by decide +kernel)
theorem f53_26 : ip_fetch 53 26 = some (.iload_n 1, 1) := by decide +kernel
theorem s53_26 {x0 : Nat} {x1 : Int32} {s0 : Nat} : ip_WP 53 26 [some (.ref x0), some (.int x1)] [.ref s0] (G, F, I, J) b post px ↔ ip_WP 53 27 [some (.ref x0), some (.int x1)] [.int x1, .ref s0] (G, F, I, J) b post px := ip_nx_iff ((ip_st_of f53_26).trans rfl)
theorem f53_27 : ip_fetch 53 27 = some (.iconst 0, 1) := by decide +kernel
theorem s53_27 {x0 : Nat} {x1 : Int32} {s0 : Nat} {s1 : Int32} : ip_WP 53 27 [some (.ref x0), some (.int x1)] [.int s1, .ref s0] (G, F, I, J) b post px ↔ ip_WP 53 28 [some (.ref x0), some (.int x1)] [.int 0, .int s1, .ref s0] (G, F, I, J) b post px := ip_s_iconst f53_27 (by decide)
theorem f53_28 : ip_fetch 53 28 = some (.iastore, 1) := by decide +kernel
theorem s53_28 {x0 : Nat} {x1 : Int32} {s0 : Nat} {s1 : Int32} {s2 : Int32} : ip_WP 53 28 [some (.ref x0), some (.int x1)] [.int s2, .int s1, .ref s0] (G, F, I, J) b post px ↔ (ip_inA G s0 0 s1 = true ∧ ip_WP 53 29 [some (.ref x0), some (.int x1)] [] (G, F, ip_up I s0 s1.toNatClampNeg s2, J) b post px) := ip_ck_iff ((ip_st_of f53_28).trans rfl) ip_nx_iff
theorem f53_29 : ip_fetch 53 29 = some (.iinc 1 1, 3) := by decide +kernel
theorem s53_29 {x0 : Nat} {x1 : Int32} : ip_WP 53 29 [some (.ref x0), some (.int x1)] [] (G, F, I, J) b post px ↔ ip_WP 53 32 [some (.ref x0), some (.int (x1 + 1))] [] (G, F, I, J) b post px := ip_s_iinc f53_29 rfl (by decide)
theorem f53_32 : ip_fetch 53 32 = some (.goto (-15), 3) := by decide +kernel
theorem s53_32 {x0 : Nat} {x1 : Int32} : ip_WP 53 32 [some (.ref x0), some (.int x1)] [] (G, F, I, J) b post px ↔ ip_WP 53 17 [some (.ref x0), some (.int x1)] [] (G, F, I, J) b post px := ip_nx_iff ((ip_st_of f53_32).trans rfl)
theorem f53_35 : ip_fetch 53 35 = some (.iconst 0, 1) := by decide +kernel
theorem s53_35 {x0 : Nat} {x1 : Int32} : ip_WP 53 35 [some (.ref x0), some (.int x1)] [] (G, F, I, J) b post px ↔ ip_WP 53 36 [some (.ref x0), some (.int x1)] [.int 0] (G, F, I, J) b post px := ip_s_iconst f53_35 (by decide)
theorem f53_36 : ip_fetch 53 36 = some (.istore_n 1, 1) := by decide +kernel
theorem s53_36 {x0 : Nat} {x1 : Int32} {s0 : Int32} : ip_WP 53 36 [some (.ref x0), some (.int x1)] [.int s0] (G, F, I, J) b post px ↔ ip_WP 53 37 [some (.ref x0), some (.int s0)] [] (G, F, I, J) b post px := ip_nx_iff ((ip_st_of f53_36).trans rfl)
theorem f53_37 : ip_fetch 53 37 = some (.iload_n 1, 1) := by decide +kernel
theorem s53_37 {x0 : Nat} {x1 : Int32} : ip_WP 53 37 [some (.ref x0), some (.int x1)] [] (G, F, I, J) b post px ↔ ip_WP 53 38 [some (.ref x0), some (.int x1)] [.int x1] (G, F, I, J) b post px := ip_nx_iff ((ip_st_of f53_37).trans rfl)
theorem f53_38 : ip_fetch 53 38 = some (.bipush 7, 2) := by decide +kernel
theorem s53_38 {x0 : Nat} {x1 : Int32} {s0 : Int32} : ip_WP 53 38 [some (.ref x0), some (.int x1)] [.int s0] (G, F, I, J) b post px ↔ ip_WP 53 40 [some (.ref x0), some (.int x1)] [.int 7, .int s0] (G, F, I, J) b post px := ip_s_bipush f53_38 (by decide)
theorem f53_40 : ip_fetch 53 40 = some (.if_icmp .ge 16, 3) := by decide +kernel
theorem s53_40 {x0 : Nat} {x1 : Int32} {s0 : Int32} {s1 : Int32} : ip_WP 53 40 [some (.ref x0), some (.int x1)] [.int s1, .int s0] (G, F, I, J) b post px ↔ if s1 ≤ s0 then ip_WP 53 56 [some (.ref x0), some (.int x1)] [] (G, F, I, J) b post px else ip_WP 53 43 [some (.ref x0), some (.int x1)] [] (G, F, I, J) b post px := ip_s_ic_ge f53_40 rfl
theorem f53_43 : ip_fetch 53 43 = some (.aload_n 0, 1) := by decide +kernel
theorem s53_43 {x0 : Nat} {x1 : Int32} : ip_WP 53 43 [some (.ref x0), some (.int x1)] [] (G, F, I, J) b post px ↔ ip_WP 53 44 [some (.ref x0), some (.int x1)] [.ref x0] (G, F, I, J) b post px := ip_nx_iff ((ip_st_of f53_43).trans rfl)
theorem f53_44 : ip_fetch 53 44 = some (.getfield 53, 3) := by decide +kernel
set_option maxRecDepth 100000 in
theorem s53_44 {x0 : Nat} {x1 : Int32} {s0 : Nat} : ip_WP 53 44 [some (.ref x0), some (.int x1)] [.ref s0] (G, F, I, J) b post px ↔ (ip_isO G s0 1 = true ∧ ip_WP 53 47 [some (.ref x0), some (.int x1)] [F s0 22] (G, F, I, J) b post px) := ip_s_getf f53_44 (by decide +kernel)
theorem f53_47 : ip_fetch 53 47 = some (.iload_n 1, 1) := by decide +kernel
theorem s53_47 {x0 : Nat} {x1 : Int32} {s0 : Nat} : ip_WP 53 47 [some (.ref x0), some (.int x1)] [.ref s0] (G, F, I, J) b post px ↔ ip_WP 53 48 [some (.ref x0), some (.int x1)] [.int x1, .ref s0] (G, F, I, J) b post px := ip_nx_iff ((ip_st_of f53_47).trans rfl)
theorem f53_48 : ip_fetch 53 48 = some (.iconst (-1), 1) := by decide +kernel
theorem s53_48 {x0 : Nat} {x1 : Int32} {s0 : Nat} {s1 : Int32} : ip_WP 53 48 [some (.ref x0), some (.int x1)] [.int s1, .ref s0] (G, F, I, J) b post px ↔ ip_WP 53 49 [some (.ref x0), some (.int x1)] [.int (-1), .int s1, .ref s0] (G, F, I, J) b post px := ip_s_iconst f53_48 (by decide)
theorem f53_49 : ip_fetch 53 49 = some (.iastore, 1) := by decide +kernel
theorem s53_49 {x0 : Nat} {x1 : Int32} {s0 : Nat} {s1 : Int32} {s2 : Int32} : ip_WP 53 49 [some (.ref x0), some (.int x1)] [.int s2, .int s1, .ref s0] (G, F, I, J) b post px ↔ (ip_inA G s0 0 s1 = true ∧ ip_WP 53 50 [some (.ref x0), some (.int x1)] [] (G, F, ip_up I s0 s1.toNatClampNeg s2, J) b post px) := ip_ck_iff ((ip_st_of f53_49).trans rfl) ip_nx_iff
theorem f53_50 : ip_fetch 53 50 = some (.iinc 1 1, 3) := by decide +kernel
theorem s53_50 {x0 : Nat} {x1 : Int32} : ip_WP 53 50 [some (.ref x0), some (.int x1)] [] (G, F, I, J) b post px ↔ ip_WP 53 53 [some (.ref x0), some (.int (x1 + 1))] [] (G, F, I, J) b post px := ip_s_iinc f53_50 rfl (by decide)
theorem f53_53 : ip_fetch 53 53 = some (.goto (-16), 3) := by decide +kernel
theorem s53_53 {x0 : Nat} {x1 : Int32} : ip_WP 53 53 [some (.ref x0), some (.int x1)] [] (G, F, I, J) b post px ↔ ip_WP 53 37 [some (.ref x0), some (.int x1)] [] (G, F, I, J) b post px := ip_nx_iff ((ip_st_of f53_53).trans rfl)
theorem f53_56 : ip_fetch 53 56 = some (.iconst 0, 1) := by decide +kernel
theorem s53_56 {x0 : Nat} {x1 : Int32} : ip_WP 53 56 [some (.ref x0), some (.int x1)] [] (G, F, I, J) b post px ↔ ip_WP 53 57 [some (.ref x0), some (.int x1)] [.int 0] (G, F, I, J) b post px := ip_s_iconst f53_56 (by decide)
theorem f53_57 : ip_fetch 53 57 = some (.istore_n 1, 1) := by decide +kernel
theorem s53_57 {x0 : Nat} {x1 : Int32} {s0 : Int32} : ip_WP 53 57 [some (.ref x0), some (.int x1)] [.int s0] (G, F, I, J) b post px ↔ ip_WP 53 58 [some (.ref x0), some (.int s0)] [] (G, F, I, J) b post px := ip_nx_iff ((ip_st_of f53_57).trans rfl)
theorem f53_58 : ip_fetch 53 58 = some (.iload_n 1, 1) := by decide +kernel
theorem s53_58 {x0 : Nat} {x1 : Int32} : ip_WP 53 58 [some (.ref x0), some (.int x1)] [] (G, F, I, J) b post px ↔ ip_WP 53 59 [some (.ref x0), some (.int x1)] [.int x1] (G, F, I, J) b post px := ip_nx_iff ((ip_st_of f53_58).trans rfl)
theorem f53_59 : ip_fetch 53 59 = some (.bipush 12, 2) := by decide +kernel
theorem s53_59 {x0 : Nat} {x1 : Int32} {s0 : Int32} : ip_WP 53 59 [some (.ref x0), some (.int x1)] [.int s0] (G, F, I, J) b post px ↔ ip_WP 53 61 [some (.ref x0), some (.int x1)] [.int 12, .int s0] (G, F, I, J) b post px := ip_s_bipush f53_59 (by decide)
theorem f53_61 : ip_fetch 53 61 = some (.if_icmp .ge 30, 3) := by decide +kernel
theorem s53_61 {x0 : Nat} {x1 : Int32} {s0 : Int32} {s1 : Int32} : ip_WP 53 61 [some (.ref x0), some (.int x1)] [.int s1, .int s0] (G, F, I, J) b post px ↔ if s1 ≤ s0 then ip_WP 53 91 [some (.ref x0), some (.int x1)] [] (G, F, I, J) b post px else ip_WP 53 64 [some (.ref x0), some (.int x1)] [] (G, F, I, J) b post px := ip_s_ic_ge f53_61 rfl
theorem f53_64 : ip_fetch 53 64 = some (.aload_n 0, 1) := by decide +kernel
theorem s53_64 {x0 : Nat} {x1 : Int32} : ip_WP 53 64 [some (.ref x0), some (.int x1)] [] (G, F, I, J) b post px ↔ ip_WP 53 65 [some (.ref x0), some (.int x1)] [.ref x0] (G, F, I, J) b post px := ip_nx_iff ((ip_st_of f53_64).trans rfl)
theorem f53_65 : ip_fetch 53 65 = some (.getfield 43, 3) := by decide +kernel
set_option maxRecDepth 100000 in
theorem s53_65 {x0 : Nat} {x1 : Int32} {s0 : Nat} : ip_WP 53 65 [some (.ref x0), some (.int x1)] [.ref s0] (G, F, I, J) b post px ↔ (ip_isO G s0 1 = true ∧ ip_WP 53 68 [some (.ref x0), some (.int x1)] [F s0 19] (G, F, I, J) b post px) := ip_s_getf f53_65 (by decide +kernel)
theorem f53_68 : ip_fetch 53 68 = some (.iload_n 1, 1) := by decide +kernel
theorem s53_68 {x0 : Nat} {x1 : Int32} {s0 : Nat} : ip_WP 53 68 [some (.ref x0), some (.int x1)] [.ref s0] (G, F, I, J) b post px ↔ ip_WP 53 69 [some (.ref x0), some (.int x1)] [.int x1, .ref s0] (G, F, I, J) b post px := ip_nx_iff ((ip_st_of f53_68).trans rfl)
theorem f53_69 : ip_fetch 53 69 = some (.iconst 0, 1) := by decide +kernel
theorem s53_69 {x0 : Nat} {x1 : Int32} {s0 : Nat} {s1 : Int32} : ip_WP 53 69 [some (.ref x0), some (.int x1)] [.int s1, .ref s0] (G, F, I, J) b post px ↔ ip_WP 53 70 [some (.ref x0), some (.int x1)] [.int 0, .int s1, .ref s0] (G, F, I, J) b post px := ip_s_iconst f53_69 (by decide)
theorem f53_70 : ip_fetch 53 70 = some (.bastore, 1) := by decide +kernel
theorem s53_70 {x0 : Nat} {x1 : Int32} {s0 : Nat} {s1 : Int32} {s2 : Int32} : ip_WP 53 70 [some (.ref x0), some (.int x1)] [.int s2, .int s1, .ref s0] (G, F, I, J) b post px ↔ if ip_inA G s0 1 s1 = true then ip_WP 53 71 [some (.ref x0), some (.int x1)] [] (G, F, ip_up I s0 s1.toNatClampNeg (vp_nar .byte s2), J) b post px else (ip_inA G s0 3 s1 = true ∧ ip_WP 53 71 [some (.ref x0), some (.int x1)] [] (G, F, ip_up I s0 s1.toNatClampNeg (vp_nar .boolean s2), J) b post px) := ip_if_iff ((ip_st_of f53_70).trans rfl) ip_nx_iff (fun hs => ip_ck_iff hs ip_nx_iff)
theorem f53_71 : ip_fetch 53 71 = some (.aload_n 0, 1) := by decide +kernel
theorem s53_71 {x0 : Nat} {x1 : Int32} : ip_WP 53 71 [some (.ref x0), some (.int x1)] [] (G, F, I, J) b post px ↔ ip_WP 53 72 [some (.ref x0), some (.int x1)] [.ref x0] (G, F, I, J) b post px := ip_nx_iff ((ip_st_of f53_71).trans rfl)
theorem f53_72 : ip_fetch 53 72 = some (.getfield 47, 3) := by decide +kernel
set_option maxRecDepth 100000 in
theorem s53_72 {x0 : Nat} {x1 : Int32} {s0 : Nat} : ip_WP 53 72 [some (.ref x0), some (.int x1)] [.ref s0] (G, F, I, J) b post px ↔ (ip_isO G s0 1 = true ∧ ip_WP 53 75 [some (.ref x0), some (.int x1)] [F s0 20] (G, F, I, J) b post px) := ip_s_getf f53_72 (by decide +kernel)
theorem f53_75 : ip_fetch 53 75 = some (.iload_n 1, 1) := by decide +kernel
theorem s53_75 {x0 : Nat} {x1 : Int32} {s0 : Nat} : ip_WP 53 75 [some (.ref x0), some (.int x1)] [.ref s0] (G, F, I, J) b post px ↔ ip_WP 53 76 [some (.ref x0), some (.int x1)] [.int x1, .ref s0] (G, F, I, J) b post px := ip_nx_iff ((ip_st_of f53_75).trans rfl)
theorem f53_76 : ip_fetch 53 76 = some (.iconst (-1), 1) := by decide +kernel
theorem s53_76 {x0 : Nat} {x1 : Int32} {s0 : Nat} {s1 : Int32} : ip_WP 53 76 [some (.ref x0), some (.int x1)] [.int s1, .ref s0] (G, F, I, J) b post px ↔ ip_WP 53 77 [some (.ref x0), some (.int x1)] [.int (-1), .int s1, .ref s0] (G, F, I, J) b post px := ip_s_iconst f53_76 (by decide)
theorem f53_77 : ip_fetch 53 77 = some (.iastore, 1) := by decide +kernel
theorem s53_77 {x0 : Nat} {x1 : Int32} {s0 : Nat} {s1 : Int32} {s2 : Int32} : ip_WP 53 77 [some (.ref x0), some (.int x1)] [.int s2, .int s1, .ref s0] (G, F, I, J) b post px ↔ (ip_inA G s0 0 s1 = true ∧ ip_WP 53 78 [some (.ref x0), some (.int x1)] [] (G, F, ip_up I s0 s1.toNatClampNeg s2, J) b post px) := ip_ck_iff ((ip_st_of f53_77).trans rfl) ip_nx_iff
theorem f53_78 : ip_fetch 53 78 = some (.aload_n 0, 1) := by decide +kernel
theorem s53_78 {x0 : Nat} {x1 : Int32} : ip_WP 53 78 [some (.ref x0), some (.int x1)] [] (G, F, I, J) b post px ↔ ip_WP 53 79 [some (.ref x0), some (.int x1)] [.ref x0] (G, F, I, J) b post px := ip_nx_iff ((ip_st_of f53_78).trans rfl)
theorem f53_79 : ip_fetch 53 79 = some (.getfield 50, 3) := by decide +kernel
set_option maxRecDepth 100000 in
theorem s53_79 {x0 : Nat} {x1 : Int32} {s0 : Nat} : ip_WP 53 79 [some (.ref x0), some (.int x1)] [.ref s0] (G, F, I, J) b post px ↔ (ip_isO G s0 1 = true ∧ ip_WP 53 82 [some (.ref x0), some (.int x1)] [F s0 21] (G, F, I, J) b post px) := ip_s_getf f53_79 (by decide +kernel)
theorem f53_82 : ip_fetch 53 82 = some (.iload_n 1, 1) := by decide +kernel
theorem s53_82 {x0 : Nat} {x1 : Int32} {s0 : Nat} : ip_WP 53 82 [some (.ref x0), some (.int x1)] [.ref s0] (G, F, I, J) b post px ↔ ip_WP 53 83 [some (.ref x0), some (.int x1)] [.int x1, .ref s0] (G, F, I, J) b post px := ip_nx_iff ((ip_st_of f53_82).trans rfl)
theorem f53_83 : ip_fetch 53 83 = some (.iconst 0, 1) := by decide +kernel
theorem s53_83 {x0 : Nat} {x1 : Int32} {s0 : Nat} {s1 : Int32} : ip_WP 53 83 [some (.ref x0), some (.int x1)] [.int s1, .ref s0] (G, F, I, J) b post px ↔ ip_WP 53 84 [some (.ref x0), some (.int x1)] [.int 0, .int s1, .ref s0] (G, F, I, J) b post px := ip_s_iconst f53_83 (by decide)
theorem f53_84 : ip_fetch 53 84 = some (.bastore, 1) := by decide +kernel
theorem s53_84 {x0 : Nat} {x1 : Int32} {s0 : Nat} {s1 : Int32} {s2 : Int32} : ip_WP 53 84 [some (.ref x0), some (.int x1)] [.int s2, .int s1, .ref s0] (G, F, I, J) b post px ↔ if ip_inA G s0 1 s1 = true then ip_WP 53 85 [some (.ref x0), some (.int x1)] [] (G, F, ip_up I s0 s1.toNatClampNeg (vp_nar .byte s2), J) b post px else (ip_inA G s0 3 s1 = true ∧ ip_WP 53 85 [some (.ref x0), some (.int x1)] [] (G, F, ip_up I s0 s1.toNatClampNeg (vp_nar .boolean s2), J) b post px) := ip_if_iff ((ip_st_of f53_84).trans rfl) ip_nx_iff (fun hs => ip_ck_iff hs ip_nx_iff)
theorem f53_85 : ip_fetch 53 85 = some (.iinc 1 1, 3) := by decide +kernel
theorem s53_85 {x0 : Nat} {x1 : Int32} : ip_WP 53 85 [some (.ref x0), some (.int x1)] [] (G, F, I, J) b post px ↔ ip_WP 53 88 [some (.ref x0), some (.int (x1 + 1))] [] (G, F, I, J) b post px := ip_s_iinc f53_85 rfl (by decide)
theorem f53_88 : ip_fetch 53 88 = some (.goto (-30), 3) := by decide +kernel
theorem s53_88 {x0 : Nat} {x1 : Int32} : ip_WP 53 88 [some (.ref x0), some (.int x1)] [] (G, F, I, J) b post px ↔ ip_WP 53 58 [some (.ref x0), some (.int x1)] [] (G, F, I, J) b post px := ip_nx_iff ((ip_st_of f53_88).trans rfl)
theorem f53_91 : ip_fetch 53 91 = some (.iconst 0, 1) := by decide +kernel
theorem s53_91 {x0 : Nat} {x1 : Int32} : ip_WP 53 91 [some (.ref x0), some (.int x1)] [] (G, F, I, J) b post px ↔ ip_WP 53 92 [some (.ref x0), some (.int x1)] [.int 0] (G, F, I, J) b post px := ip_s_iconst f53_91 (by decide)
theorem f53_92 : ip_fetch 53 92 = some (.istore_n 1, 1) := by decide +kernel
theorem s53_92 {x0 : Nat} {x1 : Int32} {s0 : Int32} : ip_WP 53 92 [some (.ref x0), some (.int x1)] [.int s0] (G, F, I, J) b post px ↔ ip_WP 53 93 [some (.ref x0), some (.int s0)] [] (G, F, I, J) b post px := ip_nx_iff ((ip_st_of f53_92).trans rfl)
theorem f53_93 : ip_fetch 53 93 = some (.iload_n 1, 1) := by decide +kernel
theorem s53_93 {x0 : Nat} {x1 : Int32} : ip_WP 53 93 [some (.ref x0), some (.int x1)] [] (G, F, I, J) b post px ↔ ip_WP 53 94 [some (.ref x0), some (.int x1)] [.int x1] (G, F, I, J) b post px := ip_nx_iff ((ip_st_of f53_93).trans rfl)
theorem f53_94 : ip_fetch 53 94 = some (.bipush 96, 2) := by decide +kernel
theorem s53_94 {x0 : Nat} {x1 : Int32} {s0 : Int32} : ip_WP 53 94 [some (.ref x0), some (.int x1)] [.int s0] (G, F, I, J) b post px ↔ ip_WP 53 96 [some (.ref x0), some (.int x1)] [.int 96, .int s0] (G, F, I, J) b post px := ip_s_bipush f53_94 (by decide)
theorem f53_96 : ip_fetch 53 96 = some (.if_icmp .ge 16, 3) := by decide +kernel
theorem s53_96 {x0 : Nat} {x1 : Int32} {s0 : Int32} {s1 : Int32} : ip_WP 53 96 [some (.ref x0), some (.int x1)] [.int s1, .int s0] (G, F, I, J) b post px ↔ if s1 ≤ s0 then ip_WP 53 112 [some (.ref x0), some (.int x1)] [] (G, F, I, J) b post px else ip_WP 53 99 [some (.ref x0), some (.int x1)] [] (G, F, I, J) b post px := ip_s_ic_ge f53_96 rfl
theorem f53_99 : ip_fetch 53 99 = some (.aload_n 0, 1) := by decide +kernel
theorem s53_99 {x0 : Nat} {x1 : Int32} : ip_WP 53 99 [some (.ref x0), some (.int x1)] [] (G, F, I, J) b post px ↔ ip_WP 53 100 [some (.ref x0), some (.int x1)] [.ref x0] (G, F, I, J) b post px := ip_nx_iff ((ip_st_of f53_99).trans rfl)
theorem f53_100 : ip_fetch 53 100 = some (.getfield 68, 3) := by decide +kernel
set_option maxRecDepth 100000 in
theorem s53_100 {x0 : Nat} {x1 : Int32} {s0 : Nat} : ip_WP 53 100 [some (.ref x0), some (.int x1)] [.ref s0] (G, F, I, J) b post px ↔ (ip_isO G s0 1 = true ∧ ip_WP 53 103 [some (.ref x0), some (.int x1)] [F s0 28] (G, F, I, J) b post px) := ip_s_getf f53_100 (by decide +kernel)
theorem f53_103 : ip_fetch 53 103 = some (.iload_n 1, 1) := by decide +kernel
theorem s53_103 {x0 : Nat} {x1 : Int32} {s0 : Nat} : ip_WP 53 103 [some (.ref x0), some (.int x1)] [.ref s0] (G, F, I, J) b post px ↔ ip_WP 53 104 [some (.ref x0), some (.int x1)] [.int x1, .ref s0] (G, F, I, J) b post px := ip_nx_iff ((ip_st_of f53_103).trans rfl)
theorem f53_104 : ip_fetch 53 104 = some (.iconst 0, 1) := by decide +kernel
theorem s53_104 {x0 : Nat} {x1 : Int32} {s0 : Nat} {s1 : Int32} : ip_WP 53 104 [some (.ref x0), some (.int x1)] [.int s1, .ref s0] (G, F, I, J) b post px ↔ ip_WP 53 105 [some (.ref x0), some (.int x1)] [.int 0, .int s1, .ref s0] (G, F, I, J) b post px := ip_s_iconst f53_104 (by decide)
theorem f53_105 : ip_fetch 53 105 = some (.bastore, 1) := by decide +kernel
theorem s53_105 {x0 : Nat} {x1 : Int32} {s0 : Nat} {s1 : Int32} {s2 : Int32} : ip_WP 53 105 [some (.ref x0), some (.int x1)] [.int s2, .int s1, .ref s0] (G, F, I, J) b post px ↔ if ip_inA G s0 1 s1 = true then ip_WP 53 106 [some (.ref x0), some (.int x1)] [] (G, F, ip_up I s0 s1.toNatClampNeg (vp_nar .byte s2), J) b post px else (ip_inA G s0 3 s1 = true ∧ ip_WP 53 106 [some (.ref x0), some (.int x1)] [] (G, F, ip_up I s0 s1.toNatClampNeg (vp_nar .boolean s2), J) b post px) := ip_if_iff ((ip_st_of f53_105).trans rfl) ip_nx_iff (fun hs => ip_ck_iff hs ip_nx_iff)
theorem f53_106 : ip_fetch 53 106 = some (.iinc 1 1, 3) := by decide +kernel
theorem s53_106 {x0 : Nat} {x1 : Int32} : ip_WP 53 106 [some (.ref x0), some (.int x1)] [] (G, F, I, J) b post px ↔ ip_WP 53 109 [some (.ref x0), some (.int (x1 + 1))] [] (G, F, I, J) b post px := ip_s_iinc f53_106 rfl (by decide)
theorem f53_109 : ip_fetch 53 109 = some (.goto (-16), 3) := by decide +kernel
theorem s53_109 {x0 : Nat} {x1 : Int32} : ip_WP 53 109 [some (.ref x0), some (.int x1)] [] (G, F, I, J) b post px ↔ ip_WP 53 93 [some (.ref x0), some (.int x1)] [] (G, F, I, J) b post px := ip_nx_iff ((ip_st_of f53_109).trans rfl)
theorem f53_112 : ip_fetch 53 112 = some (.aload_n 0, 1) := by decide +kernel
theorem s53_112 {x0 : Nat} {x1 : Int32} : ip_WP 53 112 [some (.ref x0), some (.int x1)] [] (G, F, I, J) b post px ↔ ip_WP 53 113 [some (.ref x0), some (.int x1)] [.ref x0] (G, F, I, J) b post px := ip_nx_iff ((ip_st_of f53_112).trans rfl)
theorem f53_113 : ip_fetch 53 113 = some (.invokevirtual 219, 3) := by decide +kernel
set_option maxRecDepth 100000 in
theorem s53_113 {x0 : Nat} {x1 : Int32} {s0 : Nat} : ip_WP 53 113 [some (.ref x0), some (.int x1)] [.ref s0] (G, F, I, J) b post px ↔ (ip_isO G s0 1 = true ∧ ip_WP 59 0 [some (.ref s0), none, none, none] [] (G, F, I, J) (0, 0) (fun r h' => ip_WP 53 116 [some (.ref x0), some (.int x1)] (r.toList ++ []) h' b post px) (fun _ _ => False)) := ip_ck_iff (x := ip_cl 59 [some (.ref s0), none, none, none] [] (0, 0) b) ((ip_st_of f53_113).trans rfl) (ip_cl_iff)
theorem f53_116 : ip_fetch 53 116 = some (.aload_n 0, 1) := by decide +kernel
theorem s53_116 {x0 : Nat} {x1 : Int32} : ip_WP 53 116 [some (.ref x0), some (.int x1)] [] (G, F, I, J) b post px ↔ ip_WP 53 117 [some (.ref x0), some (.int x1)] [.ref x0] (G, F, I, J) b post px := ip_nx_iff ((ip_st_of f53_116).trans rfl)
theorem f53_117 : ip_fetch 53 117 = some (.invokevirtual 222, 3) := by decide +kernel
set_option maxRecDepth 100000 in
theorem s53_117 {x0 : Nat} {x1 : Int32} {s0 : Nat} : ip_WP 53 117 [some (.ref x0), some (.int x1)] [.ref s0] (G, F, I, J) b post px ↔ (ip_isO G s0 1 = true ∧ ip_WP 62 0 [some (.ref s0), none] [] (G, F, I, J) (0, 0) (fun r h' => ip_WP 53 120 [some (.ref x0), some (.int x1)] (r.toList ++ []) h' b post px) (fun _ _ => False)) := ip_ck_iff (x := ip_cl 62 [some (.ref s0), none] [] (0, 0) b) ((ip_st_of f53_117).trans rfl) (ip_cl_iff)
theorem f53_120 : ip_fetch 53 120 = some (.return_, 1) := by decide +kernel
theorem s53_120 {x0 : Nat} {x1 : Int32} : ip_WP 53 120 [some (.ref x0), some (.int x1)] [] (G, F, I, J) b post px ↔ post none (G, F, I, J) := ip_rt_iff ((ip_st_of f53_120).trans rfl)
theorem f54_0 : ip_fetch 54 0 = some (.aload_n 0, 1) := by decide +kernel
theorem s54_0 {x0 : Nat} {x1 : Option Value} : ip_WP 54 0 [some (.ref x0), x1] [] (G, F, I, J) b post px ↔ ip_WP 54 1 [some (.ref x0), x1] [.ref x0] (G, F, I, J) b post px := ip_nx_iff ((ip_st_of f54_0).trans rfl)
theorem f54_1 : ip_fetch 54 1 = some (.iconst 0, 1) := by decide +kernel
theorem s54_1 {x0 : Nat} {x1 : Option Value} {s0 : Nat} : ip_WP 54 1 [some (.ref x0), x1] [.ref s0] (G, F, I, J) b post px ↔ ip_WP 54 2 [some (.ref x0), x1] [.int 0, .ref s0] (G, F, I, J) b post px := ip_s_iconst f54_1 (by decide)
theorem f54_2 : ip_fetch 54 2 = some (.putfield 86, 3) := by decide +kernel
set_option maxRecDepth 100000 in
theorem s54_2 {x0 : Nat} {x1 : Option Value} {s0 : Nat} {s1 : Int32} : ip_WP 54 2 [some (.ref x0), x1] [.int s1, .ref s0] (G, F, I, J) b post px ↔ (ip_isO G s0 1 = true ∧ ip_WP 54 5 [some (.ref x0), x1] [] (G, ip_up F s0 1 (.int s1), I, J) b post px) := ip_s_put f54_2 (by decide +kernel) rfl
theorem f54_5 : ip_fetch 54 5 = some (.aload_n 0, 1) := by decide +kernel
theorem s54_5 {x0 : Nat} {x1 : Option Value} : ip_WP 54 5 [some (.ref x0), x1] [] (G, F, I, J) b post px ↔ ip_WP 54 6 [some (.ref x0), x1] [.ref x0] (G, F, I, J) b post px := ip_nx_iff ((ip_st_of f54_5).trans rfl)
theorem f54_6 : ip_fetch 54 6 = some (.invokevirtual 83, 3) := by decide +kernel
set_option maxRecDepth 100000 in
theorem s54_6 {x0 : Nat} {x1 : Option Value} {s0 : Nat} : ip_WP 54 6 [some (.ref x0), x1] [.ref s0] (G, F, I, J) b post px ↔ (ip_isO G s0 1 = true ∧ ip_WP 53 0 [some (.ref s0), none] [] (G, F, I, J) (0, 0) (fun r h' => ip_WP 54 9 [some (.ref x0), x1] (r.toList ++ []) h' b post px) (fun _ _ => False)) := ip_ck_iff (x := ip_cl 53 [some (.ref s0), none] [] (0, 0) b) ((ip_st_of f54_6).trans rfl) (ip_cl_iff)
theorem f54_9 : ip_fetch 54 9 = some (.aload_n 0, 1) := by decide +kernel
theorem s54_9 {x0 : Nat} {x1 : Option Value} : ip_WP 54 9 [some (.ref x0), x1] [] (G, F, I, J) b post px ↔ ip_WP 54 10 [some (.ref x0), x1] [.ref x0] (G, F, I, J) b post px := ip_nx_iff ((ip_st_of f54_9).trans rfl)
theorem f54_10 : ip_fetch 54 10 = some (.iconst 0, 1) := by decide +kernel
theorem s54_10 {x0 : Nat} {x1 : Option Value} {s0 : Nat} : ip_WP 54 10 [some (.ref x0), x1] [.ref s0] (G, F, I, J) b post px ↔ ip_WP 54 11 [some (.ref x0), x1] [.int 0, .ref s0] (G, F, I, J) b post px := ip_s_iconst f54_10 (by decide)
theorem f54_11 : ip_fetch 54 11 = some (.putfield 101, 3) := by decide +kernel
set_option maxRecDepth 100000 in
theorem s54_11 {x0 : Nat} {x1 : Option Value} {s0 : Nat} {s1 : Int32} : ip_WP 54 11 [some (.ref x0), x1] [.int s1, .ref s0] (G, F, I, J) b post px ↔ (ip_isO G s0 1 = true ∧ ip_WP 54 14 [some (.ref x0), x1] [] (G, ip_up F s0 6 (.int s1), I, J) b post px) := ip_s_put f54_11 (by decide +kernel) rfl
theorem f54_14 : ip_fetch 54 14 = some (.aload_n 0, 1) := by decide +kernel
theorem s54_14 {x0 : Nat} {x1 : Option Value} : ip_WP 54 14 [some (.ref x0), x1] [] (G, F, I, J) b post px ↔ ip_WP 54 15 [some (.ref x0), x1] [.ref x0] (G, F, I, J) b post px := ip_nx_iff ((ip_st_of f54_14).trans rfl)
theorem f54_15 : ip_fetch 54 15 = some (.iconst 0, 1) := by decide +kernel
theorem s54_15 {x0 : Nat} {x1 : Option Value} {s0 : Nat} : ip_WP 54 15 [some (.ref x0), x1] [.ref s0] (G, F, I, J) b post px ↔ ip_WP 54 16 [some (.ref x0), x1] [.int 0, .ref s0] (G, F, I, J) b post px := ip_s_iconst f54_15 (by decide)
theorem f54_16 : ip_fetch 54 16 = some (.putfield 104, 3) := by decide +kernel
set_option maxRecDepth 100000 in
theorem s54_16 {x0 : Nat} {x1 : Option Value} {s0 : Nat} {s1 : Int32} : ip_WP 54 16 [some (.ref x0), x1] [.int s1, .ref s0] (G, F, I, J) b post px ↔ (ip_isO G s0 1 = true ∧ ip_WP 54 19 [some (.ref x0), x1] [] (G, ip_up F s0 7 (.int s1), I, J) b post px) := ip_s_put f54_16 (by decide +kernel) rfl
theorem f54_19 : ip_fetch 54 19 = some (.aload_n 0, 1) := by decide +kernel
theorem s54_19 {x0 : Nat} {x1 : Option Value} : ip_WP 54 19 [some (.ref x0), x1] [] (G, F, I, J) b post px ↔ ip_WP 54 20 [some (.ref x0), x1] [.ref x0] (G, F, I, J) b post px := ip_nx_iff ((ip_st_of f54_19).trans rfl)
theorem f54_20 : ip_fetch 54 20 = some (.aload_n 0, 1) := by decide +kernel
theorem s54_20 {x0 : Nat} {x1 : Option Value} {s0 : Nat} : ip_WP 54 20 [some (.ref x0), x1] [.ref s0] (G, F, I, J) b post px ↔ ip_WP 54 21 [some (.ref x0), x1] [.ref x0, .ref s0] (G, F, I, J) b post px := ip_nx_iff ((ip_st_of f54_20).trans rfl)
theorem f54_21 : ip_fetch 54 21 = some (.getfield 90, 3) := by decide +kernel
set_option maxRecDepth 100000 in
theorem s54_21 {x0 : Nat} {x1 : Option Value} {s0 : Nat} {s1 : Nat} : ip_WP 54 21 [some (.ref x0), x1] [.ref s1, .ref s0] (G, F, I, J) b post px ↔ (ip_isO G s1 1 = true ∧ ip_WP 54 24 [some (.ref x0), x1] [F s1 2, .ref s0] (G, F, I, J) b post px) := ip_s_getf f54_21 (by decide +kernel)
theorem f54_24 : ip_fetch 54 24 = some (.putfield 110, 3) := by decide +kernel
set_option maxRecDepth 100000 in
theorem s54_24 {x0 : Nat} {x1 : Option Value} {s0 : Nat} {s1 : Int32} : ip_WP 54 24 [some (.ref x0), x1] [.int s1, .ref s0] (G, F, I, J) b post px ↔ (ip_isO G s0 1 = true ∧ ip_WP 54 27 [some (.ref x0), x1] [] (G, ip_up F s0 8 (.int s1), I, J) b post px) := ip_s_put f54_24 (by decide +kernel) rfl
theorem f54_27 : ip_fetch 54 27 = some (.iconst 0, 1) := by decide +kernel
theorem s54_27 {x0 : Nat} {x1 : Option Value} : ip_WP 54 27 [some (.ref x0), x1] [] (G, F, I, J) b post px ↔ ip_WP 54 28 [some (.ref x0), x1] [.int 0] (G, F, I, J) b post px := ip_s_iconst f54_27 (by decide)
theorem f54_28 : ip_fetch 54 28 = some (.istore_n 1, 1) := by decide +kernel
theorem s54_28 {x0 : Nat} {x1 : Option Value} {s0 : Int32} : ip_WP 54 28 [some (.ref x0), x1] [.int s0] (G, F, I, J) b post px ↔ ip_WP 54 29 [some (.ref x0), some (.int s0)] [] (G, F, I, J) b post px := ip_nx_iff ((ip_st_of f54_28).trans rfl)
theorem f54_29 : ip_fetch 54 29 = some (.iload_n 1, 1) := by decide +kernel
theorem s54_29 {x0 : Nat} {x1 : Int32} : ip_WP 54 29 [some (.ref x0), some (.int x1)] [] (G, F, I, J) b post px ↔ ip_WP 54 30 [some (.ref x0), some (.int x1)] [.int x1] (G, F, I, J) b post px := ip_nx_iff ((ip_st_of f54_29).trans rfl)
theorem f54_30 : ip_fetch 54 30 = some (.aload_n 0, 1) := by decide +kernel
theorem s54_30 {x0 : Nat} {x1 : Int32} {s0 : Int32} : ip_WP 54 30 [some (.ref x0), some (.int x1)] [.int s0] (G, F, I, J) b post px ↔ ip_WP 54 31 [some (.ref x0), some (.int x1)] [.ref x0, .int s0] (G, F, I, J) b post px := ip_nx_iff ((ip_st_of f54_30).trans rfl)
theorem f54_31 : ip_fetch 54 31 = some (.getfield 90, 3) := by decide +kernel
set_option maxRecDepth 100000 in
theorem s54_31 {x0 : Nat} {x1 : Int32} {s0 : Int32} {s1 : Nat} : ip_WP 54 31 [some (.ref x0), some (.int x1)] [.ref s1, .int s0] (G, F, I, J) b post px ↔ (ip_isO G s1 1 = true ∧ ip_WP 54 34 [some (.ref x0), some (.int x1)] [F s1 2, .int s0] (G, F, I, J) b post px) := ip_s_getf f54_31 (by decide +kernel)
theorem f54_34 : ip_fetch 54 34 = some (.if_icmp .ge 21, 3) := by decide +kernel
theorem s54_34 {x0 : Nat} {x1 : Int32} {s0 : Int32} {s1 : Int32} : ip_WP 54 34 [some (.ref x0), some (.int x1)] [.int s1, .int s0] (G, F, I, J) b post px ↔ if s1 ≤ s0 then ip_WP 54 55 [some (.ref x0), some (.int x1)] [] (G, F, I, J) b post px else ip_WP 54 37 [some (.ref x0), some (.int x1)] [] (G, F, I, J) b post px := ip_s_ic_ge f54_34 rfl
theorem f54_37 : ip_fetch 54 37 = some (.aload_n 0, 1) := by decide +kernel
theorem s54_37 {x0 : Nat} {x1 : Int32} : ip_WP 54 37 [some (.ref x0), some (.int x1)] [] (G, F, I, J) b post px ↔ ip_WP 54 38 [some (.ref x0), some (.int x1)] [.ref x0] (G, F, I, J) b post px := ip_nx_iff ((ip_st_of f54_37).trans rfl)
theorem f54_38 : ip_fetch 54 38 = some (.getfield 19, 3) := by decide +kernel
set_option maxRecDepth 100000 in
theorem s54_38 {x0 : Nat} {x1 : Int32} {s0 : Nat} : ip_WP 54 38 [some (.ref x0), some (.int x1)] [.ref s0] (G, F, I, J) b post px ↔ (ip_isO G s0 1 = true ∧ ip_WP 54 41 [some (.ref x0), some (.int x1)] [F s0 11] (G, F, I, J) b post px) := ip_s_getf f54_38 (by decide +kernel)
theorem f54_41 : ip_fetch 54 41 = some (.iload_n 1, 1) := by decide +kernel
theorem s54_41 {x0 : Nat} {x1 : Int32} {s0 : Nat} : ip_WP 54 41 [some (.ref x0), some (.int x1)] [.ref s0] (G, F, I, J) b post px ↔ ip_WP 54 42 [some (.ref x0), some (.int x1)] [.int x1, .ref s0] (G, F, I, J) b post px := ip_nx_iff ((ip_st_of f54_41).trans rfl)
theorem f54_42 : ip_fetch 54 42 = some (.aload_n 0, 1) := by decide +kernel
theorem s54_42 {x0 : Nat} {x1 : Int32} {s0 : Nat} {s1 : Int32} : ip_WP 54 42 [some (.ref x0), some (.int x1)] [.int s1, .ref s0] (G, F, I, J) b post px ↔ ip_WP 54 43 [some (.ref x0), some (.int x1)] [.ref x0, .int s1, .ref s0] (G, F, I, J) b post px := ip_nx_iff ((ip_st_of f54_42).trans rfl)
theorem f54_43 : ip_fetch 54 43 = some (.getfield 13, 3) := by decide +kernel
set_option maxRecDepth 100000 in
theorem s54_43 {x0 : Nat} {x1 : Int32} {s0 : Nat} {s1 : Int32} {s2 : Nat} : ip_WP 54 43 [some (.ref x0), some (.int x1)] [.ref s2, .int s1, .ref s0] (G, F, I, J) b post px ↔ (ip_isO G s2 1 = true ∧ ip_WP 54 46 [some (.ref x0), some (.int x1)] [F s2 3, .int s1, .ref s0] (G, F, I, J) b post px) := ip_s_getf f54_43 (by decide +kernel)
theorem f54_46 : ip_fetch 54 46 = some (.iload_n 1, 1) := by decide +kernel
theorem s54_46 {x0 : Nat} {x1 : Int32} {s0 : Nat} {s1 : Int32} {s2 : Nat} : ip_WP 54 46 [some (.ref x0), some (.int x1)] [.ref s2, .int s1, .ref s0] (G, F, I, J) b post px ↔ ip_WP 54 47 [some (.ref x0), some (.int x1)] [.int x1, .ref s2, .int s1, .ref s0] (G, F, I, J) b post px := ip_nx_iff ((ip_st_of f54_46).trans rfl)
theorem f54_47 : ip_fetch 54 47 = some (.iaload, 1) := by decide +kernel
theorem s54_47 {x0 : Nat} {x1 : Int32} {s0 : Nat} {s1 : Int32} {s2 : Nat} {s3 : Int32} : ip_WP 54 47 [some (.ref x0), some (.int x1)] [.int s3, .ref s2, .int s1, .ref s0] (G, F, I, J) b post px ↔ (ip_inA G s2 0 s3 = true ∧ ip_WP 54 48 [some (.ref x0), some (.int x1)] [.int (I s2 s3.toNatClampNeg), .int s1, .ref s0] (G, F, I, J) b post px) := ip_ck_iff ((ip_st_of f54_47).trans rfl) ip_nx_iff
theorem f54_48 : ip_fetch 54 48 = some (.iastore, 1) := by decide +kernel
theorem s54_48 {x0 : Nat} {x1 : Int32} {s0 : Nat} {s1 : Int32} {s2 : Int32} : ip_WP 54 48 [some (.ref x0), some (.int x1)] [.int s2, .int s1, .ref s0] (G, F, I, J) b post px ↔ (ip_inA G s0 0 s1 = true ∧ ip_WP 54 49 [some (.ref x0), some (.int x1)] [] (G, F, ip_up I s0 s1.toNatClampNeg s2, J) b post px) := ip_ck_iff ((ip_st_of f54_48).trans rfl) ip_nx_iff
theorem f54_49 : ip_fetch 54 49 = some (.iinc 1 1, 3) := by decide +kernel
theorem s54_49 {x0 : Nat} {x1 : Int32} : ip_WP 54 49 [some (.ref x0), some (.int x1)] [] (G, F, I, J) b post px ↔ ip_WP 54 52 [some (.ref x0), some (.int (x1 + 1))] [] (G, F, I, J) b post px := ip_s_iinc f54_49 rfl (by decide)
theorem f54_52 : ip_fetch 54 52 = some (.goto (-23), 3) := by decide +kernel
theorem s54_52 {x0 : Nat} {x1 : Int32} : ip_WP 54 52 [some (.ref x0), some (.int x1)] [] (G, F, I, J) b post px ↔ ip_WP 54 29 [some (.ref x0), some (.int x1)] [] (G, F, I, J) b post px := ip_nx_iff ((ip_st_of f54_52).trans rfl)
theorem f54_55 : ip_fetch 54 55 = some (.aload_n 0, 1) := by decide +kernel
theorem s54_55 {x0 : Nat} {x1 : Int32} : ip_WP 54 55 [some (.ref x0), some (.int x1)] [] (G, F, I, J) b post px ↔ ip_WP 54 56 [some (.ref x0), some (.int x1)] [.ref x0] (G, F, I, J) b post px := ip_nx_iff ((ip_st_of f54_55).trans rfl)
theorem f54_56 : ip_fetch 54 56 = some (.iconst 0, 1) := by decide +kernel
theorem s54_56 {x0 : Nat} {x1 : Int32} {s0 : Nat} : ip_WP 54 56 [some (.ref x0), some (.int x1)] [.ref s0] (G, F, I, J) b post px ↔ ip_WP 54 57 [some (.ref x0), some (.int x1)] [.int 0, .ref s0] (G, F, I, J) b post px := ip_s_iconst f54_56 (by decide)
theorem f54_57 : ip_fetch 54 57 = some (.putfield 90, 3) := by decide +kernel
set_option maxRecDepth 100000 in
theorem s54_57 {x0 : Nat} {x1 : Int32} {s0 : Nat} {s1 : Int32} : ip_WP 54 57 [some (.ref x0), some (.int x1)] [.int s1, .ref s0] (G, F, I, J) b post px ↔ (ip_isO G s0 1 = true ∧ ip_WP 54 60 [some (.ref x0), some (.int x1)] [] (G, ip_up F s0 2 (.int s1), I, J) b post px) := ip_s_put f54_57 (by decide +kernel) rfl
theorem f54_60 : ip_fetch 54 60 = some (.aload_n 0, 1) := by decide +kernel
theorem s54_60 {x0 : Nat} {x1 : Int32} : ip_WP 54 60 [some (.ref x0), some (.int x1)] [] (G, F, I, J) b post px ↔ ip_WP 54 61 [some (.ref x0), some (.int x1)] [.ref x0] (G, F, I, J) b post px := ip_nx_iff ((ip_st_of f54_60).trans rfl)
theorem f54_61 : ip_fetch 54 61 = some (.iconst 0, 1) := by decide +kernel
theorem s54_61 {x0 : Nat} {x1 : Int32} {s0 : Nat} : ip_WP 54 61 [some (.ref x0), some (.int x1)] [.ref s0] (G, F, I, J) b post px ↔ ip_WP 54 62 [some (.ref x0), some (.int x1)] [.int 0, .ref s0] (G, F, I, J) b post px := ip_s_iconst f54_61 (by decide)
theorem f54_62 : ip_fetch 54 62 = some (.putfield 107, 3) := by decide +kernel
set_option maxRecDepth 100000 in
theorem s54_62 {x0 : Nat} {x1 : Int32} {s0 : Nat} {s1 : Int32} : ip_WP 54 62 [some (.ref x0), some (.int x1)] [.int s1, .ref s0] (G, F, I, J) b post px ↔ (ip_isO G s0 1 = true ∧ ip_WP 54 65 [some (.ref x0), some (.int x1)] [] (G, ip_up F s0 37 (.int s1), I, J) b post px) := ip_s_put f54_62 (by decide +kernel) rfl
theorem f54_65 : ip_fetch 54 65 = some (.aload_n 0, 1) := by decide +kernel
theorem s54_65 {x0 : Nat} {x1 : Int32} : ip_WP 54 65 [some (.ref x0), some (.int x1)] [] (G, F, I, J) b post px ↔ ip_WP 54 66 [some (.ref x0), some (.int x1)] [.ref x0] (G, F, I, J) b post px := ip_nx_iff ((ip_st_of f54_65).trans rfl)
theorem f54_66 : ip_fetch 54 66 = some (.invokevirtual 146, 3) := by decide +kernel
set_option maxRecDepth 100000 in
theorem s54_66 {x0 : Nat} {x1 : Int32} {s0 : Nat} : ip_WP 54 66 [some (.ref x0), some (.int x1)] [.ref s0] (G, F, I, J) b post px ↔ (ip_isO G s0 1 = true ∧ ip_WP 31 0 [some (.ref s0), none] [] (G, F, I, J) (0, 0) (fun r h' => ip_WP 54 69 [some (.ref x0), some (.int x1)] (r.toList ++ []) h' b post px) (fun _ _ => False)) := ip_ck_iff (x := ip_cl 31 [some (.ref s0), none] [] (0, 0) b) ((ip_st_of f54_66).trans rfl) (ip_cl_iff)
theorem f54_69 : ip_fetch 54 69 = some (.aload_n 0, 1) := by decide +kernel
theorem s54_69 {x0 : Nat} {x1 : Int32} : ip_WP 54 69 [some (.ref x0), some (.int x1)] [] (G, F, I, J) b post px ↔ ip_WP 54 70 [some (.ref x0), some (.int x1)] [.ref x0] (G, F, I, J) b post px := ip_nx_iff ((ip_st_of f54_69).trans rfl)
theorem f54_70 : ip_fetch 54 70 = some (.getfield 101, 3) := by decide +kernel
set_option maxRecDepth 100000 in
theorem s54_70 {x0 : Nat} {x1 : Int32} {s0 : Nat} : ip_WP 54 70 [some (.ref x0), some (.int x1)] [.ref s0] (G, F, I, J) b post px ↔ (ip_isO G s0 1 = true ∧ ip_WP 54 73 [some (.ref x0), some (.int x1)] [F s0 6] (G, F, I, J) b post px) := ip_s_getf f54_70 (by decide +kernel)
theorem f54_73 : ip_fetch 54 73 = some (.ifCond .ne 17, 3) := by decide +kernel
theorem s54_73 {x0 : Nat} {x1 : Int32} {s0 : Int32} : ip_WP 54 73 [some (.ref x0), some (.int x1)] [.int s0] (G, F, I, J) b post px ↔ if ¬ s0 = 0 then ip_WP 54 90 [some (.ref x0), some (.int x1)] [] (G, F, I, J) b post px else ip_WP 54 76 [some (.ref x0), some (.int x1)] [] (G, F, I, J) b post px := ip_s_if_ne f54_73 rfl
theorem f54_76 : ip_fetch 54 76 = some (.aload_n 0, 1) := by decide +kernel
theorem s54_76 {x0 : Nat} {x1 : Int32} : ip_WP 54 76 [some (.ref x0), some (.int x1)] [] (G, F, I, J) b post px ↔ ip_WP 54 77 [some (.ref x0), some (.int x1)] [.ref x0] (G, F, I, J) b post px := ip_nx_iff ((ip_st_of f54_76).trans rfl)
theorem f54_77 : ip_fetch 54 77 = some (.getfield 123, 3) := by decide +kernel
set_option maxRecDepth 100000 in
theorem s54_77 {x0 : Nat} {x1 : Int32} {s0 : Nat} : ip_WP 54 77 [some (.ref x0), some (.int x1)] [.ref s0] (G, F, I, J) b post px ↔ (ip_isO G s0 1 = true ∧ ip_WP 54 80 [some (.ref x0), some (.int x1)] [F s0 35] (G, F, I, J) b post px) := ip_s_getf f54_77 (by decide +kernel)
theorem f54_80 : ip_fetch 54 80 = some (.ifCond .eq 10, 3) := by decide +kernel
theorem s54_80 {x0 : Nat} {x1 : Int32} {s0 : Int32} : ip_WP 54 80 [some (.ref x0), some (.int x1)] [.int s0] (G, F, I, J) b post px ↔ if s0 = 0 then ip_WP 54 90 [some (.ref x0), some (.int x1)] [] (G, F, I, J) b post px else ip_WP 54 83 [some (.ref x0), some (.int x1)] [] (G, F, I, J) b post px := ip_s_if_eq f54_80 rfl
theorem f54_83 : ip_fetch 54 83 = some (.aload_n 0, 1) := by decide +kernel
theorem s54_83 {x0 : Nat} {x1 : Int32} : ip_WP 54 83 [some (.ref x0), some (.int x1)] [] (G, F, I, J) b post px ↔ ip_WP 54 84 [some (.ref x0), some (.int x1)] [.ref x0] (G, F, I, J) b post px := ip_nx_iff ((ip_st_of f54_83).trans rfl)
theorem f54_84 : ip_fetch 54 84 = some (.invokevirtual 225, 3) := by decide +kernel
set_option maxRecDepth 100000 in
theorem s54_84 {x0 : Nat} {x1 : Int32} {s0 : Nat} : ip_WP 54 84 [some (.ref x0), some (.int x1)] [.ref s0] (G, F, I, J) b post px ↔ (ip_isO G s0 1 = true ∧ ip_WP 52 0 [some (.ref s0), none] [] (G, F, I, J) (0, 0) (fun r h' => ip_WP 54 87 [some (.ref x0), some (.int x1)] (r.toList ++ []) h' b post px) (fun _ _ => False)) := ip_ck_iff (x := ip_cl 52 [some (.ref s0), none] [] (0, 0) b) ((ip_st_of f54_84).trans rfl) (ip_cl_iff)
theorem f54_87 : ip_fetch 54 87 = some (.goto (-18), 3) := by decide +kernel
theorem s54_87 {x0 : Nat} {x1 : Int32} : ip_WP 54 87 [some (.ref x0), some (.int x1)] [] (G, F, I, J) b post px ↔ ip_WP 54 69 [some (.ref x0), some (.int x1)] [] (G, F, I, J) b post px := ip_nx_iff ((ip_st_of f54_87).trans rfl)
theorem f54_90 : ip_fetch 54 90 = some (.aload_n 0, 1) := by decide +kernel
theorem s54_90 {x0 : Nat} {x1 : Int32} : ip_WP 54 90 [some (.ref x0), some (.int x1)] [] (G, F, I, J) b post px ↔ ip_WP 54 91 [some (.ref x0), some (.int x1)] [.ref x0] (G, F, I, J) b post px := ip_nx_iff ((ip_st_of f54_90).trans rfl)
theorem f54_91 : ip_fetch 54 91 = some (.getfield 101, 3) := by decide +kernel
set_option maxRecDepth 100000 in
theorem s54_91 {x0 : Nat} {x1 : Int32} {s0 : Nat} : ip_WP 54 91 [some (.ref x0), some (.int x1)] [.ref s0] (G, F, I, J) b post px ↔ (ip_isO G s0 1 = true ∧ ip_WP 54 94 [some (.ref x0), some (.int x1)] [F s0 6] (G, F, I, J) b post px) := ip_s_getf f54_91 (by decide +kernel)
theorem f54_94 : ip_fetch 54 94 = some (.ifCond .le 13, 3) := by decide +kernel
theorem s54_94 {x0 : Nat} {x1 : Int32} {s0 : Int32} : ip_WP 54 94 [some (.ref x0), some (.int x1)] [.int s0] (G, F, I, J) b post px ↔ if s0 ≤ 0 then ip_WP 54 107 [some (.ref x0), some (.int x1)] [] (G, F, I, J) b post px else ip_WP 54 97 [some (.ref x0), some (.int x1)] [] (G, F, I, J) b post px := ip_s_if_le f54_94 rfl
theorem f54_97 : ip_fetch 54 97 = some (.aload_n 0, 1) := by decide +kernel
theorem s54_97 {x0 : Nat} {x1 : Int32} : ip_WP 54 97 [some (.ref x0), some (.int x1)] [] (G, F, I, J) b post px ↔ ip_WP 54 98 [some (.ref x0), some (.int x1)] [.ref x0] (G, F, I, J) b post px := ip_nx_iff ((ip_st_of f54_97).trans rfl)
theorem f54_98 : ip_fetch 54 98 = some (.invokevirtual 83, 3) := by decide +kernel
set_option maxRecDepth 100000 in
theorem s54_98 {x0 : Nat} {x1 : Int32} {s0 : Nat} : ip_WP 54 98 [some (.ref x0), some (.int x1)] [.ref s0] (G, F, I, J) b post px ↔ (ip_isO G s0 1 = true ∧ ip_WP 53 0 [some (.ref s0), none] [] (G, F, I, J) (0, 0) (fun r h' => ip_WP 54 101 [some (.ref x0), some (.int x1)] (r.toList ++ []) h' b post px) (fun _ _ => False)) := ip_ck_iff (x := ip_cl 53 [some (.ref s0), none] [] (0, 0) b) ((ip_st_of f54_98).trans rfl) (ip_cl_iff)
theorem f54_101 : ip_fetch 54 101 = some (.aload_n 0, 1) := by decide +kernel
theorem s54_101 {x0 : Nat} {x1 : Int32} : ip_WP 54 101 [some (.ref x0), some (.int x1)] [] (G, F, I, J) b post px ↔ ip_WP 54 102 [some (.ref x0), some (.int x1)] [.ref x0] (G, F, I, J) b post px := ip_nx_iff ((ip_st_of f54_101).trans rfl)
theorem f54_102 : ip_fetch 54 102 = some (.iconst 1, 1) := by decide +kernel
theorem s54_102 {x0 : Nat} {x1 : Int32} {s0 : Nat} : ip_WP 54 102 [some (.ref x0), some (.int x1)] [.ref s0] (G, F, I, J) b post px ↔ ip_WP 54 103 [some (.ref x0), some (.int x1)] [.int 1, .ref s0] (G, F, I, J) b post px := ip_s_iconst f54_102 (by decide)
theorem f54_103 : ip_fetch 54 103 = some (.invokevirtual 93, 3) := by decide +kernel
set_option maxRecDepth 100000 in
theorem s54_103 {x0 : Nat} {x1 : Int32} {s0 : Nat} {s1 : Int32} : ip_WP 54 103 [some (.ref x0), some (.int x1)] [.int s1, .ref s0] (G, F, I, J) b post px ↔ (ip_isO G s0 1 = true ∧ ip_WP 21 0 [some (.ref s0), some (.int s1)] [] (G, F, I, J) (0, 0) (fun r h' => ip_WP 54 106 [some (.ref x0), some (.int x1)] (r.toList ++ []) h' b post px) (fun _ _ => False)) := ip_ck_iff (x := ip_cl 21 [some (.ref s0), some (.int s1)] [] (0, 0) b) ((ip_st_of f54_103).trans rfl) (ip_cl_iff)
theorem f54_106 : ip_fetch 54 106 = some (.ireturn, 1) := by decide +kernel
theorem s54_106 {x0 : Nat} {x1 : Int32} {s0 : Int32} : ip_WP 54 106 [some (.ref x0), some (.int x1)] [.int s0] (G, F, I, J) b post px ↔ post (some (.int s0)) (G, F, I, J) := ip_rt_iff ((ip_st_of f54_106).trans rfl)
theorem f54_107 : ip_fetch 54 107 = some (.aload_n 0, 1) := by decide +kernel
theorem s54_107 {x0 : Nat} {x1 : Int32} : ip_WP 54 107 [some (.ref x0), some (.int x1)] [] (G, F, I, J) b post px ↔ ip_WP 54 108 [some (.ref x0), some (.int x1)] [.ref x0] (G, F, I, J) b post px := ip_nx_iff ((ip_st_of f54_107).trans rfl)
theorem f54_108 : ip_fetch 54 108 = some (.invokevirtual 219, 3) := by decide +kernel
set_option maxRecDepth 100000 in
theorem s54_108 {x0 : Nat} {x1 : Int32} {s0 : Nat} : ip_WP 54 108 [some (.ref x0), some (.int x1)] [.ref s0] (G, F, I, J) b post px ↔ (ip_isO G s0 1 = true ∧ ip_WP 59 0 [some (.ref s0), none, none, none] [] (G, F, I, J) (0, 0) (fun r h' => ip_WP 54 111 [some (.ref x0), some (.int x1)] (r.toList ++ []) h' b post px) (fun _ _ => False)) := ip_ck_iff (x := ip_cl 59 [some (.ref s0), none, none, none] [] (0, 0) b) ((ip_st_of f54_108).trans rfl) (ip_cl_iff)
theorem f54_111 : ip_fetch 54 111 = some (.aload_n 0, 1) := by decide +kernel
theorem s54_111 {x0 : Nat} {x1 : Int32} : ip_WP 54 111 [some (.ref x0), some (.int x1)] [] (G, F, I, J) b post px ↔ ip_WP 54 112 [some (.ref x0), some (.int x1)] [.ref x0] (G, F, I, J) b post px := ip_nx_iff ((ip_st_of f54_111).trans rfl)
theorem f54_112 : ip_fetch 54 112 = some (.invokevirtual 222, 3) := by decide +kernel
set_option maxRecDepth 100000 in
theorem s54_112 {x0 : Nat} {x1 : Int32} {s0 : Nat} : ip_WP 54 112 [some (.ref x0), some (.int x1)] [.ref s0] (G, F, I, J) b post px ↔ (ip_isO G s0 1 = true ∧ ip_WP 62 0 [some (.ref s0), none] [] (G, F, I, J) (0, 0) (fun r h' => ip_WP 54 115 [some (.ref x0), some (.int x1)] (r.toList ++ []) h' b post px) (fun _ _ => False)) := ip_ck_iff (x := ip_cl 62 [some (.ref s0), none] [] (0, 0) b) ((ip_st_of f54_112).trans rfl) (ip_cl_iff)
theorem f54_115 : ip_fetch 54 115 = some (.aload_n 0, 1) := by decide +kernel
theorem s54_115 {x0 : Nat} {x1 : Int32} : ip_WP 54 115 [some (.ref x0), some (.int x1)] [] (G, F, I, J) b post px ↔ ip_WP 54 116 [some (.ref x0), some (.int x1)] [.ref x0] (G, F, I, J) b post px := ip_nx_iff ((ip_st_of f54_115).trans rfl)
theorem f54_116 : ip_fetch 54 116 = some (.getfield 216, 3) := by decide +kernel
set_option maxRecDepth 100000 in
theorem s54_116 {x0 : Nat} {x1 : Int32} {s0 : Nat} : ip_WP 54 116 [some (.ref x0), some (.int x1)] [.ref s0] (G, F, I, J) b post px ↔ (ip_isO G s0 1 = true ∧ ip_WP 54 119 [some (.ref x0), some (.int x1)] [F s0 9] (G, F, I, J) b post px) := ip_s_getf f54_116 (by decide +kernel)
theorem f54_119 : ip_fetch 54 119 = some (.ireturn, 1) := by decide +kernel
theorem s54_119 {x0 : Nat} {x1 : Int32} {s0 : Int32} : ip_WP 54 119 [some (.ref x0), some (.int x1)] [.int s0] (G, F, I, J) b post px ↔ post (some (.int s0)) (G, F, I, J) := ip_rt_iff ((ip_st_of f54_119).trans rfl)
theorem f55_0 : ip_fetch 55 0 = some (.aload_n 0, 1) := by decide +kernel
theorem s55_0 {x0 : Nat} {x1 : Int32} : ip_WP 55 0 [some (.ref x0), some (.int x1)] [] (G, F, I, J) b post px ↔ ip_WP 55 1 [some (.ref x0), some (.int x1)] [.ref x0] (G, F, I, J) b post px := ip_nx_iff ((ip_st_of f55_0).trans rfl)
theorem f55_1 : ip_fetch 55 1 = some (.iconst 0, 1) := by decide +kernel
theorem s55_1 {x0 : Nat} {x1 : Int32} {s0 : Nat} : ip_WP 55 1 [some (.ref x0), some (.int x1)] [.ref s0] (G, F, I, J) b post px ↔ ip_WP 55 2 [some (.ref x0), some (.int x1)] [.int 0, .ref s0] (G, F, I, J) b post px := ip_s_iconst f55_1 (by decide)
theorem f55_2 : ip_fetch 55 2 = some (.putfield 86, 3) := by decide +kernel
set_option maxRecDepth 100000 in
theorem s55_2 {x0 : Nat} {x1 : Int32} {s0 : Nat} {s1 : Int32} : ip_WP 55 2 [some (.ref x0), some (.int x1)] [.int s1, .ref s0] (G, F, I, J) b post px ↔ (ip_isO G s0 1 = true ∧ ip_WP 55 5 [some (.ref x0), some (.int x1)] [] (G, ip_up F s0 1 (.int s1), I, J) b post px) := ip_s_put f55_2 (by decide +kernel) rfl
theorem f55_5 : ip_fetch 55 5 = some (.iload_n 1, 1) := by decide +kernel
theorem s55_5 {x0 : Nat} {x1 : Int32} : ip_WP 55 5 [some (.ref x0), some (.int x1)] [] (G, F, I, J) b post px ↔ ip_WP 55 6 [some (.ref x0), some (.int x1)] [.int x1] (G, F, I, J) b post px := ip_nx_iff ((ip_st_of f55_5).trans rfl)
theorem f55_6 : ip_fetch 55 6 = some (.ifCond .ne 10, 3) := by decide +kernel
theorem s55_6 {x0 : Nat} {x1 : Int32} {s0 : Int32} : ip_WP 55 6 [some (.ref x0), some (.int x1)] [.int s0] (G, F, I, J) b post px ↔ if ¬ s0 = 0 then ip_WP 55 16 [some (.ref x0), some (.int x1)] [] (G, F, I, J) b post px else ip_WP 55 9 [some (.ref x0), some (.int x1)] [] (G, F, I, J) b post px := ip_s_if_ne f55_6 rfl
theorem f55_9 : ip_fetch 55 9 = some (.aload_n 0, 1) := by decide +kernel
theorem s55_9 {x0 : Nat} {x1 : Int32} : ip_WP 55 9 [some (.ref x0), some (.int x1)] [] (G, F, I, J) b post px ↔ ip_WP 55 10 [some (.ref x0), some (.int x1)] [.ref x0] (G, F, I, J) b post px := ip_nx_iff ((ip_st_of f55_9).trans rfl)
theorem f55_10 : ip_fetch 55 10 = some (.getfield 101, 3) := by decide +kernel
set_option maxRecDepth 100000 in
theorem s55_10 {x0 : Nat} {x1 : Int32} {s0 : Nat} : ip_WP 55 10 [some (.ref x0), some (.int x1)] [.ref s0] (G, F, I, J) b post px ↔ (ip_isO G s0 1 = true ∧ ip_WP 55 13 [some (.ref x0), some (.int x1)] [F s0 6] (G, F, I, J) b post px) := ip_s_getf f55_10 (by decide +kernel)
theorem f55_13 : ip_fetch 55 13 = some (.goto 20, 3) := by decide +kernel
theorem s55_13 {x0 : Nat} {x1 : Int32} {s0 : Int32} : ip_WP 55 13 [some (.ref x0), some (.int x1)] [.int s0] (G, F, I, J) b post px ↔ ip_WP 55 33 [some (.ref x0), some (.int x1)] [.int s0] (G, F, I, J) b post px := ip_nx_iff ((ip_st_of f55_13).trans rfl)
theorem f55_16 : ip_fetch 55 16 = some (.iload_n 1, 1) := by decide +kernel
theorem s55_16 {x0 : Nat} {x1 : Int32} : ip_WP 55 16 [some (.ref x0), some (.int x1)] [] (G, F, I, J) b post px ↔ ip_WP 55 17 [some (.ref x0), some (.int x1)] [.int x1] (G, F, I, J) b post px := ip_nx_iff ((ip_st_of f55_16).trans rfl)
theorem f55_17 : ip_fetch 55 17 = some (.iconst 1, 1) := by decide +kernel
theorem s55_17 {x0 : Nat} {x1 : Int32} {s0 : Int32} : ip_WP 55 17 [some (.ref x0), some (.int x1)] [.int s0] (G, F, I, J) b post px ↔ ip_WP 55 18 [some (.ref x0), some (.int x1)] [.int 1, .int s0] (G, F, I, J) b post px := ip_s_iconst f55_17 (by decide)
theorem f55_18 : ip_fetch 55 18 = some (.if_icmp .ne 10, 3) := by decide +kernel
theorem s55_18 {x0 : Nat} {x1 : Int32} {s0 : Int32} {s1 : Int32} : ip_WP 55 18 [some (.ref x0), some (.int x1)] [.int s1, .int s0] (G, F, I, J) b post px ↔ if ¬ s0 = s1 then ip_WP 55 28 [some (.ref x0), some (.int x1)] [] (G, F, I, J) b post px else ip_WP 55 21 [some (.ref x0), some (.int x1)] [] (G, F, I, J) b post px := ip_s_ic_ne f55_18 rfl
theorem f55_21 : ip_fetch 55 21 = some (.aload_n 0, 1) := by decide +kernel
theorem s55_21 {x0 : Nat} {x1 : Int32} : ip_WP 55 21 [some (.ref x0), some (.int x1)] [] (G, F, I, J) b post px ↔ ip_WP 55 22 [some (.ref x0), some (.int x1)] [.ref x0] (G, F, I, J) b post px := ip_nx_iff ((ip_st_of f55_21).trans rfl)
theorem f55_22 : ip_fetch 55 22 = some (.getfield 104, 3) := by decide +kernel
set_option maxRecDepth 100000 in
theorem s55_22 {x0 : Nat} {x1 : Int32} {s0 : Nat} : ip_WP 55 22 [some (.ref x0), some (.int x1)] [.ref s0] (G, F, I, J) b post px ↔ (ip_isO G s0 1 = true ∧ ip_WP 55 25 [some (.ref x0), some (.int x1)] [F s0 7] (G, F, I, J) b post px) := ip_s_getf f55_22 (by decide +kernel)
theorem f55_25 : ip_fetch 55 25 = some (.goto 8, 3) := by decide +kernel
theorem s55_25 {x0 : Nat} {x1 : Int32} {s0 : Int32} : ip_WP 55 25 [some (.ref x0), some (.int x1)] [.int s0] (G, F, I, J) b post px ↔ ip_WP 55 33 [some (.ref x0), some (.int x1)] [.int s0] (G, F, I, J) b post px := ip_nx_iff ((ip_st_of f55_25).trans rfl)
theorem f55_28 : ip_fetch 55 28 = some (.aload_n 0, 1) := by decide +kernel
theorem s55_28 {x0 : Nat} {x1 : Int32} : ip_WP 55 28 [some (.ref x0), some (.int x1)] [] (G, F, I, J) b post px ↔ ip_WP 55 29 [some (.ref x0), some (.int x1)] [.ref x0] (G, F, I, J) b post px := ip_nx_iff ((ip_st_of f55_28).trans rfl)
theorem f55_29 : ip_fetch 55 29 = some (.iconst 1, 1) := by decide +kernel
theorem s55_29 {x0 : Nat} {x1 : Int32} {s0 : Nat} : ip_WP 55 29 [some (.ref x0), some (.int x1)] [.ref s0] (G, F, I, J) b post px ↔ ip_WP 55 30 [some (.ref x0), some (.int x1)] [.int 1, .ref s0] (G, F, I, J) b post px := ip_s_iconst f55_29 (by decide)
theorem f55_30 : ip_fetch 55 30 = some (.invokevirtual 93, 3) := by decide +kernel
set_option maxRecDepth 100000 in
theorem s55_30 {x0 : Nat} {x1 : Int32} {s0 : Nat} {s1 : Int32} : ip_WP 55 30 [some (.ref x0), some (.int x1)] [.int s1, .ref s0] (G, F, I, J) b post px ↔ (ip_isO G s0 1 = true ∧ ip_WP 21 0 [some (.ref s0), some (.int s1)] [] (G, F, I, J) (0, 0) (fun r h' => ip_WP 55 33 [some (.ref x0), some (.int x1)] (r.toList ++ []) h' b post px) (fun _ _ => False)) := ip_ck_iff (x := ip_cl 21 [some (.ref s0), some (.int s1)] [] (0, 0) b) ((ip_st_of f55_30).trans rfl) (ip_cl_iff)
theorem f55_33 : ip_fetch 55 33 = some (.ireturn, 1) := by decide +kernel
theorem s55_33 {x0 : Nat} {x1 : Int32} {s0 : Int32} : ip_WP 55 33 [some (.ref x0), some (.int x1)] [.int s0] (G, F, I, J) b post px ↔ post (some (.int s0)) (G, F, I, J) := ip_rt_iff ((ip_st_of f55_33).trans rfl)
theorem f56_0 : ip_fetch 56 0 = some (.aload_n 0, 1) := by decide +kernel
theorem s56_0 {x0 : Nat} {x1 : Int32} {x2 : Int32} : ip_WP 56 0 [some (.ref x0), some (.int x1), some (.int x2)] [] (G, F, I, J) b post px ↔ ip_WP 56 1 [some (.ref x0), some (.int x1), some (.int x2)] [.ref x0] (G, F, I, J) b post px := ip_nx_iff ((ip_st_of f56_0).trans rfl)
theorem f56_1 : ip_fetch 56 1 = some (.getfield 71, 3) := by decide +kernel
set_option maxRecDepth 100000 in
theorem s56_1 {x0 : Nat} {x1 : Int32} {x2 : Int32} {s0 : Nat} : ip_WP 56 1 [some (.ref x0), some (.int x1), some (.int x2)] [.ref s0] (G, F, I, J) b post px ↔ (ip_isO G s0 1 = true ∧ ip_WP 56 4 [some (.ref x0), some (.int x1), some (.int x2)] [F s0 31] (G, F, I, J) b post px) := ip_s_getf f56_1 (by decide +kernel)
theorem f56_4 : ip_fetch 56 4 = some (.aload_n 0, 1) := by decide +kernel
theorem s56_4 {x0 : Nat} {x1 : Int32} {x2 : Int32} {s0 : Nat} : ip_WP 56 4 [some (.ref x0), some (.int x1), some (.int x2)] [.ref s0] (G, F, I, J) b post px ↔ ip_WP 56 5 [some (.ref x0), some (.int x1), some (.int x2)] [.ref x0, .ref s0] (G, F, I, J) b post px := ip_nx_iff ((ip_st_of f56_4).trans rfl)
theorem f56_5 : ip_fetch 56 5 = some (.getfield 228, 3) := by decide +kernel
set_option maxRecDepth 100000 in
theorem s56_5 {x0 : Nat} {x1 : Int32} {x2 : Int32} {s0 : Nat} {s1 : Nat} : ip_WP 56 5 [some (.ref x0), some (.int x1), some (.int x2)] [.ref s1, .ref s0] (G, F, I, J) b post px ↔ (ip_isO G s1 1 = true ∧ ip_WP 56 8 [some (.ref x0), some (.int x1), some (.int x2)] [F s1 29, .ref s0] (G, F, I, J) b post px) := ip_s_getf f56_5 (by decide +kernel)
theorem f56_8 : ip_fetch 56 8 = some (.iload_n 1, 1) := by decide +kernel
theorem s56_8 {x0 : Nat} {x1 : Int32} {x2 : Int32} {s0 : Nat} {s1 : Int32} : ip_WP 56 8 [some (.ref x0), some (.int x1), some (.int x2)] [.int s1, .ref s0] (G, F, I, J) b post px ↔ ip_WP 56 9 [some (.ref x0), some (.int x1), some (.int x2)] [.int x1, .int s1, .ref s0] (G, F, I, J) b post px := ip_nx_iff ((ip_st_of f56_8).trans rfl)
theorem f56_9 : ip_fetch 56 9 = some (.iastore, 1) := by decide +kernel
theorem s56_9 {x0 : Nat} {x1 : Int32} {x2 : Int32} {s0 : Nat} {s1 : Int32} {s2 : Int32} : ip_WP 56 9 [some (.ref x0), some (.int x1), some (.int x2)] [.int s2, .int s1, .ref s0] (G, F, I, J) b post px ↔ (ip_inA G s0 0 s1 = true ∧ ip_WP 56 10 [some (.ref x0), some (.int x1), some (.int x2)] [] (G, F, ip_up I s0 s1.toNatClampNeg s2, J) b post px) := ip_ck_iff ((ip_st_of f56_9).trans rfl) ip_nx_iff
theorem f56_10 : ip_fetch 56 10 = some (.aload_n 0, 1) := by decide +kernel
theorem s56_10 {x0 : Nat} {x1 : Int32} {x2 : Int32} : ip_WP 56 10 [some (.ref x0), some (.int x1), some (.int x2)] [] (G, F, I, J) b post px ↔ ip_WP 56 11 [some (.ref x0), some (.int x1), some (.int x2)] [.ref x0] (G, F, I, J) b post px := ip_nx_iff ((ip_st_of f56_10).trans rfl)
theorem f56_11 : ip_fetch 56 11 = some (.getfield 74, 3) := by decide +kernel
set_option maxRecDepth 100000 in
theorem s56_11 {x0 : Nat} {x1 : Int32} {x2 : Int32} {s0 : Nat} : ip_WP 56 11 [some (.ref x0), some (.int x1), some (.int x2)] [.ref s0] (G, F, I, J) b post px ↔ (ip_isO G s0 1 = true ∧ ip_WP 56 14 [some (.ref x0), some (.int x1), some (.int x2)] [F s0 32] (G, F, I, J) b post px) := ip_s_getf f56_11 (by decide +kernel)
theorem f56_14 : ip_fetch 56 14 = some (.aload_n 0, 1) := by decide +kernel
theorem s56_14 {x0 : Nat} {x1 : Int32} {x2 : Int32} {s0 : Nat} : ip_WP 56 14 [some (.ref x0), some (.int x1), some (.int x2)] [.ref s0] (G, F, I, J) b post px ↔ ip_WP 56 15 [some (.ref x0), some (.int x1), some (.int x2)] [.ref x0, .ref s0] (G, F, I, J) b post px := ip_nx_iff ((ip_st_of f56_14).trans rfl)
theorem f56_15 : ip_fetch 56 15 = some (.getfield 228, 3) := by decide +kernel
set_option maxRecDepth 100000 in
theorem s56_15 {x0 : Nat} {x1 : Int32} {x2 : Int32} {s0 : Nat} {s1 : Nat} : ip_WP 56 15 [some (.ref x0), some (.int x1), some (.int x2)] [.ref s1, .ref s0] (G, F, I, J) b post px ↔ (ip_isO G s1 1 = true ∧ ip_WP 56 18 [some (.ref x0), some (.int x1), some (.int x2)] [F s1 29, .ref s0] (G, F, I, J) b post px) := ip_s_getf f56_15 (by decide +kernel)
theorem f56_18 : ip_fetch 56 18 = some (.iload_n 2, 1) := by decide +kernel
theorem s56_18 {x0 : Nat} {x1 : Int32} {x2 : Int32} {s0 : Nat} {s1 : Int32} : ip_WP 56 18 [some (.ref x0), some (.int x1), some (.int x2)] [.int s1, .ref s0] (G, F, I, J) b post px ↔ ip_WP 56 19 [some (.ref x0), some (.int x1), some (.int x2)] [.int x2, .int s1, .ref s0] (G, F, I, J) b post px := ip_nx_iff ((ip_st_of f56_18).trans rfl)
theorem f56_19 : ip_fetch 56 19 = some (.iastore, 1) := by decide +kernel
theorem s56_19 {x0 : Nat} {x1 : Int32} {x2 : Int32} {s0 : Nat} {s1 : Int32} {s2 : Int32} : ip_WP 56 19 [some (.ref x0), some (.int x1), some (.int x2)] [.int s2, .int s1, .ref s0] (G, F, I, J) b post px ↔ (ip_inA G s0 0 s1 = true ∧ ip_WP 56 20 [some (.ref x0), some (.int x1), some (.int x2)] [] (G, F, ip_up I s0 s1.toNatClampNeg s2, J) b post px) := ip_ck_iff ((ip_st_of f56_19).trans rfl) ip_nx_iff
theorem f56_20 : ip_fetch 56 20 = some (.aload_n 0, 1) := by decide +kernel
theorem s56_20 {x0 : Nat} {x1 : Int32} {x2 : Int32} : ip_WP 56 20 [some (.ref x0), some (.int x1), some (.int x2)] [] (G, F, I, J) b post px ↔ ip_WP 56 21 [some (.ref x0), some (.int x1), some (.int x2)] [.ref x0] (G, F, I, J) b post px := ip_nx_iff ((ip_st_of f56_20).trans rfl)
theorem f56_21 : ip_fetch 56 21 = some (.dup, 1) := by decide +kernel
theorem s56_21 {x0 : Nat} {x1 : Int32} {x2 : Int32} {s0 : Nat} : ip_WP 56 21 [some (.ref x0), some (.int x1), some (.int x2)] [.ref s0] (G, F, I, J) b post px ↔ ip_WP 56 22 [some (.ref x0), some (.int x1), some (.int x2)] [.ref s0, .ref s0] (G, F, I, J) b post px := ip_nx_iff ((ip_st_of f56_21).trans rfl)
theorem f56_22 : ip_fetch 56 22 = some (.getfield 228, 3) := by decide +kernel
set_option maxRecDepth 100000 in
theorem s56_22 {x0 : Nat} {x1 : Int32} {x2 : Int32} {s0 : Nat} {s1 : Nat} : ip_WP 56 22 [some (.ref x0), some (.int x1), some (.int x2)] [.ref s1, .ref s0] (G, F, I, J) b post px ↔ (ip_isO G s1 1 = true ∧ ip_WP 56 25 [some (.ref x0), some (.int x1), some (.int x2)] [F s1 29, .ref s0] (G, F, I, J) b post px) := ip_s_getf f56_22 (by decide +kernel)
theorem f56_25 : ip_fetch 56 25 = some (.iconst 1, 1) := by decide +kernel
theorem s56_25 {x0 : Nat} {x1 : Int32} {x2 : Int32} {s0 : Nat} {s1 : Int32} : ip_WP 56 25 [some (.ref x0), some (.int x1), some (.int x2)] [.int s1, .ref s0] (G, F, I, J) b post px ↔ ip_WP 56 26 [some (.ref x0), some (.int x1), some (.int x2)] [.int 1, .int s1, .ref s0] (G, F, I, J) b post px := ip_s_iconst f56_25 (by decide)
theorem f56_26 : ip_fetch 56 26 = some (.iadd, 1) := by decide +kernel
theorem s56_26 {x0 : Nat} {x1 : Int32} {x2 : Int32} {s0 : Nat} {s1 : Int32} {s2 : Int32} : ip_WP 56 26 [some (.ref x0), some (.int x1), some (.int x2)] [.int s2, .int s1, .ref s0] (G, F, I, J) b post px ↔ ip_WP 56 27 [some (.ref x0), some (.int x1), some (.int x2)] [.int (s1 + s2), .ref s0] (G, F, I, J) b post px := ip_nx_iff ((ip_st_of f56_26).trans rfl)
theorem f56_27 : ip_fetch 56 27 = some (.putfield 228, 3) := by decide +kernel
set_option maxRecDepth 100000 in
theorem s56_27 {x0 : Nat} {x1 : Int32} {x2 : Int32} {s0 : Nat} {s1 : Int32} : ip_WP 56 27 [some (.ref x0), some (.int x1), some (.int x2)] [.int s1, .ref s0] (G, F, I, J) b post px ↔ (ip_isO G s0 1 = true ∧ ip_WP 56 30 [some (.ref x0), some (.int x1), some (.int x2)] [] (G, ip_up F s0 29 (.int s1), I, J) b post px) := ip_s_put f56_27 (by decide +kernel) rfl
theorem f56_30 : ip_fetch 56 30 = some (.return_, 1) := by decide +kernel
theorem s56_30 {x0 : Nat} {x1 : Int32} {x2 : Int32} : ip_WP 56 30 [some (.ref x0), some (.int x1), some (.int x2)] [] (G, F, I, J) b post px ↔ post none (G, F, I, J) := ip_rt_iff ((ip_st_of f56_30).trans rfl)
theorem f57_0 : ip_fetch 57 0 = some (.iload_n 3, 1) := by decide +kernel
theorem s57_0 {x0 : Nat} {x1 : Int32} {x2 : Int32} {x3 : Int32} : ip_WP 57 0 [some (.ref x0), some (.int x1), some (.int x2), some (.int x3)] [] (G, F, I, J) b post px ↔ ip_WP 57 1 [some (.ref x0), some (.int x1), some (.int x2), some (.int x3)] [.int x3] (G, F, I, J) b post px := ip_nx_iff ((ip_st_of f57_0).trans rfl)
theorem f57_1 : ip_fetch 57 1 = some (.ifCond .ne 4, 3) := by decide +kernel
theorem s57_1 {x0 : Nat} {x1 : Int32} {x2 : Int32} {x3 : Int32} {s0 : Int32} : ip_WP 57 1 [some (.ref x0), some (.int x1), some (.int x2), some (.int x3)] [.int s0] (G, F, I, J) b post px ↔ if ¬ s0 = 0 then ip_WP 57 5 [some (.ref x0), some (.int x1), some (.int x2), some (.int x3)] [] (G, F, I, J) b post px else ip_WP 57 4 [some (.ref x0), some (.int x1), some (.int x2), some (.int x3)] [] (G, F, I, J) b post px := ip_s_if_ne f57_1 rfl
theorem f57_4 : ip_fetch 57 4 = some (.return_, 1) := by decide +kernel
theorem s57_4 {x0 : Nat} {x1 : Int32} {x2 : Int32} {x3 : Int32} : ip_WP 57 4 [some (.ref x0), some (.int x1), some (.int x2), some (.int x3)] [] (G, F, I, J) b post px ↔ post none (G, F, I, J) := ip_rt_iff ((ip_st_of f57_4).trans rfl)
theorem f57_5 : ip_fetch 57 5 = some (.aload_n 0, 1) := by decide +kernel
theorem s57_5 {x0 : Nat} {x1 : Int32} {x2 : Int32} {x3 : Int32} : ip_WP 57 5 [some (.ref x0), some (.int x1), some (.int x2), some (.int x3)] [] (G, F, I, J) b post px ↔ ip_WP 57 6 [some (.ref x0), some (.int x1), some (.int x2), some (.int x3)] [.ref x0] (G, F, I, J) b post px := ip_nx_iff ((ip_st_of f57_5).trans rfl)
theorem f57_6 : ip_fetch 57 6 = some (.getfield 77, 3) := by decide +kernel
set_option maxRecDepth 100000 in
theorem s57_6 {x0 : Nat} {x1 : Int32} {x2 : Int32} {x3 : Int32} {s0 : Nat} : ip_WP 57 6 [some (.ref x0), some (.int x1), some (.int x2), some (.int x3)] [.ref s0] (G, F, I, J) b post px ↔ (ip_isO G s0 1 = true ∧ ip_WP 57 9 [some (.ref x0), some (.int x1), some (.int x2), some (.int x3)] [F s0 33] (G, F, I, J) b post px) := ip_s_getf f57_6 (by decide +kernel)
theorem f57_9 : ip_fetch 57 9 = some (.aload_n 0, 1) := by decide +kernel
theorem s57_9 {x0 : Nat} {x1 : Int32} {x2 : Int32} {x3 : Int32} {s0 : Nat} : ip_WP 57 9 [some (.ref x0), some (.int x1), some (.int x2), some (.int x3)] [.ref s0] (G, F, I, J) b post px ↔ ip_WP 57 10 [some (.ref x0), some (.int x1), some (.int x2), some (.int x3)] [.ref x0, .ref s0] (G, F, I, J) b post px := ip_nx_iff ((ip_st_of f57_9).trans rfl)
theorem f57_10 : ip_fetch 57 10 = some (.getfield 231, 3) := by decide +kernel
set_option maxRecDepth 100000 in
theorem s57_10 {x0 : Nat} {x1 : Int32} {x2 : Int32} {x3 : Int32} {s0 : Nat} {s1 : Nat} : ip_WP 57 10 [some (.ref x0), some (.int x1), some (.int x2), some (.int x3)] [.ref s1, .ref s0] (G, F, I, J) b post px ↔ (ip_isO G s1 1 = true ∧ ip_WP 57 13 [some (.ref x0), some (.int x1), some (.int x2), some (.int x3)] [F s1 30, .ref s0] (G, F, I, J) b post px) := ip_s_getf f57_10 (by decide +kernel)
theorem f57_13 : ip_fetch 57 13 = some (.iload_n 1, 1) := by decide +kernel
theorem s57_13 {x0 : Nat} {x1 : Int32} {x2 : Int32} {x3 : Int32} {s0 : Nat} {s1 : Int32} : ip_WP 57 13 [some (.ref x0), some (.int x1), some (.int x2), some (.int x3)] [.int s1, .ref s0] (G, F, I, J) b post px ↔ ip_WP 57 14 [some (.ref x0), some (.int x1), some (.int x2), some (.int x3)] [.int x1, .int s1, .ref s0] (G, F, I, J) b post px := ip_nx_iff ((ip_st_of f57_13).trans rfl)
theorem f57_14 : ip_fetch 57 14 = some (.iastore, 1) := by decide +kernel
theorem s57_14 {x0 : Nat} {x1 : Int32} {x2 : Int32} {x3 : Int32} {s0 : Nat} {s1 : Int32} {s2 : Int32} : ip_WP 57 14 [some (.ref x0), some (.int x1), some (.int x2), some (.int x3)] [.int s2, .int s1, .ref s0] (G, F, I, J) b post px ↔ (ip_inA G s0 0 s1 = true ∧ ip_WP 57 15 [some (.ref x0), some (.int x1), some (.int x2), some (.int x3)] [] (G, F, ip_up I s0 s1.toNatClampNeg s2, J) b post px) := ip_ck_iff ((ip_st_of f57_14).trans rfl) ip_nx_iff
theorem f57_15 : ip_fetch 57 15 = some (.aload_n 0, 1) := by decide +kernel
theorem s57_15 {x0 : Nat} {x1 : Int32} {x2 : Int32} {x3 : Int32} : ip_WP 57 15 [some (.ref x0), some (.int x1), some (.int x2), some (.int x3)] [] (G, F, I, J) b post px ↔ ip_WP 57 16 [some (.ref x0), some (.int x1), some (.int x2), some (.int x3)] [.ref x0] (G, F, I, J) b post px := ip_nx_iff ((ip_st_of f57_15).trans rfl)
theorem f57_16 : ip_fetch 57 16 = some (.getfield 80, 3) := by decide +kernel
set_option maxRecDepth 100000 in
theorem s57_16 {x0 : Nat} {x1 : Int32} {x2 : Int32} {x3 : Int32} {s0 : Nat} : ip_WP 57 16 [some (.ref x0), some (.int x1), some (.int x2), some (.int x3)] [.ref s0] (G, F, I, J) b post px ↔ (ip_isO G s0 1 = true ∧ ip_WP 57 19 [some (.ref x0), some (.int x1), some (.int x2), some (.int x3)] [F s0 34] (G, F, I, J) b post px) := ip_s_getf f57_16 (by decide +kernel)
theorem f57_19 : ip_fetch 57 19 = some (.aload_n 0, 1) := by decide +kernel
theorem s57_19 {x0 : Nat} {x1 : Int32} {x2 : Int32} {x3 : Int32} {s0 : Nat} : ip_WP 57 19 [some (.ref x0), some (.int x1), some (.int x2), some (.int x3)] [.ref s0] (G, F, I, J) b post px ↔ ip_WP 57 20 [some (.ref x0), some (.int x1), some (.int x2), some (.int x3)] [.ref x0, .ref s0] (G, F, I, J) b post px := ip_nx_iff ((ip_st_of f57_19).trans rfl)
theorem f57_20 : ip_fetch 57 20 = some (.getfield 231, 3) := by decide +kernel
set_option maxRecDepth 100000 in
theorem s57_20 {x0 : Nat} {x1 : Int32} {x2 : Int32} {x3 : Int32} {s0 : Nat} {s1 : Nat} : ip_WP 57 20 [some (.ref x0), some (.int x1), some (.int x2), some (.int x3)] [.ref s1, .ref s0] (G, F, I, J) b post px ↔ (ip_isO G s1 1 = true ∧ ip_WP 57 23 [some (.ref x0), some (.int x1), some (.int x2), some (.int x3)] [F s1 30, .ref s0] (G, F, I, J) b post px) := ip_s_getf f57_20 (by decide +kernel)
theorem f57_23 : ip_fetch 57 23 = some (.iload_n 2, 1) := by decide +kernel
theorem s57_23 {x0 : Nat} {x1 : Int32} {x2 : Int32} {x3 : Int32} {s0 : Nat} {s1 : Int32} : ip_WP 57 23 [some (.ref x0), some (.int x1), some (.int x2), some (.int x3)] [.int s1, .ref s0] (G, F, I, J) b post px ↔ ip_WP 57 24 [some (.ref x0), some (.int x1), some (.int x2), some (.int x3)] [.int x2, .int s1, .ref s0] (G, F, I, J) b post px := ip_nx_iff ((ip_st_of f57_23).trans rfl)
theorem f57_24 : ip_fetch 57 24 = some (.iastore, 1) := by decide +kernel
theorem s57_24 {x0 : Nat} {x1 : Int32} {x2 : Int32} {x3 : Int32} {s0 : Nat} {s1 : Int32} {s2 : Int32} : ip_WP 57 24 [some (.ref x0), some (.int x1), some (.int x2), some (.int x3)] [.int s2, .int s1, .ref s0] (G, F, I, J) b post px ↔ (ip_inA G s0 0 s1 = true ∧ ip_WP 57 25 [some (.ref x0), some (.int x1), some (.int x2), some (.int x3)] [] (G, F, ip_up I s0 s1.toNatClampNeg s2, J) b post px) := ip_ck_iff ((ip_st_of f57_24).trans rfl) ip_nx_iff
theorem f57_25 : ip_fetch 57 25 = some (.aload_n 0, 1) := by decide +kernel
theorem s57_25 {x0 : Nat} {x1 : Int32} {x2 : Int32} {x3 : Int32} : ip_WP 57 25 [some (.ref x0), some (.int x1), some (.int x2), some (.int x3)] [] (G, F, I, J) b post px ↔ ip_WP 57 26 [some (.ref x0), some (.int x1), some (.int x2), some (.int x3)] [.ref x0] (G, F, I, J) b post px := ip_nx_iff ((ip_st_of f57_25).trans rfl)
theorem f57_26 : ip_fetch 57 26 = some (.dup, 1) := by decide +kernel
theorem s57_26 {x0 : Nat} {x1 : Int32} {x2 : Int32} {x3 : Int32} {s0 : Nat} : ip_WP 57 26 [some (.ref x0), some (.int x1), some (.int x2), some (.int x3)] [.ref s0] (G, F, I, J) b post px ↔ ip_WP 57 27 [some (.ref x0), some (.int x1), some (.int x2), some (.int x3)] [.ref s0, .ref s0] (G, F, I, J) b post px := ip_nx_iff ((ip_st_of f57_26).trans rfl)
theorem f57_27 : ip_fetch 57 27 = some (.getfield 231, 3) := by decide +kernel
set_option maxRecDepth 100000 in
theorem s57_27 {x0 : Nat} {x1 : Int32} {x2 : Int32} {x3 : Int32} {s0 : Nat} {s1 : Nat} : ip_WP 57 27 [some (.ref x0), some (.int x1), some (.int x2), some (.int x3)] [.ref s1, .ref s0] (G, F, I, J) b post px ↔ (ip_isO G s1 1 = true ∧ ip_WP 57 30 [some (.ref x0), some (.int x1), some (.int x2), some (.int x3)] [F s1 30, .ref s0] (G, F, I, J) b post px) := ip_s_getf f57_27 (by decide +kernel)
theorem f57_30 : ip_fetch 57 30 = some (.iconst 1, 1) := by decide +kernel
theorem s57_30 {x0 : Nat} {x1 : Int32} {x2 : Int32} {x3 : Int32} {s0 : Nat} {s1 : Int32} : ip_WP 57 30 [some (.ref x0), some (.int x1), some (.int x2), some (.int x3)] [.int s1, .ref s0] (G, F, I, J) b post px ↔ ip_WP 57 31 [some (.ref x0), some (.int x1), some (.int x2), some (.int x3)] [.int 1, .int s1, .ref s0] (G, F, I, J) b post px := ip_s_iconst f57_30 (by decide)
theorem f57_31 : ip_fetch 57 31 = some (.iadd, 1) := by decide +kernel
theorem s57_31 {x0 : Nat} {x1 : Int32} {x2 : Int32} {x3 : Int32} {s0 : Nat} {s1 : Int32} {s2 : Int32} : ip_WP 57 31 [some (.ref x0), some (.int x1), some (.int x2), some (.int x3)] [.int s2, .int s1, .ref s0] (G, F, I, J) b post px ↔ ip_WP 57 32 [some (.ref x0), some (.int x1), some (.int x2), some (.int x3)] [.int (s1 + s2), .ref s0] (G, F, I, J) b post px := ip_nx_iff ((ip_st_of f57_31).trans rfl)
theorem f57_32 : ip_fetch 57 32 = some (.putfield 231, 3) := by decide +kernel
set_option maxRecDepth 100000 in
theorem s57_32 {x0 : Nat} {x1 : Int32} {x2 : Int32} {x3 : Int32} {s0 : Nat} {s1 : Int32} : ip_WP 57 32 [some (.ref x0), some (.int x1), some (.int x2), some (.int x3)] [.int s1, .ref s0] (G, F, I, J) b post px ↔ (ip_isO G s0 1 = true ∧ ip_WP 57 35 [some (.ref x0), some (.int x1), some (.int x2), some (.int x3)] [] (G, ip_up F s0 30 (.int s1), I, J) b post px) := ip_s_put f57_32 (by decide +kernel) rfl
theorem f57_35 : ip_fetch 57 35 = some (.return_, 1) := by decide +kernel
theorem s57_35 {x0 : Nat} {x1 : Int32} {x2 : Int32} {x3 : Int32} : ip_WP 57 35 [some (.ref x0), some (.int x1), some (.int x2), some (.int x3)] [] (G, F, I, J) b post px ↔ post none (G, F, I, J) := ip_rt_iff ((ip_st_of f57_35).trans rfl)
theorem f58_0 : ip_fetch 58 0 = some (.iconst 0, 1) := by decide +kernel
theorem s58_0 {x0 : Nat} {x1 : Int32} {x2 : Option Value} {x3 : Option Value} : ip_WP 58 0 [some (.ref x0), some (.int x1), x2, x3] [] (G, F, I, J) b post px ↔ ip_WP 58 1 [some (.ref x0), some (.int x1), x2, x3] [.int 0] (G, F, I, J) b post px := ip_s_iconst f58_0 (by decide)
theorem f58_1 : ip_fetch 58 1 = some (.istore_n 2, 1) := by decide +kernel
theorem s58_1 {x0 : Nat} {x1 : Int32} {x2 : Option Value} {x3 : Option Value} {s0 : Int32} : ip_WP 58 1 [some (.ref x0), some (.int x1), x2, x3] [.int s0] (G, F, I, J) b post px ↔ ip_WP 58 2 [some (.ref x0), some (.int x1), some (.int s0), x3] [] (G, F, I, J) b post px := ip_nx_iff ((ip_st_of f58_1).trans rfl)
theorem f58_2 : ip_fetch 58 2 = some (.iconst 0, 1) := by decide +kernel
theorem s58_2 {x0 : Nat} {x1 : Int32} {x2 : Int32} {x3 : Option Value} : ip_WP 58 2 [some (.ref x0), some (.int x1), some (.int x2), x3] [] (G, F, I, J) b post px ↔ ip_WP 58 3 [some (.ref x0), some (.int x1), some (.int x2), x3] [.int 0] (G, F, I, J) b post px := ip_s_iconst f58_2 (by decide)
theorem f58_3 : ip_fetch 58 3 = some (.istore_n 3, 1) := by decide +kernel
theorem s58_3 {x0 : Nat} {x1 : Int32} {x2 : Int32} {x3 : Option Value} {s0 : Int32} : ip_WP 58 3 [some (.ref x0), some (.int x1), some (.int x2), x3] [.int s0] (G, F, I, J) b post px ↔ ip_WP 58 4 [some (.ref x0), some (.int x1), some (.int x2), some (.int s0)] [] (G, F, I, J) b post px := ip_nx_iff ((ip_st_of f58_3).trans rfl)
theorem f58_4 : ip_fetch 58 4 = some (.iload_n 3, 1) := by decide +kernel
theorem s58_4 {x0 : Nat} {x1 : Int32} {x2 : Int32} {x3 : Int32} : ip_WP 58 4 [some (.ref x0), some (.int x1), some (.int x2), some (.int x3)] [] (G, F, I, J) b post px ↔ ip_WP 58 5 [some (.ref x0), some (.int x1), some (.int x2), some (.int x3)] [.int x3] (G, F, I, J) b post px := ip_nx_iff ((ip_st_of f58_4).trans rfl)
theorem f58_5 : ip_fetch 58 5 = some (.aload_n 0, 1) := by decide +kernel
theorem s58_5 {x0 : Nat} {x1 : Int32} {x2 : Int32} {x3 : Int32} {s0 : Int32} : ip_WP 58 5 [some (.ref x0), some (.int x1), some (.int x2), some (.int x3)] [.int s0] (G, F, I, J) b post px ↔ ip_WP 58 6 [some (.ref x0), some (.int x1), some (.int x2), some (.int x3)] [.ref x0, .int s0] (G, F, I, J) b post px := ip_nx_iff ((ip_st_of f58_5).trans rfl)
theorem f58_6 : ip_fetch 58 6 = some (.getfield 34, 3) := by decide +kernel
set_option maxRecDepth 100000 in
theorem s58_6 {x0 : Nat} {x1 : Int32} {x2 : Int32} {x3 : Int32} {s0 : Int32} {s1 : Nat} : ip_WP 58 6 [some (.ref x0), some (.int x1), some (.int x2), some (.int x3)] [.ref s1, .int s0] (G, F, I, J) b post px ↔ (ip_isO G s1 1 = true ∧ ip_WP 58 9 [some (.ref x0), some (.int x1), some (.int x2), some (.int x3)] [F s1 16, .int s0] (G, F, I, J) b post px) := ip_s_getf f58_6 (by decide +kernel)
theorem f58_9 : ip_fetch 58 9 = some (.iconst 3, 1) := by decide +kernel
theorem s58_9 {x0 : Nat} {x1 : Int32} {x2 : Int32} {x3 : Int32} {s0 : Int32} {s1 : Nat} : ip_WP 58 9 [some (.ref x0), some (.int x1), some (.int x2), some (.int x3)] [.ref s1, .int s0] (G, F, I, J) b post px ↔ ip_WP 58 10 [some (.ref x0), some (.int x1), some (.int x2), some (.int x3)] [.int 3, .ref s1, .int s0] (G, F, I, J) b post px := ip_s_iconst f58_9 (by decide)
theorem f58_10 : ip_fetch 58 10 = some (.iaload, 1) := by decide +kernel
theorem s58_10 {x0 : Nat} {x1 : Int32} {x2 : Int32} {x3 : Int32} {s0 : Int32} {s1 : Nat} {s2 : Int32} : ip_WP 58 10 [some (.ref x0), some (.int x1), some (.int x2), some (.int x3)] [.int s2, .ref s1, .int s0] (G, F, I, J) b post px ↔ (ip_inA G s1 0 s2 = true ∧ ip_WP 58 11 [some (.ref x0), some (.int x1), some (.int x2), some (.int x3)] [.int (I s1 s2.toNatClampNeg), .int s0] (G, F, I, J) b post px) := ip_ck_iff ((ip_st_of f58_10).trans rfl) ip_nx_iff
theorem f58_11 : ip_fetch 58 11 = some (.if_icmp .ge 31, 3) := by decide +kernel
theorem s58_11 {x0 : Nat} {x1 : Int32} {x2 : Int32} {x3 : Int32} {s0 : Int32} {s1 : Int32} : ip_WP 58 11 [some (.ref x0), some (.int x1), some (.int x2), some (.int x3)] [.int s1, .int s0] (G, F, I, J) b post px ↔ if s1 ≤ s0 then ip_WP 58 42 [some (.ref x0), some (.int x1), some (.int x2), some (.int x3)] [] (G, F, I, J) b post px else ip_WP 58 14 [some (.ref x0), some (.int x1), some (.int x2), some (.int x3)] [] (G, F, I, J) b post px := ip_s_ic_ge f58_11 rfl
theorem f58_14 : ip_fetch 58 14 = some (.iload_n 2, 1) := by decide +kernel
theorem s58_14 {x0 : Nat} {x1 : Int32} {x2 : Int32} {x3 : Int32} : ip_WP 58 14 [some (.ref x0), some (.int x1), some (.int x2), some (.int x3)] [] (G, F, I, J) b post px ↔ ip_WP 58 15 [some (.ref x0), some (.int x1), some (.int x2), some (.int x3)] [.int x2] (G, F, I, J) b post px := ip_nx_iff ((ip_st_of f58_14).trans rfl)
theorem f58_15 : ip_fetch 58 15 = some (.aload_n 0, 1) := by decide +kernel
theorem s58_15 {x0 : Nat} {x1 : Int32} {x2 : Int32} {x3 : Int32} {s0 : Int32} : ip_WP 58 15 [some (.ref x0), some (.int x1), some (.int x2), some (.int x3)] [.int s0] (G, F, I, J) b post px ↔ ip_WP 58 16 [some (.ref x0), some (.int x1), some (.int x2), some (.int x3)] [.ref x0, .int s0] (G, F, I, J) b post px := ip_nx_iff ((ip_st_of f58_15).trans rfl)
theorem f58_16 : ip_fetch 58 16 = some (.getfield 68, 3) := by decide +kernel
set_option maxRecDepth 100000 in
theorem s58_16 {x0 : Nat} {x1 : Int32} {x2 : Int32} {x3 : Int32} {s0 : Int32} {s1 : Nat} : ip_WP 58 16 [some (.ref x0), some (.int x1), some (.int x2), some (.int x3)] [.ref s1, .int s0] (G, F, I, J) b post px ↔ (ip_isO G s1 1 = true ∧ ip_WP 58 19 [some (.ref x0), some (.int x1), some (.int x2), some (.int x3)] [F s1 28, .int s0] (G, F, I, J) b post px) := ip_s_getf f58_16 (by decide +kernel)
theorem f58_19 : ip_fetch 58 19 = some (.bipush 12, 2) := by decide +kernel
theorem s58_19 {x0 : Nat} {x1 : Int32} {x2 : Int32} {x3 : Int32} {s0 : Int32} {s1 : Nat} : ip_WP 58 19 [some (.ref x0), some (.int x1), some (.int x2), some (.int x3)] [.ref s1, .int s0] (G, F, I, J) b post px ↔ ip_WP 58 21 [some (.ref x0), some (.int x1), some (.int x2), some (.int x3)] [.int 12, .ref s1, .int s0] (G, F, I, J) b post px := ip_s_bipush f58_19 (by decide)
theorem f58_21 : ip_fetch 58 21 = some (.iload_n 3, 1) := by decide +kernel
theorem s58_21 {x0 : Nat} {x1 : Int32} {x2 : Int32} {x3 : Int32} {s0 : Int32} {s1 : Nat} {s2 : Int32} : ip_WP 58 21 [some (.ref x0), some (.int x1), some (.int x2), some (.int x3)] [.int s2, .ref s1, .int s0] (G, F, I, J) b post px ↔ ip_WP 58 22 [some (.ref x0), some (.int x1), some (.int x2), some (.int x3)] [.int x3, .int s2, .ref s1, .int s0] (G, F, I, J) b post px := ip_nx_iff ((ip_st_of f58_21).trans rfl)
theorem f58_22 : ip_fetch 58 22 = some (.imul, 1) := by decide +kernel
theorem s58_22 {x0 : Nat} {x1 : Int32} {x2 : Int32} {x3 : Int32} {s0 : Int32} {s1 : Nat} {s2 : Int32} {s3 : Int32} : ip_WP 58 22 [some (.ref x0), some (.int x1), some (.int x2), some (.int x3)] [.int s3, .int s2, .ref s1, .int s0] (G, F, I, J) b post px ↔ ip_WP 58 23 [some (.ref x0), some (.int x1), some (.int x2), some (.int x3)] [.int (s2 * s3), .ref s1, .int s0] (G, F, I, J) b post px := ip_nx_iff ((ip_st_of f58_22).trans rfl)
theorem f58_23 : ip_fetch 58 23 = some (.iload_n 1, 1) := by decide +kernel
theorem s58_23 {x0 : Nat} {x1 : Int32} {x2 : Int32} {x3 : Int32} {s0 : Int32} {s1 : Nat} {s2 : Int32} : ip_WP 58 23 [some (.ref x0), some (.int x1), some (.int x2), some (.int x3)] [.int s2, .ref s1, .int s0] (G, F, I, J) b post px ↔ ip_WP 58 24 [some (.ref x0), some (.int x1), some (.int x2), some (.int x3)] [.int x1, .int s2, .ref s1, .int s0] (G, F, I, J) b post px := ip_nx_iff ((ip_st_of f58_23).trans rfl)
theorem f58_24 : ip_fetch 58 24 = some (.iadd, 1) := by decide +kernel
theorem s58_24 {x0 : Nat} {x1 : Int32} {x2 : Int32} {x3 : Int32} {s0 : Int32} {s1 : Nat} {s2 : Int32} {s3 : Int32} : ip_WP 58 24 [some (.ref x0), some (.int x1), some (.int x2), some (.int x3)] [.int s3, .int s2, .ref s1, .int s0] (G, F, I, J) b post px ↔ ip_WP 58 25 [some (.ref x0), some (.int x1), some (.int x2), some (.int x3)] [.int (s2 + s3), .ref s1, .int s0] (G, F, I, J) b post px := ip_nx_iff ((ip_st_of f58_24).trans rfl)
theorem f58_25 : ip_fetch 58 25 = some (.baload, 1) := by decide +kernel
theorem s58_25 {x0 : Nat} {x1 : Int32} {x2 : Int32} {x3 : Int32} {s0 : Int32} {s1 : Nat} {s2 : Int32} : ip_WP 58 25 [some (.ref x0), some (.int x1), some (.int x2), some (.int x3)] [.int s2, .ref s1, .int s0] (G, F, I, J) b post px ↔ ((ip_inA G s1 1 s2 || ip_inA G s1 3 s2) = true ∧ ip_WP 58 26 [some (.ref x0), some (.int x1), some (.int x2), some (.int x3)] [.int (I s1 s2.toNatClampNeg), .int s0] (G, F, I, J) b post px) := ip_ck_iff ((ip_st_of f58_25).trans rfl) ip_nx_iff
theorem f58_26 : ip_fetch 58 26 = some (.ifCond .eq 7, 3) := by decide +kernel
theorem s58_26 {x0 : Nat} {x1 : Int32} {x2 : Int32} {x3 : Int32} {s0 : Int32} {s1 : Int32} : ip_WP 58 26 [some (.ref x0), some (.int x1), some (.int x2), some (.int x3)] [.int s1, .int s0] (G, F, I, J) b post px ↔ if s1 = 0 then ip_WP 58 33 [some (.ref x0), some (.int x1), some (.int x2), some (.int x3)] [.int s0] (G, F, I, J) b post px else ip_WP 58 29 [some (.ref x0), some (.int x1), some (.int x2), some (.int x3)] [.int s0] (G, F, I, J) b post px := ip_s_if_eq f58_26 rfl
theorem f58_29 : ip_fetch 58 29 = some (.iconst 1, 1) := by decide +kernel
theorem s58_29 {x0 : Nat} {x1 : Int32} {x2 : Int32} {x3 : Int32} {s0 : Int32} : ip_WP 58 29 [some (.ref x0), some (.int x1), some (.int x2), some (.int x3)] [.int s0] (G, F, I, J) b post px ↔ ip_WP 58 30 [some (.ref x0), some (.int x1), some (.int x2), some (.int x3)] [.int 1, .int s0] (G, F, I, J) b post px := ip_s_iconst f58_29 (by decide)
theorem f58_30 : ip_fetch 58 30 = some (.goto 4, 3) := by decide +kernel
theorem s58_30 {x0 : Nat} {x1 : Int32} {x2 : Int32} {x3 : Int32} {s0 : Int32} {s1 : Int32} : ip_WP 58 30 [some (.ref x0), some (.int x1), some (.int x2), some (.int x3)] [.int s1, .int s0] (G, F, I, J) b post px ↔ ip_WP 58 34 [some (.ref x0), some (.int x1), some (.int x2), some (.int x3)] [.int s1, .int s0] (G, F, I, J) b post px := ip_nx_iff ((ip_st_of f58_30).trans rfl)
theorem f58_33 : ip_fetch 58 33 = some (.iconst 0, 1) := by decide +kernel
theorem s58_33 {x0 : Nat} {x1 : Int32} {x2 : Int32} {x3 : Int32} {s0 : Int32} : ip_WP 58 33 [some (.ref x0), some (.int x1), some (.int x2), some (.int x3)] [.int s0] (G, F, I, J) b post px ↔ ip_WP 58 34 [some (.ref x0), some (.int x1), some (.int x2), some (.int x3)] [.int 0, .int s0] (G, F, I, J) b post px := ip_s_iconst f58_33 (by decide)
theorem f58_34 : ip_fetch 58 34 = some (.iadd, 1) := by decide +kernel
theorem s58_34 {x0 : Nat} {x1 : Int32} {x2 : Int32} {x3 : Int32} {s0 : Int32} {s1 : Int32} : ip_WP 58 34 [some (.ref x0), some (.int x1), some (.int x2), some (.int x3)] [.int s1, .int s0] (G, F, I, J) b post px ↔ ip_WP 58 35 [some (.ref x0), some (.int x1), some (.int x2), some (.int x3)] [.int (s0 + s1)] (G, F, I, J) b post px := ip_nx_iff ((ip_st_of f58_34).trans rfl)
theorem f58_35 : ip_fetch 58 35 = some (.istore_n 2, 1) := by decide +kernel
theorem s58_35 {x0 : Nat} {x1 : Int32} {x2 : Int32} {x3 : Int32} {s0 : Int32} : ip_WP 58 35 [some (.ref x0), some (.int x1), some (.int x2), some (.int x3)] [.int s0] (G, F, I, J) b post px ↔ ip_WP 58 36 [some (.ref x0), some (.int x1), some (.int s0), some (.int x3)] [] (G, F, I, J) b post px := ip_nx_iff ((ip_st_of f58_35).trans rfl)
theorem f58_36 : ip_fetch 58 36 = some (.iinc 3 1, 3) := by decide +kernel
theorem s58_36 {x0 : Nat} {x1 : Int32} {x2 : Int32} {x3 : Int32} : ip_WP 58 36 [some (.ref x0), some (.int x1), some (.int x2), some (.int x3)] [] (G, F, I, J) b post px ↔ ip_WP 58 39 [some (.ref x0), some (.int x1), some (.int x2), some (.int (x3 + 1))] [] (G, F, I, J) b post px := ip_s_iinc f58_36 rfl (by decide)
theorem f58_39 : ip_fetch 58 39 = some (.goto (-35), 3) := by decide +kernel
theorem s58_39 {x0 : Nat} {x1 : Int32} {x2 : Int32} {x3 : Int32} : ip_WP 58 39 [some (.ref x0), some (.int x1), some (.int x2), some (.int x3)] [] (G, F, I, J) b post px ↔ ip_WP 58 4 [some (.ref x0), some (.int x1), some (.int x2), some (.int x3)] [] (G, F, I, J) b post px := ip_nx_iff ((ip_st_of f58_39).trans rfl)
theorem f58_42 : ip_fetch 58 42 = some (.iload_n 2, 1) := by decide +kernel
theorem s58_42 {x0 : Nat} {x1 : Int32} {x2 : Int32} {x3 : Int32} : ip_WP 58 42 [some (.ref x0), some (.int x1), some (.int x2), some (.int x3)] [] (G, F, I, J) b post px ↔ ip_WP 58 43 [some (.ref x0), some (.int x1), some (.int x2), some (.int x3)] [.int x2] (G, F, I, J) b post px := ip_nx_iff ((ip_st_of f58_42).trans rfl)
theorem f58_43 : ip_fetch 58 43 = some (.ireturn, 1) := by decide +kernel
theorem s58_43 {x0 : Nat} {x1 : Int32} {x2 : Int32} {x3 : Int32} {s0 : Int32} : ip_WP 58 43 [some (.ref x0), some (.int x1), some (.int x2), some (.int x3)] [.int s0] (G, F, I, J) b post px ↔ post (some (.int s0)) (G, F, I, J) := ip_rt_iff ((ip_st_of f58_43).trans rfl)
theorem f59_0 : ip_fetch 59 0 = some (.aload_n 0, 1) := by decide +kernel
theorem s59_0 {x0 : Nat} {x1 : Option Value} {x2 : Option Value} {x3 : Option Value} : ip_WP 59 0 [some (.ref x0), x1, x2, x3] [] (G, F, I, J) b post px ↔ ip_WP 59 1 [some (.ref x0), x1, x2, x3] [.ref x0] (G, F, I, J) b post px := ip_nx_iff ((ip_st_of f59_0).trans rfl)
theorem f59_1 : ip_fetch 59 1 = some (.iconst 0, 1) := by decide +kernel
theorem s59_1 {x0 : Nat} {x1 : Option Value} {x2 : Option Value} {x3 : Option Value} {s0 : Nat} : ip_WP 59 1 [some (.ref x0), x1, x2, x3] [.ref s0] (G, F, I, J) b post px ↔ ip_WP 59 2 [some (.ref x0), x1, x2, x3] [.int 0, .ref s0] (G, F, I, J) b post px := ip_s_iconst f59_1 (by decide)
theorem f59_2 : ip_fetch 59 2 = some (.putfield 228, 3) := by decide +kernel
set_option maxRecDepth 100000 in
theorem s59_2 {x0 : Nat} {x1 : Option Value} {x2 : Option Value} {x3 : Option Value} {s0 : Nat} {s1 : Int32} : ip_WP 59 2 [some (.ref x0), x1, x2, x3] [.int s1, .ref s0] (G, F, I, J) b post px ↔ (ip_isO G s0 1 = true ∧ ip_WP 59 5 [some (.ref x0), x1, x2, x3] [] (G, ip_up F s0 29 (.int s1), I, J) b post px) := ip_s_put f59_2 (by decide +kernel) rfl
theorem f59_5 : ip_fetch 59 5 = some (.aload_n 0, 1) := by decide +kernel
theorem s59_5 {x0 : Nat} {x1 : Option Value} {x2 : Option Value} {x3 : Option Value} : ip_WP 59 5 [some (.ref x0), x1, x2, x3] [] (G, F, I, J) b post px ↔ ip_WP 59 6 [some (.ref x0), x1, x2, x3] [.ref x0] (G, F, I, J) b post px := ip_nx_iff ((ip_st_of f59_5).trans rfl)
theorem f59_6 : ip_fetch 59 6 = some (.getfield 53, 3) := by decide +kernel
set_option maxRecDepth 100000 in
theorem s59_6 {x0 : Nat} {x1 : Option Value} {x2 : Option Value} {x3 : Option Value} {s0 : Nat} : ip_WP 59 6 [some (.ref x0), x1, x2, x3] [.ref s0] (G, F, I, J) b post px ↔ (ip_isO G s0 1 = true ∧ ip_WP 59 9 [some (.ref x0), x1, x2, x3] [F s0 22] (G, F, I, J) b post px) := ip_s_getf f59_6 (by decide +kernel)
theorem f59_9 : ip_fetch 59 9 = some (.iconst 3, 1) := by decide +kernel
theorem s59_9 {x0 : Nat} {x1 : Option Value} {x2 : Option Value} {x3 : Option Value} {s0 : Nat} : ip_WP 59 9 [some (.ref x0), x1, x2, x3] [.ref s0] (G, F, I, J) b post px ↔ ip_WP 59 10 [some (.ref x0), x1, x2, x3] [.int 3, .ref s0] (G, F, I, J) b post px := ip_s_iconst f59_9 (by decide)
theorem f59_10 : ip_fetch 59 10 = some (.iaload, 1) := by decide +kernel
theorem s59_10 {x0 : Nat} {x1 : Option Value} {x2 : Option Value} {x3 : Option Value} {s0 : Nat} {s1 : Int32} : ip_WP 59 10 [some (.ref x0), x1, x2, x3] [.int s1, .ref s0] (G, F, I, J) b post px ↔ (ip_inA G s0 0 s1 = true ∧ ip_WP 59 11 [some (.ref x0), x1, x2, x3] [.int (I s0 s1.toNatClampNeg)] (G, F, I, J) b post px) := ip_ck_iff ((ip_st_of f59_10).trans rfl) ip_nx_iff
theorem f59_11 : ip_fetch 59 11 = some (.istore_n 1, 1) := by decide +kernel
theorem s59_11 {x0 : Nat} {x1 : Option Value} {x2 : Option Value} {x3 : Option Value} {s0 : Int32} : ip_WP 59 11 [some (.ref x0), x1, x2, x3] [.int s0] (G, F, I, J) b post px ↔ ip_WP 59 12 [some (.ref x0), some (.int s0), x2, x3] [] (G, F, I, J) b post px := ip_nx_iff ((ip_st_of f59_11).trans rfl)
theorem f59_12 : ip_fetch 59 12 = some (.iconst 0, 1) := by decide +kernel
theorem s59_12 {x0 : Nat} {x1 : Int32} {x2 : Option Value} {x3 : Option Value} : ip_WP 59 12 [some (.ref x0), some (.int x1), x2, x3] [] (G, F, I, J) b post px ↔ ip_WP 59 13 [some (.ref x0), some (.int x1), x2, x3] [.int 0] (G, F, I, J) b post px := ip_s_iconst f59_12 (by decide)
theorem f59_13 : ip_fetch 59 13 = some (.istore_n 2, 1) := by decide +kernel
theorem s59_13 {x0 : Nat} {x1 : Int32} {x2 : Option Value} {x3 : Option Value} {s0 : Int32} : ip_WP 59 13 [some (.ref x0), some (.int x1), x2, x3] [.int s0] (G, F, I, J) b post px ↔ ip_WP 59 14 [some (.ref x0), some (.int x1), some (.int s0), x3] [] (G, F, I, J) b post px := ip_nx_iff ((ip_st_of f59_13).trans rfl)
theorem f59_14 : ip_fetch 59 14 = some (.iload_n 2, 1) := by decide +kernel
theorem s59_14 {x0 : Nat} {x1 : Int32} {x2 : Int32} {x3 : Option Value} : ip_WP 59 14 [some (.ref x0), some (.int x1), some (.int x2), x3] [] (G, F, I, J) b post px ↔ ip_WP 59 15 [some (.ref x0), some (.int x1), some (.int x2), x3] [.int x2] (G, F, I, J) b post px := ip_nx_iff ((ip_st_of f59_14).trans rfl)
theorem f59_15 : ip_fetch 59 15 = some (.bipush 7, 2) := by decide +kernel
theorem s59_15 {x0 : Nat} {x1 : Int32} {x2 : Int32} {x3 : Option Value} {s0 : Int32} : ip_WP 59 15 [some (.ref x0), some (.int x1), some (.int x2), x3] [.int s0] (G, F, I, J) b post px ↔ ip_WP 59 17 [some (.ref x0), some (.int x1), some (.int x2), x3] [.int 7, .int s0] (G, F, I, J) b post px := ip_s_bipush f59_15 (by decide)
theorem f59_17 : ip_fetch 59 17 = some (.if_icmp .ge 44, 3) := by decide +kernel
theorem s59_17 {x0 : Nat} {x1 : Int32} {x2 : Int32} {x3 : Option Value} {s0 : Int32} {s1 : Int32} : ip_WP 59 17 [some (.ref x0), some (.int x1), some (.int x2), x3] [.int s1, .int s0] (G, F, I, J) b post px ↔ if s1 ≤ s0 then ip_WP 59 61 [some (.ref x0), some (.int x1), some (.int x2), x3] [] (G, F, I, J) b post px else ip_WP 59 20 [some (.ref x0), some (.int x1), some (.int x2), x3] [] (G, F, I, J) b post px := ip_s_ic_ge f59_17 rfl
theorem f59_20 : ip_fetch 59 20 = some (.iload_n 2, 1) := by decide +kernel
theorem s59_20 {x0 : Nat} {x1 : Int32} {x2 : Int32} {x3 : Option Value} : ip_WP 59 20 [some (.ref x0), some (.int x1), some (.int x2), x3] [] (G, F, I, J) b post px ↔ ip_WP 59 21 [some (.ref x0), some (.int x1), some (.int x2), x3] [.int x2] (G, F, I, J) b post px := ip_nx_iff ((ip_st_of f59_20).trans rfl)
theorem f59_21 : ip_fetch 59 21 = some (.ifCond .eq 19, 3) := by decide +kernel
theorem s59_21 {x0 : Nat} {x1 : Int32} {x2 : Int32} {x3 : Option Value} {s0 : Int32} : ip_WP 59 21 [some (.ref x0), some (.int x1), some (.int x2), x3] [.int s0] (G, F, I, J) b post px ↔ if s0 = 0 then ip_WP 59 40 [some (.ref x0), some (.int x1), some (.int x2), x3] [] (G, F, I, J) b post px else ip_WP 59 24 [some (.ref x0), some (.int x1), some (.int x2), x3] [] (G, F, I, J) b post px := ip_s_if_eq f59_21 rfl
theorem f59_24 : ip_fetch 59 24 = some (.iload_n 2, 1) := by decide +kernel
theorem s59_24 {x0 : Nat} {x1 : Int32} {x2 : Int32} {x3 : Option Value} : ip_WP 59 24 [some (.ref x0), some (.int x1), some (.int x2), x3] [] (G, F, I, J) b post px ↔ ip_WP 59 25 [some (.ref x0), some (.int x1), some (.int x2), x3] [.int x2] (G, F, I, J) b post px := ip_nx_iff ((ip_st_of f59_24).trans rfl)
theorem f59_25 : ip_fetch 59 25 = some (.iconst 2, 1) := by decide +kernel
theorem s59_25 {x0 : Nat} {x1 : Int32} {x2 : Int32} {x3 : Option Value} {s0 : Int32} : ip_WP 59 25 [some (.ref x0), some (.int x1), some (.int x2), x3] [.int s0] (G, F, I, J) b post px ↔ ip_WP 59 26 [some (.ref x0), some (.int x1), some (.int x2), x3] [.int 2, .int s0] (G, F, I, J) b post px := ip_s_iconst f59_25 (by decide)
theorem f59_26 : ip_fetch 59 26 = some (.if_icmp .eq 14, 3) := by decide +kernel
theorem s59_26 {x0 : Nat} {x1 : Int32} {x2 : Int32} {x3 : Option Value} {s0 : Int32} {s1 : Int32} : ip_WP 59 26 [some (.ref x0), some (.int x1), some (.int x2), x3] [.int s1, .int s0] (G, F, I, J) b post px ↔ if s0 = s1 then ip_WP 59 40 [some (.ref x0), some (.int x1), some (.int x2), x3] [] (G, F, I, J) b post px else ip_WP 59 29 [some (.ref x0), some (.int x1), some (.int x2), x3] [] (G, F, I, J) b post px := ip_s_ic_eq f59_26 rfl
theorem f59_29 : ip_fetch 59 29 = some (.iload_n 2, 1) := by decide +kernel
theorem s59_29 {x0 : Nat} {x1 : Int32} {x2 : Int32} {x3 : Option Value} : ip_WP 59 29 [some (.ref x0), some (.int x1), some (.int x2), x3] [] (G, F, I, J) b post px ↔ ip_WP 59 30 [some (.ref x0), some (.int x1), some (.int x2), x3] [.int x2] (G, F, I, J) b post px := ip_nx_iff ((ip_st_of f59_29).trans rfl)
theorem f59_30 : ip_fetch 59 30 = some (.iconst 3, 1) := by decide +kernel
theorem s59_30 {x0 : Nat} {x1 : Int32} {x2 : Int32} {x3 : Option Value} {s0 : Int32} : ip_WP 59 30 [some (.ref x0), some (.int x1), some (.int x2), x3] [.int s0] (G, F, I, J) b post px ↔ ip_WP 59 31 [some (.ref x0), some (.int x1), some (.int x2), x3] [.int 3, .int s0] (G, F, I, J) b post px := ip_s_iconst f59_30 (by decide)
theorem f59_31 : ip_fetch 59 31 = some (.if_icmp .eq 9, 3) := by decide +kernel
theorem s59_31 {x0 : Nat} {x1 : Int32} {x2 : Int32} {x3 : Option Value} {s0 : Int32} {s1 : Int32} : ip_WP 59 31 [some (.ref x0), some (.int x1), some (.int x2), x3] [.int s1, .int s0] (G, F, I, J) b post px ↔ if s0 = s1 then ip_WP 59 40 [some (.ref x0), some (.int x1), some (.int x2), x3] [] (G, F, I, J) b post px else ip_WP 59 34 [some (.ref x0), some (.int x1), some (.int x2), x3] [] (G, F, I, J) b post px := ip_s_ic_eq f59_31 rfl
theorem f59_34 : ip_fetch 59 34 = some (.iload_n 2, 1) := by decide +kernel
theorem s59_34 {x0 : Nat} {x1 : Int32} {x2 : Int32} {x3 : Option Value} : ip_WP 59 34 [some (.ref x0), some (.int x1), some (.int x2), x3] [] (G, F, I, J) b post px ↔ ip_WP 59 35 [some (.ref x0), some (.int x1), some (.int x2), x3] [.int x2] (G, F, I, J) b post px := ip_nx_iff ((ip_st_of f59_34).trans rfl)
theorem f59_35 : ip_fetch 59 35 = some (.bipush 6, 2) := by decide +kernel
theorem s59_35 {x0 : Nat} {x1 : Int32} {x2 : Int32} {x3 : Option Value} {s0 : Int32} : ip_WP 59 35 [some (.ref x0), some (.int x1), some (.int x2), x3] [.int s0] (G, F, I, J) b post px ↔ ip_WP 59 37 [some (.ref x0), some (.int x1), some (.int x2), x3] [.int 6, .int s0] (G, F, I, J) b post px := ip_s_bipush f59_35 (by decide)
theorem f59_37 : ip_fetch 59 37 = some (.if_icmp .ne 18, 3) := by decide +kernel
theorem s59_37 {x0 : Nat} {x1 : Int32} {x2 : Int32} {x3 : Option Value} {s0 : Int32} {s1 : Int32} : ip_WP 59 37 [some (.ref x0), some (.int x1), some (.int x2), x3] [.int s1, .int s0] (G, F, I, J) b post px ↔ if ¬ s0 = s1 then ip_WP 59 55 [some (.ref x0), some (.int x1), some (.int x2), x3] [] (G, F, I, J) b post px else ip_WP 59 40 [some (.ref x0), some (.int x1), some (.int x2), x3] [] (G, F, I, J) b post px := ip_s_ic_ne f59_37 rfl
theorem f59_40 : ip_fetch 59 40 = some (.aload_n 0, 1) := by decide +kernel
theorem s59_40 {x0 : Nat} {x1 : Int32} {x2 : Int32} {x3 : Option Value} : ip_WP 59 40 [some (.ref x0), some (.int x1), some (.int x2), x3] [] (G, F, I, J) b post px ↔ ip_WP 59 41 [some (.ref x0), some (.int x1), some (.int x2), x3] [.ref x0] (G, F, I, J) b post px := ip_nx_iff ((ip_st_of f59_40).trans rfl)
theorem f59_41 : ip_fetch 59 41 = some (.getfield 53, 3) := by decide +kernel
set_option maxRecDepth 100000 in
theorem s59_41 {x0 : Nat} {x1 : Int32} {x2 : Int32} {x3 : Option Value} {s0 : Nat} : ip_WP 59 41 [some (.ref x0), some (.int x1), some (.int x2), x3] [.ref s0] (G, F, I, J) b post px ↔ (ip_isO G s0 1 = true ∧ ip_WP 59 44 [some (.ref x0), some (.int x1), some (.int x2), x3] [F s0 22] (G, F, I, J) b post px) := ip_s_getf f59_41 (by decide +kernel)
theorem f59_44 : ip_fetch 59 44 = some (.iload_n 2, 1) := by decide +kernel
theorem s59_44 {x0 : Nat} {x1 : Int32} {x2 : Int32} {x3 : Option Value} {s0 : Nat} : ip_WP 59 44 [some (.ref x0), some (.int x1), some (.int x2), x3] [.ref s0] (G, F, I, J) b post px ↔ ip_WP 59 45 [some (.ref x0), some (.int x1), some (.int x2), x3] [.int x2, .ref s0] (G, F, I, J) b post px := ip_nx_iff ((ip_st_of f59_44).trans rfl)
theorem f59_45 : ip_fetch 59 45 = some (.iaload, 1) := by decide +kernel
theorem s59_45 {x0 : Nat} {x1 : Int32} {x2 : Int32} {x3 : Option Value} {s0 : Nat} {s1 : Int32} : ip_WP 59 45 [some (.ref x0), some (.int x1), some (.int x2), x3] [.int s1, .ref s0] (G, F, I, J) b post px ↔ (ip_inA G s0 0 s1 = true ∧ ip_WP 59 46 [some (.ref x0), some (.int x1), some (.int x2), x3] [.int (I s0 s1.toNatClampNeg)] (G, F, I, J) b post px) := ip_ck_iff ((ip_st_of f59_45).trans rfl) ip_nx_iff
theorem f59_46 : ip_fetch 59 46 = some (.ifCond .ge 9, 3) := by decide +kernel
theorem s59_46 {x0 : Nat} {x1 : Int32} {x2 : Int32} {x3 : Option Value} {s0 : Int32} : ip_WP 59 46 [some (.ref x0), some (.int x1), some (.int x2), x3] [.int s0] (G, F, I, J) b post px ↔ if 0 ≤ s0 then ip_WP 59 55 [some (.ref x0), some (.int x1), some (.int x2), x3] [] (G, F, I, J) b post px else ip_WP 59 49 [some (.ref x0), some (.int x1), some (.int x2), x3] [] (G, F, I, J) b post px := ip_s_if_ge f59_46 rfl
theorem f59_49 : ip_fetch 59 49 = some (.aload_n 0, 1) := by decide +kernel
theorem s59_49 {x0 : Nat} {x1 : Int32} {x2 : Int32} {x3 : Option Value} : ip_WP 59 49 [some (.ref x0), some (.int x1), some (.int x2), x3] [] (G, F, I, J) b post px ↔ ip_WP 59 50 [some (.ref x0), some (.int x1), some (.int x2), x3] [.ref x0] (G, F, I, J) b post px := ip_nx_iff ((ip_st_of f59_49).trans rfl)
theorem f59_50 : ip_fetch 59 50 = some (.iconst 1, 1) := by decide +kernel
theorem s59_50 {x0 : Nat} {x1 : Int32} {x2 : Int32} {x3 : Option Value} {s0 : Nat} : ip_WP 59 50 [some (.ref x0), some (.int x1), some (.int x2), x3] [.ref s0] (G, F, I, J) b post px ↔ ip_WP 59 51 [some (.ref x0), some (.int x1), some (.int x2), x3] [.int 1, .ref s0] (G, F, I, J) b post px := ip_s_iconst f59_50 (by decide)
theorem f59_51 : ip_fetch 59 51 = some (.iload_n 2, 1) := by decide +kernel
theorem s59_51 {x0 : Nat} {x1 : Int32} {x2 : Int32} {x3 : Option Value} {s0 : Nat} {s1 : Int32} : ip_WP 59 51 [some (.ref x0), some (.int x1), some (.int x2), x3] [.int s1, .ref s0] (G, F, I, J) b post px ↔ ip_WP 59 52 [some (.ref x0), some (.int x1), some (.int x2), x3] [.int x2, .int s1, .ref s0] (G, F, I, J) b post px := ip_nx_iff ((ip_st_of f59_51).trans rfl)
theorem f59_52 : ip_fetch 59 52 = some (.invokevirtual 234, 3) := by decide +kernel
set_option maxRecDepth 100000 in
theorem s59_52 {x0 : Nat} {x1 : Int32} {x2 : Int32} {x3 : Option Value} {s0 : Nat} {s1 : Int32} {s2 : Int32} : ip_WP 59 52 [some (.ref x0), some (.int x1), some (.int x2), x3] [.int s2, .int s1, .ref s0] (G, F, I, J) b post px ↔ (ip_isO G s0 1 = true ∧ ip_WP 56 0 [some (.ref s0), some (.int s1), some (.int s2)] [] (G, F, I, J) (0, 0) (fun r h' => ip_WP 59 55 [some (.ref x0), some (.int x1), some (.int x2), x3] (r.toList ++ []) h' b post px) (fun _ _ => False)) := ip_ck_iff (x := ip_cl 56 [some (.ref s0), some (.int s1), some (.int s2)] [] (0, 0) b) ((ip_st_of f59_52).trans rfl) (ip_cl_iff)
theorem f59_55 : ip_fetch 59 55 = some (.iinc 2 1, 3) := by decide +kernel
theorem s59_55 {x0 : Nat} {x1 : Int32} {x2 : Int32} {x3 : Option Value} : ip_WP 59 55 [some (.ref x0), some (.int x1), some (.int x2), x3] [] (G, F, I, J) b post px ↔ ip_WP 59 58 [some (.ref x0), some (.int x1), some (.int (x2 + 1)), x3] [] (G, F, I, J) b post px := ip_s_iinc f59_55 rfl (by decide)
theorem f59_58 : ip_fetch 59 58 = some (.goto (-44), 3) := by decide +kernel
theorem s59_58 {x0 : Nat} {x1 : Int32} {x2 : Int32} {x3 : Option Value} : ip_WP 59 58 [some (.ref x0), some (.int x1), some (.int x2), x3] [] (G, F, I, J) b post px ↔ ip_WP 59 14 [some (.ref x0), some (.int x1), some (.int x2), x3] [] (G, F, I, J) b post px := ip_nx_iff ((ip_st_of f59_58).trans rfl)
theorem f59_61 : ip_fetch 59 61 = some (.iconst 0, 1) := by decide +kernel
theorem s59_61 {x0 : Nat} {x1 : Int32} {x2 : Int32} {x3 : Option Value} : ip_WP 59 61 [some (.ref x0), some (.int x1), some (.int x2), x3] [] (G, F, I, J) b post px ↔ ip_WP 59 62 [some (.ref x0), some (.int x1), some (.int x2), x3] [.int 0] (G, F, I, J) b post px := ip_s_iconst f59_61 (by decide)
theorem f59_62 : ip_fetch 59 62 = some (.istore_n 2, 1) := by decide +kernel
theorem s59_62 {x0 : Nat} {x1 : Int32} {x2 : Int32} {x3 : Option Value} {s0 : Int32} : ip_WP 59 62 [some (.ref x0), some (.int x1), some (.int x2), x3] [.int s0] (G, F, I, J) b post px ↔ ip_WP 59 63 [some (.ref x0), some (.int x1), some (.int s0), x3] [] (G, F, I, J) b post px := ip_nx_iff ((ip_st_of f59_62).trans rfl)
theorem f59_63 : ip_fetch 59 63 = some (.iload_n 2, 1) := by decide +kernel
theorem s59_63 {x0 : Nat} {x1 : Int32} {x2 : Int32} {x3 : Option Value} : ip_WP 59 63 [some (.ref x0), some (.int x1), some (.int x2), x3] [] (G, F, I, J) b post px ↔ ip_WP 59 64 [some (.ref x0), some (.int x1), some (.int x2), x3] [.int x2] (G, F, I, J) b post px := ip_nx_iff ((ip_st_of f59_63).trans rfl)
theorem f59_64 : ip_fetch 59 64 = some (.aload_n 0, 1) := by decide +kernel
theorem s59_64 {x0 : Nat} {x1 : Int32} {x2 : Int32} {x3 : Option Value} {s0 : Int32} : ip_WP 59 64 [some (.ref x0), some (.int x1), some (.int x2), x3] [.int s0] (G, F, I, J) b post px ↔ ip_WP 59 65 [some (.ref x0), some (.int x1), some (.int x2), x3] [.ref x0, .int s0] (G, F, I, J) b post px := ip_nx_iff ((ip_st_of f59_64).trans rfl)
theorem f59_65 : ip_fetch 59 65 = some (.getfield 34, 3) := by decide +kernel
set_option maxRecDepth 100000 in
theorem s59_65 {x0 : Nat} {x1 : Int32} {x2 : Int32} {x3 : Option Value} {s0 : Int32} {s1 : Nat} : ip_WP 59 65 [some (.ref x0), some (.int x1), some (.int x2), x3] [.ref s1, .int s0] (G, F, I, J) b post px ↔ (ip_isO G s1 1 = true ∧ ip_WP 59 68 [some (.ref x0), some (.int x1), some (.int x2), x3] [F s1 16, .int s0] (G, F, I, J) b post px) := ip_s_getf f59_65 (by decide +kernel)
theorem f59_68 : ip_fetch 59 68 = some (.iconst 0, 1) := by decide +kernel
theorem s59_68 {x0 : Nat} {x1 : Int32} {x2 : Int32} {x3 : Option Value} {s0 : Int32} {s1 : Nat} : ip_WP 59 68 [some (.ref x0), some (.int x1), some (.int x2), x3] [.ref s1, .int s0] (G, F, I, J) b post px ↔ ip_WP 59 69 [some (.ref x0), some (.int x1), some (.int x2), x3] [.int 0, .ref s1, .int s0] (G, F, I, J) b post px := ip_s_iconst f59_68 (by decide)
theorem f59_69 : ip_fetch 59 69 = some (.iaload, 1) := by decide +kernel
theorem s59_69 {x0 : Nat} {x1 : Int32} {x2 : Int32} {x3 : Option Value} {s0 : Int32} {s1 : Nat} {s2 : Int32} : ip_WP 59 69 [some (.ref x0), some (.int x1), some (.int x2), x3] [.int s2, .ref s1, .int s0] (G, F, I, J) b post px ↔ (ip_inA G s1 0 s2 = true ∧ ip_WP 59 70 [some (.ref x0), some (.int x1), some (.int x2), x3] [.int (I s1 s2.toNatClampNeg), .int s0] (G, F, I, J) b post px) := ip_ck_iff ((ip_st_of f59_69).trans rfl) ip_nx_iff
theorem f59_70 : ip_fetch 59 70 = some (.if_icmp .ge 24, 3) := by decide +kernel
theorem s59_70 {x0 : Nat} {x1 : Int32} {x2 : Int32} {x3 : Option Value} {s0 : Int32} {s1 : Int32} : ip_WP 59 70 [some (.ref x0), some (.int x1), some (.int x2), x3] [.int s1, .int s0] (G, F, I, J) b post px ↔ if s1 ≤ s0 then ip_WP 59 94 [some (.ref x0), some (.int x1), some (.int x2), x3] [] (G, F, I, J) b post px else ip_WP 59 73 [some (.ref x0), some (.int x1), some (.int x2), x3] [] (G, F, I, J) b post px := ip_s_ic_ge f59_70 rfl
theorem f59_73 : ip_fetch 59 73 = some (.aload_n 0, 1) := by decide +kernel
theorem s59_73 {x0 : Nat} {x1 : Int32} {x2 : Int32} {x3 : Option Value} : ip_WP 59 73 [some (.ref x0), some (.int x1), some (.int x2), x3] [] (G, F, I, J) b post px ↔ ip_WP 59 74 [some (.ref x0), some (.int x1), some (.int x2), x3] [.ref x0] (G, F, I, J) b post px := ip_nx_iff ((ip_st_of f59_73).trans rfl)
theorem f59_74 : ip_fetch 59 74 = some (.getfield 47, 3) := by decide +kernel
set_option maxRecDepth 100000 in
theorem s59_74 {x0 : Nat} {x1 : Int32} {x2 : Int32} {x3 : Option Value} {s0 : Nat} : ip_WP 59 74 [some (.ref x0), some (.int x1), some (.int x2), x3] [.ref s0] (G, F, I, J) b post px ↔ (ip_isO G s0 1 = true ∧ ip_WP 59 77 [some (.ref x0), some (.int x1), some (.int x2), x3] [F s0 20] (G, F, I, J) b post px) := ip_s_getf f59_74 (by decide +kernel)
theorem f59_77 : ip_fetch 59 77 = some (.iload_n 2, 1) := by decide +kernel
theorem s59_77 {x0 : Nat} {x1 : Int32} {x2 : Int32} {x3 : Option Value} {s0 : Nat} : ip_WP 59 77 [some (.ref x0), some (.int x1), some (.int x2), x3] [.ref s0] (G, F, I, J) b post px ↔ ip_WP 59 78 [some (.ref x0), some (.int x1), some (.int x2), x3] [.int x2, .ref s0] (G, F, I, J) b post px := ip_nx_iff ((ip_st_of f59_77).trans rfl)
theorem f59_78 : ip_fetch 59 78 = some (.iaload, 1) := by decide +kernel
theorem s59_78 {x0 : Nat} {x1 : Int32} {x2 : Int32} {x3 : Option Value} {s0 : Nat} {s1 : Int32} : ip_WP 59 78 [some (.ref x0), some (.int x1), some (.int x2), x3] [.int s1, .ref s0] (G, F, I, J) b post px ↔ (ip_inA G s0 0 s1 = true ∧ ip_WP 59 79 [some (.ref x0), some (.int x1), some (.int x2), x3] [.int (I s0 s1.toNatClampNeg)] (G, F, I, J) b post px) := ip_ck_iff ((ip_st_of f59_78).trans rfl) ip_nx_iff
theorem f59_79 : ip_fetch 59 79 = some (.ifCond .ge 9, 3) := by decide +kernel
theorem s59_79 {x0 : Nat} {x1 : Int32} {x2 : Int32} {x3 : Option Value} {s0 : Int32} : ip_WP 59 79 [some (.ref x0), some (.int x1), some (.int x2), x3] [.int s0] (G, F, I, J) b post px ↔ if 0 ≤ s0 then ip_WP 59 88 [some (.ref x0), some (.int x1), some (.int x2), x3] [] (G, F, I, J) b post px else ip_WP 59 82 [some (.ref x0), some (.int x1), some (.int x2), x3] [] (G, F, I, J) b post px := ip_s_if_ge f59_79 rfl
theorem f59_82 : ip_fetch 59 82 = some (.aload_n 0, 1) := by decide +kernel
theorem s59_82 {x0 : Nat} {x1 : Int32} {x2 : Int32} {x3 : Option Value} : ip_WP 59 82 [some (.ref x0), some (.int x1), some (.int x2), x3] [] (G, F, I, J) b post px ↔ ip_WP 59 83 [some (.ref x0), some (.int x1), some (.int x2), x3] [.ref x0] (G, F, I, J) b post px := ip_nx_iff ((ip_st_of f59_82).trans rfl)
theorem f59_83 : ip_fetch 59 83 = some (.iconst 2, 1) := by decide +kernel
theorem s59_83 {x0 : Nat} {x1 : Int32} {x2 : Int32} {x3 : Option Value} {s0 : Nat} : ip_WP 59 83 [some (.ref x0), some (.int x1), some (.int x2), x3] [.ref s0] (G, F, I, J) b post px ↔ ip_WP 59 84 [some (.ref x0), some (.int x1), some (.int x2), x3] [.int 2, .ref s0] (G, F, I, J) b post px := ip_s_iconst f59_83 (by decide)
theorem f59_84 : ip_fetch 59 84 = some (.iload_n 2, 1) := by decide +kernel
theorem s59_84 {x0 : Nat} {x1 : Int32} {x2 : Int32} {x3 : Option Value} {s0 : Nat} {s1 : Int32} : ip_WP 59 84 [some (.ref x0), some (.int x1), some (.int x2), x3] [.int s1, .ref s0] (G, F, I, J) b post px ↔ ip_WP 59 85 [some (.ref x0), some (.int x1), some (.int x2), x3] [.int x2, .int s1, .ref s0] (G, F, I, J) b post px := ip_nx_iff ((ip_st_of f59_84).trans rfl)
theorem f59_85 : ip_fetch 59 85 = some (.invokevirtual 234, 3) := by decide +kernel
set_option maxRecDepth 100000 in
theorem s59_85 {x0 : Nat} {x1 : Int32} {x2 : Int32} {x3 : Option Value} {s0 : Nat} {s1 : Int32} {s2 : Int32} : ip_WP 59 85 [some (.ref x0), some (.int x1), some (.int x2), x3] [.int s2, .int s1, .ref s0] (G, F, I, J) b post px ↔ (ip_isO G s0 1 = true ∧ ip_WP 56 0 [some (.ref s0), some (.int s1), some (.int s2)] [] (G, F, I, J) (0, 0) (fun r h' => ip_WP 59 88 [some (.ref x0), some (.int x1), some (.int x2), x3] (r.toList ++ []) h' b post px) (fun _ _ => False)) := ip_ck_iff (x := ip_cl 56 [some (.ref s0), some (.int s1), some (.int s2)] [] (0, 0) b) ((ip_st_of f59_85).trans rfl) (ip_cl_iff)
theorem f59_88 : ip_fetch 59 88 = some (.iinc 2 1, 3) := by decide +kernel
theorem s59_88 {x0 : Nat} {x1 : Int32} {x2 : Int32} {x3 : Option Value} : ip_WP 59 88 [some (.ref x0), some (.int x1), some (.int x2), x3] [] (G, F, I, J) b post px ↔ ip_WP 59 91 [some (.ref x0), some (.int x1), some (.int (x2 + 1)), x3] [] (G, F, I, J) b post px := ip_s_iinc f59_88 rfl (by decide)
theorem f59_91 : ip_fetch 59 91 = some (.goto (-28), 3) := by decide +kernel
theorem s59_91 {x0 : Nat} {x1 : Int32} {x2 : Int32} {x3 : Option Value} : ip_WP 59 91 [some (.ref x0), some (.int x1), some (.int x2), x3] [] (G, F, I, J) b post px ↔ ip_WP 59 63 [some (.ref x0), some (.int x1), some (.int x2), x3] [] (G, F, I, J) b post px := ip_nx_iff ((ip_st_of f59_91).trans rfl)
theorem f59_94 : ip_fetch 59 94 = some (.iconst 0, 1) := by decide +kernel
theorem s59_94 {x0 : Nat} {x1 : Int32} {x2 : Int32} {x3 : Option Value} : ip_WP 59 94 [some (.ref x0), some (.int x1), some (.int x2), x3] [] (G, F, I, J) b post px ↔ ip_WP 59 95 [some (.ref x0), some (.int x1), some (.int x2), x3] [.int 0] (G, F, I, J) b post px := ip_s_iconst f59_94 (by decide)
theorem f59_95 : ip_fetch 59 95 = some (.istore_n 2, 1) := by decide +kernel
theorem s59_95 {x0 : Nat} {x1 : Int32} {x2 : Int32} {x3 : Option Value} {s0 : Int32} : ip_WP 59 95 [some (.ref x0), some (.int x1), some (.int x2), x3] [.int s0] (G, F, I, J) b post px ↔ ip_WP 59 96 [some (.ref x0), some (.int x1), some (.int s0), x3] [] (G, F, I, J) b post px := ip_nx_iff ((ip_st_of f59_95).trans rfl)
theorem f59_96 : ip_fetch 59 96 = some (.iload_n 2, 1) := by decide +kernel
theorem s59_96 {x0 : Nat} {x1 : Int32} {x2 : Int32} {x3 : Option Value} : ip_WP 59 96 [some (.ref x0), some (.int x1), some (.int x2), x3] [] (G, F, I, J) b post px ↔ ip_WP 59 97 [some (.ref x0), some (.int x1), some (.int x2), x3] [.int x2] (G, F, I, J) b post px := ip_nx_iff ((ip_st_of f59_96).trans rfl)
theorem f59_97 : ip_fetch 59 97 = some (.aload_n 0, 1) := by decide +kernel
theorem s59_97 {x0 : Nat} {x1 : Int32} {x2 : Int32} {x3 : Option Value} {s0 : Int32} : ip_WP 59 97 [some (.ref x0), some (.int x1), some (.int x2), x3] [.int s0] (G, F, I, J) b post px ↔ ip_WP 59 98 [some (.ref x0), some (.int x1), some (.int x2), x3] [.ref x0, .int s0] (G, F, I, J) b post px := ip_nx_iff ((ip_st_of f59_97).trans rfl)
theorem f59_98 : ip_fetch 59 98 = some (.getfield 34, 3) := by decide +kernel
set_option maxRecDepth 100000 in
theorem s59_98 {x0 : Nat} {x1 : Int32} {x2 : Int32} {x3 : Option Value} {s0 : Int32} {s1 : Nat} : ip_WP 59 98 [some (.ref x0), some (.int x1), some (.int x2), x3] [.ref s1, .int s0] (G, F, I, J) b post px ↔ (ip_isO G s1 1 = true ∧ ip_WP 59 101 [some (.ref x0), some (.int x1), some (.int x2), x3] [F s1 16, .int s0] (G, F, I, J) b post px) := ip_s_getf f59_98 (by decide +kernel)
theorem f59_101 : ip_fetch 59 101 = some (.iconst 0, 1) := by decide +kernel
theorem s59_101 {x0 : Nat} {x1 : Int32} {x2 : Int32} {x3 : Option Value} {s0 : Int32} {s1 : Nat} : ip_WP 59 101 [some (.ref x0), some (.int x1), some (.int x2), x3] [.ref s1, .int s0] (G, F, I, J) b post px ↔ ip_WP 59 102 [some (.ref x0), some (.int x1), some (.int x2), x3] [.int 0, .ref s1, .int s0] (G, F, I, J) b post px := ip_s_iconst f59_101 (by decide)
theorem f59_102 : ip_fetch 59 102 = some (.iaload, 1) := by decide +kernel
theorem s59_102 {x0 : Nat} {x1 : Int32} {x2 : Int32} {x3 : Option Value} {s0 : Int32} {s1 : Nat} {s2 : Int32} : ip_WP 59 102 [some (.ref x0), some (.int x1), some (.int x2), x3] [.int s2, .ref s1, .int s0] (G, F, I, J) b post px ↔ (ip_inA G s1 0 s2 = true ∧ ip_WP 59 103 [some (.ref x0), some (.int x1), some (.int x2), x3] [.int (I s1 s2.toNatClampNeg), .int s0] (G, F, I, J) b post px) := ip_ck_iff ((ip_st_of f59_102).trans rfl) ip_nx_iff
theorem f59_103 : ip_fetch 59 103 = some (.if_icmp .ge 23, 3) := by decide +kernel
theorem s59_103 {x0 : Nat} {x1 : Int32} {x2 : Int32} {x3 : Option Value} {s0 : Int32} {s1 : Int32} : ip_WP 59 103 [some (.ref x0), some (.int x1), some (.int x2), x3] [.int s1, .int s0] (G, F, I, J) b post px ↔ if s1 ≤ s0 then ip_WP 59 126 [some (.ref x0), some (.int x1), some (.int x2), x3] [] (G, F, I, J) b post px else ip_WP 59 106 [some (.ref x0), some (.int x1), some (.int x2), x3] [] (G, F, I, J) b post px := ip_s_ic_ge f59_103 rfl
theorem f59_106 : ip_fetch 59 106 = some (.aload_n 0, 1) := by decide +kernel
theorem s59_106 {x0 : Nat} {x1 : Int32} {x2 : Int32} {x3 : Option Value} : ip_WP 59 106 [some (.ref x0), some (.int x1), some (.int x2), x3] [] (G, F, I, J) b post px ↔ ip_WP 59 107 [some (.ref x0), some (.int x1), some (.int x2), x3] [.ref x0] (G, F, I, J) b post px := ip_nx_iff ((ip_st_of f59_106).trans rfl)
theorem f59_107 : ip_fetch 59 107 = some (.iload_n 2, 1) := by decide +kernel
theorem s59_107 {x0 : Nat} {x1 : Int32} {x2 : Int32} {x3 : Option Value} {s0 : Nat} : ip_WP 59 107 [some (.ref x0), some (.int x1), some (.int x2), x3] [.ref s0] (G, F, I, J) b post px ↔ ip_WP 59 108 [some (.ref x0), some (.int x1), some (.int x2), x3] [.int x2, .ref s0] (G, F, I, J) b post px := ip_nx_iff ((ip_st_of f59_107).trans rfl)
theorem f59_108 : ip_fetch 59 108 = some (.invokevirtual 237, 3) := by decide +kernel
set_option maxRecDepth 100000 in
theorem s59_108 {x0 : Nat} {x1 : Int32} {x2 : Int32} {x3 : Option Value} {s0 : Nat} {s1 : Int32} : ip_WP 59 108 [some (.ref x0), some (.int x1), some (.int x2), x3] [.int s1, .ref s0] (G, F, I, J) b post px ↔ (ip_isO G s0 1 = true ∧ ip_WP 58 0 [some (.ref s0), some (.int s1), none, none] [] (G, F, I, J) (0, 0) (fun r h' => ip_WP 59 111 [some (.ref x0), some (.int x1), some (.int x2), x3] (r.toList ++ []) h' b post px) (fun _ _ => False)) := ip_ck_iff (x := ip_cl 58 [some (.ref s0), some (.int s1), none, none] [] (0, 0) b) ((ip_st_of f59_108).trans rfl) (ip_cl_iff)
theorem f59_111 : ip_fetch 59 111 = some (.ifCond .ne 9, 3) := by decide +kernel
theorem s59_111 {x0 : Nat} {x1 : Int32} {x2 : Int32} {x3 : Option Value} {s0 : Int32} : ip_WP 59 111 [some (.ref x0), some (.int x1), some (.int x2), x3] [.int s0] (G, F, I, J) b post px ↔ if ¬ s0 = 0 then ip_WP 59 120 [some (.ref x0), some (.int x1), some (.int x2), x3] [] (G, F, I, J) b post px else ip_WP 59 114 [some (.ref x0), some (.int x1), some (.int x2), x3] [] (G, F, I, J) b post px := ip_s_if_ne f59_111 rfl
theorem f59_114 : ip_fetch 59 114 = some (.aload_n 0, 1) := by decide +kernel
theorem s59_114 {x0 : Nat} {x1 : Int32} {x2 : Int32} {x3 : Option Value} : ip_WP 59 114 [some (.ref x0), some (.int x1), some (.int x2), x3] [] (G, F, I, J) b post px ↔ ip_WP 59 115 [some (.ref x0), some (.int x1), some (.int x2), x3] [.ref x0] (G, F, I, J) b post px := ip_nx_iff ((ip_st_of f59_114).trans rfl)
theorem f59_115 : ip_fetch 59 115 = some (.iconst 3, 1) := by decide +kernel
theorem s59_115 {x0 : Nat} {x1 : Int32} {x2 : Int32} {x3 : Option Value} {s0 : Nat} : ip_WP 59 115 [some (.ref x0), some (.int x1), some (.int x2), x3] [.ref s0] (G, F, I, J) b post px ↔ ip_WP 59 116 [some (.ref x0), some (.int x1), some (.int x2), x3] [.int 3, .ref s0] (G, F, I, J) b post px := ip_s_iconst f59_115 (by decide)
theorem f59_116 : ip_fetch 59 116 = some (.iload_n 2, 1) := by decide +kernel
theorem s59_116 {x0 : Nat} {x1 : Int32} {x2 : Int32} {x3 : Option Value} {s0 : Nat} {s1 : Int32} : ip_WP 59 116 [some (.ref x0), some (.int x1), some (.int x2), x3] [.int s1, .ref s0] (G, F, I, J) b post px ↔ ip_WP 59 117 [some (.ref x0), some (.int x1), some (.int x2), x3] [.int x2, .int s1, .ref s0] (G, F, I, J) b post px := ip_nx_iff ((ip_st_of f59_116).trans rfl)
theorem f59_117 : ip_fetch 59 117 = some (.invokevirtual 234, 3) := by decide +kernel
set_option maxRecDepth 100000 in
theorem s59_117 {x0 : Nat} {x1 : Int32} {x2 : Int32} {x3 : Option Value} {s0 : Nat} {s1 : Int32} {s2 : Int32} : ip_WP 59 117 [some (.ref x0), some (.int x1), some (.int x2), x3] [.int s2, .int s1, .ref s0] (G, F, I, J) b post px ↔ (ip_isO G s0 1 = true ∧ ip_WP 56 0 [some (.ref s0), some (.int s1), some (.int s2)] [] (G, F, I, J) (0, 0) (fun r h' => ip_WP 59 120 [some (.ref x0), some (.int x1), some (.int x2), x3] (r.toList ++ []) h' b post px) (fun _ _ => False)) := ip_ck_iff (x := ip_cl 56 [some (.ref s0), some (.int s1), some (.int s2)] [] (0, 0) b) ((ip_st_of f59_117).trans rfl) (ip_cl_iff)
theorem f59_120 : ip_fetch 59 120 = some (.iinc 2 1, 3) := by decide +kernel
theorem s59_120 {x0 : Nat} {x1 : Int32} {x2 : Int32} {x3 : Option Value} : ip_WP 59 120 [some (.ref x0), some (.int x1), some (.int x2), x3] [] (G, F, I, J) b post px ↔ ip_WP 59 123 [some (.ref x0), some (.int x1), some (.int (x2 + 1)), x3] [] (G, F, I, J) b post px := ip_s_iinc f59_120 rfl (by decide)
theorem f59_123 : ip_fetch 59 123 = some (.goto (-27), 3) := by decide +kernel
theorem s59_123 {x0 : Nat} {x1 : Int32} {x2 : Int32} {x3 : Option Value} : ip_WP 59 123 [some (.ref x0), some (.int x1), some (.int x2), x3] [] (G, F, I, J) b post px ↔ ip_WP 59 96 [some (.ref x0), some (.int x1), some (.int x2), x3] [] (G, F, I, J) b post px := ip_nx_iff ((ip_st_of f59_123).trans rfl)
theorem f59_126 : ip_fetch 59 126 = some (.iconst 0, 1) := by decide +kernel
theorem s59_126 {x0 : Nat} {x1 : Int32} {x2 : Int32} {x3 : Option Value} : ip_WP 59 126 [some (.ref x0), some (.int x1), some (.int x2), x3] [] (G, F, I, J) b post px ↔ ip_WP 59 127 [some (.ref x0), some (.int x1), some (.int x2), x3] [.int 0] (G, F, I, J) b post px := ip_s_iconst f59_126 (by decide)
theorem f59_127 : ip_fetch 59 127 = some (.istore_n 2, 1) := by decide +kernel
theorem s59_127 {x0 : Nat} {x1 : Int32} {x2 : Int32} {x3 : Option Value} {s0 : Int32} : ip_WP 59 127 [some (.ref x0), some (.int x1), some (.int x2), x3] [.int s0] (G, F, I, J) b post px ↔ ip_WP 59 128 [some (.ref x0), some (.int x1), some (.int s0), x3] [] (G, F, I, J) b post px := ip_nx_iff ((ip_st_of f59_127).trans rfl)
theorem f59_128 : ip_fetch 59 128 = some (.iload_n 2, 1) := by decide +kernel
theorem s59_128 {x0 : Nat} {x1 : Int32} {x2 : Int32} {x3 : Option Value} : ip_WP 59 128 [some (.ref x0), some (.int x1), some (.int x2), x3] [] (G, F, I, J) b post px ↔ ip_WP 59 129 [some (.ref x0), some (.int x1), some (.int x2), x3] [.int x2] (G, F, I, J) b post px := ip_nx_iff ((ip_st_of f59_128).trans rfl)
theorem f59_129 : ip_fetch 59 129 = some (.aload_n 0, 1) := by decide +kernel
theorem s59_129 {x0 : Nat} {x1 : Int32} {x2 : Int32} {x3 : Option Value} {s0 : Int32} : ip_WP 59 129 [some (.ref x0), some (.int x1), some (.int x2), x3] [.int s0] (G, F, I, J) b post px ↔ ip_WP 59 130 [some (.ref x0), some (.int x1), some (.int x2), x3] [.ref x0, .int s0] (G, F, I, J) b post px := ip_nx_iff ((ip_st_of f59_129).trans rfl)
theorem f59_130 : ip_fetch 59 130 = some (.getfield 34, 3) := by decide +kernel
set_option maxRecDepth 100000 in
theorem s59_130 {x0 : Nat} {x1 : Int32} {x2 : Int32} {x3 : Option Value} {s0 : Int32} {s1 : Nat} : ip_WP 59 130 [some (.ref x0), some (.int x1), some (.int x2), x3] [.ref s1, .int s0] (G, F, I, J) b post px ↔ (ip_isO G s1 1 = true ∧ ip_WP 59 133 [some (.ref x0), some (.int x1), some (.int x2), x3] [F s1 16, .int s0] (G, F, I, J) b post px) := ip_s_getf f59_130 (by decide +kernel)
theorem f59_133 : ip_fetch 59 133 = some (.iconst 0, 1) := by decide +kernel
theorem s59_133 {x0 : Nat} {x1 : Int32} {x2 : Int32} {x3 : Option Value} {s0 : Int32} {s1 : Nat} : ip_WP 59 133 [some (.ref x0), some (.int x1), some (.int x2), x3] [.ref s1, .int s0] (G, F, I, J) b post px ↔ ip_WP 59 134 [some (.ref x0), some (.int x1), some (.int x2), x3] [.int 0, .ref s1, .int s0] (G, F, I, J) b post px := ip_s_iconst f59_133 (by decide)
theorem f59_134 : ip_fetch 59 134 = some (.iaload, 1) := by decide +kernel
theorem s59_134 {x0 : Nat} {x1 : Int32} {x2 : Int32} {x3 : Option Value} {s0 : Int32} {s1 : Nat} {s2 : Int32} : ip_WP 59 134 [some (.ref x0), some (.int x1), some (.int x2), x3] [.int s2, .ref s1, .int s0] (G, F, I, J) b post px ↔ (ip_inA G s1 0 s2 = true ∧ ip_WP 59 135 [some (.ref x0), some (.int x1), some (.int x2), x3] [.int (I s1 s2.toNatClampNeg), .int s0] (G, F, I, J) b post px) := ip_ck_iff ((ip_st_of f59_134).trans rfl) ip_nx_iff
theorem f59_135 : ip_fetch 59 135 = some (.if_icmp .ge 38, 3) := by decide +kernel
theorem s59_135 {x0 : Nat} {x1 : Int32} {x2 : Int32} {x3 : Option Value} {s0 : Int32} {s1 : Int32} : ip_WP 59 135 [some (.ref x0), some (.int x1), some (.int x2), x3] [.int s1, .int s0] (G, F, I, J) b post px ↔ if s1 ≤ s0 then ip_WP 59 173 [some (.ref x0), some (.int x1), some (.int x2), x3] [] (G, F, I, J) b post px else ip_WP 59 138 [some (.ref x0), some (.int x1), some (.int x2), x3] [] (G, F, I, J) b post px := ip_s_ic_ge f59_135 rfl
theorem f59_138 : ip_fetch 59 138 = some (.aload_n 0, 1) := by decide +kernel
theorem s59_138 {x0 : Nat} {x1 : Int32} {x2 : Int32} {x3 : Option Value} : ip_WP 59 138 [some (.ref x0), some (.int x1), some (.int x2), x3] [] (G, F, I, J) b post px ↔ ip_WP 59 139 [some (.ref x0), some (.int x1), some (.int x2), x3] [.ref x0] (G, F, I, J) b post px := ip_nx_iff ((ip_st_of f59_138).trans rfl)
theorem f59_139 : ip_fetch 59 139 = some (.getfield 47, 3) := by decide +kernel
set_option maxRecDepth 100000 in
theorem s59_139 {x0 : Nat} {x1 : Int32} {x2 : Int32} {x3 : Option Value} {s0 : Nat} : ip_WP 59 139 [some (.ref x0), some (.int x1), some (.int x2), x3] [.ref s0] (G, F, I, J) b post px ↔ (ip_isO G s0 1 = true ∧ ip_WP 59 142 [some (.ref x0), some (.int x1), some (.int x2), x3] [F s0 20] (G, F, I, J) b post px) := ip_s_getf f59_139 (by decide +kernel)
theorem f59_142 : ip_fetch 59 142 = some (.iload_n 2, 1) := by decide +kernel
theorem s59_142 {x0 : Nat} {x1 : Int32} {x2 : Int32} {x3 : Option Value} {s0 : Nat} : ip_WP 59 142 [some (.ref x0), some (.int x1), some (.int x2), x3] [.ref s0] (G, F, I, J) b post px ↔ ip_WP 59 143 [some (.ref x0), some (.int x1), some (.int x2), x3] [.int x2, .ref s0] (G, F, I, J) b post px := ip_nx_iff ((ip_st_of f59_142).trans rfl)
theorem f59_143 : ip_fetch 59 143 = some (.iaload, 1) := by decide +kernel
theorem s59_143 {x0 : Nat} {x1 : Int32} {x2 : Int32} {x3 : Option Value} {s0 : Nat} {s1 : Int32} : ip_WP 59 143 [some (.ref x0), some (.int x1), some (.int x2), x3] [.int s1, .ref s0] (G, F, I, J) b post px ↔ (ip_inA G s0 0 s1 = true ∧ ip_WP 59 144 [some (.ref x0), some (.int x1), some (.int x2), x3] [.int (I s0 s1.toNatClampNeg)] (G, F, I, J) b post px) := ip_ck_iff ((ip_st_of f59_143).trans rfl) ip_nx_iff
theorem f59_144 : ip_fetch 59 144 = some (.ifCond .lt 23, 3) := by decide +kernel
theorem s59_144 {x0 : Nat} {x1 : Int32} {x2 : Int32} {x3 : Option Value} {s0 : Int32} : ip_WP 59 144 [some (.ref x0), some (.int x1), some (.int x2), x3] [.int s0] (G, F, I, J) b post px ↔ if s0 < 0 then ip_WP 59 167 [some (.ref x0), some (.int x1), some (.int x2), x3] [] (G, F, I, J) b post px else ip_WP 59 147 [some (.ref x0), some (.int x1), some (.int x2), x3] [] (G, F, I, J) b post px := ip_s_if_lt f59_144 rfl
theorem f59_147 : ip_fetch 59 147 = some (.iload_n 1, 1) := by decide +kernel
theorem s59_147 {x0 : Nat} {x1 : Int32} {x2 : Int32} {x3 : Option Value} : ip_WP 59 147 [some (.ref x0), some (.int x1), some (.int x2), x3] [] (G, F, I, J) b post px ↔ ip_WP 59 148 [some (.ref x0), some (.int x1), some (.int x2), x3] [.int x1] (G, F, I, J) b post px := ip_nx_iff ((ip_st_of f59_147).trans rfl)
theorem f59_148 : ip_fetch 59 148 = some (.ifCond .lt 19, 3) := by decide +kernel
theorem s59_148 {x0 : Nat} {x1 : Int32} {x2 : Int32} {x3 : Option Value} {s0 : Int32} : ip_WP 59 148 [some (.ref x0), some (.int x1), some (.int x2), x3] [.int s0] (G, F, I, J) b post px ↔ if s0 < 0 then ip_WP 59 167 [some (.ref x0), some (.int x1), some (.int x2), x3] [] (G, F, I, J) b post px else ip_WP 59 151 [some (.ref x0), some (.int x1), some (.int x2), x3] [] (G, F, I, J) b post px := ip_s_if_lt f59_148 rfl
theorem f59_151 : ip_fetch 59 151 = some (.aload_n 0, 1) := by decide +kernel
theorem s59_151 {x0 : Nat} {x1 : Int32} {x2 : Int32} {x3 : Option Value} : ip_WP 59 151 [some (.ref x0), some (.int x1), some (.int x2), x3] [] (G, F, I, J) b post px ↔ ip_WP 59 152 [some (.ref x0), some (.int x1), some (.int x2), x3] [.ref x0] (G, F, I, J) b post px := ip_nx_iff ((ip_st_of f59_151).trans rfl)
theorem f59_152 : ip_fetch 59 152 = some (.getfield 47, 3) := by decide +kernel
set_option maxRecDepth 100000 in
theorem s59_152 {x0 : Nat} {x1 : Int32} {x2 : Int32} {x3 : Option Value} {s0 : Nat} : ip_WP 59 152 [some (.ref x0), some (.int x1), some (.int x2), x3] [.ref s0] (G, F, I, J) b post px ↔ (ip_isO G s0 1 = true ∧ ip_WP 59 155 [some (.ref x0), some (.int x1), some (.int x2), x3] [F s0 20] (G, F, I, J) b post px) := ip_s_getf f59_152 (by decide +kernel)
theorem f59_155 : ip_fetch 59 155 = some (.iload_n 2, 1) := by decide +kernel
theorem s59_155 {x0 : Nat} {x1 : Int32} {x2 : Int32} {x3 : Option Value} {s0 : Nat} : ip_WP 59 155 [some (.ref x0), some (.int x1), some (.int x2), x3] [.ref s0] (G, F, I, J) b post px ↔ ip_WP 59 156 [some (.ref x0), some (.int x1), some (.int x2), x3] [.int x2, .ref s0] (G, F, I, J) b post px := ip_nx_iff ((ip_st_of f59_155).trans rfl)
theorem f59_156 : ip_fetch 59 156 = some (.iaload, 1) := by decide +kernel
theorem s59_156 {x0 : Nat} {x1 : Int32} {x2 : Int32} {x3 : Option Value} {s0 : Nat} {s1 : Int32} : ip_WP 59 156 [some (.ref x0), some (.int x1), some (.int x2), x3] [.int s1, .ref s0] (G, F, I, J) b post px ↔ (ip_inA G s0 0 s1 = true ∧ ip_WP 59 157 [some (.ref x0), some (.int x1), some (.int x2), x3] [.int (I s0 s1.toNatClampNeg)] (G, F, I, J) b post px) := ip_ck_iff ((ip_st_of f59_156).trans rfl) ip_nx_iff
theorem f59_157 : ip_fetch 59 157 = some (.iload_n 1, 1) := by decide +kernel
theorem s59_157 {x0 : Nat} {x1 : Int32} {x2 : Int32} {x3 : Option Value} {s0 : Int32} : ip_WP 59 157 [some (.ref x0), some (.int x1), some (.int x2), x3] [.int s0] (G, F, I, J) b post px ↔ ip_WP 59 158 [some (.ref x0), some (.int x1), some (.int x2), x3] [.int x1, .int s0] (G, F, I, J) b post px := ip_nx_iff ((ip_st_of f59_157).trans rfl)
theorem f59_158 : ip_fetch 59 158 = some (.if_icmp .ge 9, 3) := by decide +kernel
theorem s59_158 {x0 : Nat} {x1 : Int32} {x2 : Int32} {x3 : Option Value} {s0 : Int32} {s1 : Int32} : ip_WP 59 158 [some (.ref x0), some (.int x1), some (.int x2), x3] [.int s1, .int s0] (G, F, I, J) b post px ↔ if s1 ≤ s0 then ip_WP 59 167 [some (.ref x0), some (.int x1), some (.int x2), x3] [] (G, F, I, J) b post px else ip_WP 59 161 [some (.ref x0), some (.int x1), some (.int x2), x3] [] (G, F, I, J) b post px := ip_s_ic_ge f59_158 rfl
theorem f59_161 : ip_fetch 59 161 = some (.aload_n 0, 1) := by decide +kernel
theorem s59_161 {x0 : Nat} {x1 : Int32} {x2 : Int32} {x3 : Option Value} : ip_WP 59 161 [some (.ref x0), some (.int x1), some (.int x2), x3] [] (G, F, I, J) b post px ↔ ip_WP 59 162 [some (.ref x0), some (.int x1), some (.int x2), x3] [.ref x0] (G, F, I, J) b post px := ip_nx_iff ((ip_st_of f59_161).trans rfl)
theorem f59_162 : ip_fetch 59 162 = some (.iconst 4, 1) := by decide +kernel
theorem s59_162 {x0 : Nat} {x1 : Int32} {x2 : Int32} {x3 : Option Value} {s0 : Nat} : ip_WP 59 162 [some (.ref x0), some (.int x1), some (.int x2), x3] [.ref s0] (G, F, I, J) b post px ↔ ip_WP 59 163 [some (.ref x0), some (.int x1), some (.int x2), x3] [.int 4, .ref s0] (G, F, I, J) b post px := ip_s_iconst f59_162 (by decide)
theorem f59_163 : ip_fetch 59 163 = some (.iload_n 2, 1) := by decide +kernel
theorem s59_163 {x0 : Nat} {x1 : Int32} {x2 : Int32} {x3 : Option Value} {s0 : Nat} {s1 : Int32} : ip_WP 59 163 [some (.ref x0), some (.int x1), some (.int x2), x3] [.int s1, .ref s0] (G, F, I, J) b post px ↔ ip_WP 59 164 [some (.ref x0), some (.int x1), some (.int x2), x3] [.int x2, .int s1, .ref s0] (G, F, I, J) b post px := ip_nx_iff ((ip_st_of f59_163).trans rfl)
theorem f59_164 : ip_fetch 59 164 = some (.invokevirtual 234, 3) := by decide +kernel
set_option maxRecDepth 100000 in
theorem s59_164 {x0 : Nat} {x1 : Int32} {x2 : Int32} {x3 : Option Value} {s0 : Nat} {s1 : Int32} {s2 : Int32} : ip_WP 59 164 [some (.ref x0), some (.int x1), some (.int x2), x3] [.int s2, .int s1, .ref s0] (G, F, I, J) b post px ↔ (ip_isO G s0 1 = true ∧ ip_WP 56 0 [some (.ref s0), some (.int s1), some (.int s2)] [] (G, F, I, J) (0, 0) (fun r h' => ip_WP 59 167 [some (.ref x0), some (.int x1), some (.int x2), x3] (r.toList ++ []) h' b post px) (fun _ _ => False)) := ip_ck_iff (x := ip_cl 56 [some (.ref s0), some (.int s1), some (.int s2)] [] (0, 0) b) ((ip_st_of f59_164).trans rfl) (ip_cl_iff)
theorem f59_167 : ip_fetch 59 167 = some (.iinc 2 1, 3) := by decide +kernel
theorem s59_167 {x0 : Nat} {x1 : Int32} {x2 : Int32} {x3 : Option Value} : ip_WP 59 167 [some (.ref x0), some (.int x1), some (.int x2), x3] [] (G, F, I, J) b post px ↔ ip_WP 59 170 [some (.ref x0), some (.int x1), some (.int (x2 + 1)), x3] [] (G, F, I, J) b post px := ip_s_iinc f59_167 rfl (by decide)
theorem f59_170 : ip_fetch 59 170 = some (.goto (-42), 3) := by decide +kernel
theorem s59_170 {x0 : Nat} {x1 : Int32} {x2 : Int32} {x3 : Option Value} : ip_WP 59 170 [some (.ref x0), some (.int x1), some (.int x2), x3] [] (G, F, I, J) b post px ↔ ip_WP 59 128 [some (.ref x0), some (.int x1), some (.int x2), x3] [] (G, F, I, J) b post px := ip_nx_iff ((ip_st_of f59_170).trans rfl)
theorem f59_173 : ip_fetch 59 173 = some (.iconst 0, 1) := by decide +kernel
theorem s59_173 {x0 : Nat} {x1 : Int32} {x2 : Int32} {x3 : Option Value} : ip_WP 59 173 [some (.ref x0), some (.int x1), some (.int x2), x3] [] (G, F, I, J) b post px ↔ ip_WP 59 174 [some (.ref x0), some (.int x1), some (.int x2), x3] [.int 0] (G, F, I, J) b post px := ip_s_iconst f59_173 (by decide)
theorem f59_174 : ip_fetch 59 174 = some (.istore_n 2, 1) := by decide +kernel
theorem s59_174 {x0 : Nat} {x1 : Int32} {x2 : Int32} {x3 : Option Value} {s0 : Int32} : ip_WP 59 174 [some (.ref x0), some (.int x1), some (.int x2), x3] [.int s0] (G, F, I, J) b post px ↔ ip_WP 59 175 [some (.ref x0), some (.int x1), some (.int s0), x3] [] (G, F, I, J) b post px := ip_nx_iff ((ip_st_of f59_174).trans rfl)
theorem f59_175 : ip_fetch 59 175 = some (.iload_n 2, 1) := by decide +kernel
theorem s59_175 {x0 : Nat} {x1 : Int32} {x2 : Int32} {x3 : Option Value} : ip_WP 59 175 [some (.ref x0), some (.int x1), some (.int x2), x3] [] (G, F, I, J) b post px ↔ ip_WP 59 176 [some (.ref x0), some (.int x1), some (.int x2), x3] [.int x2] (G, F, I, J) b post px := ip_nx_iff ((ip_st_of f59_175).trans rfl)
theorem f59_176 : ip_fetch 59 176 = some (.aload_n 0, 1) := by decide +kernel
theorem s59_176 {x0 : Nat} {x1 : Int32} {x2 : Int32} {x3 : Option Value} {s0 : Int32} : ip_WP 59 176 [some (.ref x0), some (.int x1), some (.int x2), x3] [.int s0] (G, F, I, J) b post px ↔ ip_WP 59 177 [some (.ref x0), some (.int x1), some (.int x2), x3] [.ref x0, .int s0] (G, F, I, J) b post px := ip_nx_iff ((ip_st_of f59_176).trans rfl)
theorem f59_177 : ip_fetch 59 177 = some (.getfield 34, 3) := by decide +kernel
set_option maxRecDepth 100000 in
theorem s59_177 {x0 : Nat} {x1 : Int32} {x2 : Int32} {x3 : Option Value} {s0 : Int32} {s1 : Nat} : ip_WP 59 177 [some (.ref x0), some (.int x1), some (.int x2), x3] [.ref s1, .int s0] (G, F, I, J) b post px ↔ (ip_isO G s1 1 = true ∧ ip_WP 59 180 [some (.ref x0), some (.int x1), some (.int x2), x3] [F s1 16, .int s0] (G, F, I, J) b post px) := ip_s_getf f59_177 (by decide +kernel)
theorem f59_180 : ip_fetch 59 180 = some (.iconst 0, 1) := by decide +kernel
theorem s59_180 {x0 : Nat} {x1 : Int32} {x2 : Int32} {x3 : Option Value} {s0 : Int32} {s1 : Nat} : ip_WP 59 180 [some (.ref x0), some (.int x1), some (.int x2), x3] [.ref s1, .int s0] (G, F, I, J) b post px ↔ ip_WP 59 181 [some (.ref x0), some (.int x1), some (.int x2), x3] [.int 0, .ref s1, .int s0] (G, F, I, J) b post px := ip_s_iconst f59_180 (by decide)
theorem f59_181 : ip_fetch 59 181 = some (.iaload, 1) := by decide +kernel
theorem s59_181 {x0 : Nat} {x1 : Int32} {x2 : Int32} {x3 : Option Value} {s0 : Int32} {s1 : Nat} {s2 : Int32} : ip_WP 59 181 [some (.ref x0), some (.int x1), some (.int x2), x3] [.int s2, .ref s1, .int s0] (G, F, I, J) b post px ↔ (ip_inA G s1 0 s2 = true ∧ ip_WP 59 182 [some (.ref x0), some (.int x1), some (.int x2), x3] [.int (I s1 s2.toNatClampNeg), .int s0] (G, F, I, J) b post px) := ip_ck_iff ((ip_st_of f59_181).trans rfl) ip_nx_iff
theorem f59_182 : ip_fetch 59 182 = some (.if_icmp .ge 70, 3) := by decide +kernel
theorem s59_182 {x0 : Nat} {x1 : Int32} {x2 : Int32} {x3 : Option Value} {s0 : Int32} {s1 : Int32} : ip_WP 59 182 [some (.ref x0), some (.int x1), some (.int x2), x3] [.int s1, .int s0] (G, F, I, J) b post px ↔ if s1 ≤ s0 then ip_WP 59 252 [some (.ref x0), some (.int x1), some (.int x2), x3] [] (G, F, I, J) b post px else ip_WP 59 185 [some (.ref x0), some (.int x1), some (.int x2), x3] [] (G, F, I, J) b post px := ip_s_ic_ge f59_182 rfl
theorem f59_185 : ip_fetch 59 185 = some (.aload_n 0, 1) := by decide +kernel
theorem s59_185 {x0 : Nat} {x1 : Int32} {x2 : Int32} {x3 : Option Value} : ip_WP 59 185 [some (.ref x0), some (.int x1), some (.int x2), x3] [] (G, F, I, J) b post px ↔ ip_WP 59 186 [some (.ref x0), some (.int x1), some (.int x2), x3] [.ref x0] (G, F, I, J) b post px := ip_nx_iff ((ip_st_of f59_185).trans rfl)
theorem f59_186 : ip_fetch 59 186 = some (.getfield 47, 3) := by decide +kernel
set_option maxRecDepth 100000 in
theorem s59_186 {x0 : Nat} {x1 : Int32} {x2 : Int32} {x3 : Option Value} {s0 : Nat} : ip_WP 59 186 [some (.ref x0), some (.int x1), some (.int x2), x3] [.ref s0] (G, F, I, J) b post px ↔ (ip_isO G s0 1 = true ∧ ip_WP 59 189 [some (.ref x0), some (.int x1), some (.int x2), x3] [F s0 20] (G, F, I, J) b post px) := ip_s_getf f59_186 (by decide +kernel)
theorem f59_189 : ip_fetch 59 189 = some (.iload_n 2, 1) := by decide +kernel
theorem s59_189 {x0 : Nat} {x1 : Int32} {x2 : Int32} {x3 : Option Value} {s0 : Nat} : ip_WP 59 189 [some (.ref x0), some (.int x1), some (.int x2), x3] [.ref s0] (G, F, I, J) b post px ↔ ip_WP 59 190 [some (.ref x0), some (.int x1), some (.int x2), x3] [.int x2, .ref s0] (G, F, I, J) b post px := ip_nx_iff ((ip_st_of f59_189).trans rfl)
theorem f59_190 : ip_fetch 59 190 = some (.iaload, 1) := by decide +kernel
theorem s59_190 {x0 : Nat} {x1 : Int32} {x2 : Int32} {x3 : Option Value} {s0 : Nat} {s1 : Int32} : ip_WP 59 190 [some (.ref x0), some (.int x1), some (.int x2), x3] [.int s1, .ref s0] (G, F, I, J) b post px ↔ (ip_inA G s0 0 s1 = true ∧ ip_WP 59 191 [some (.ref x0), some (.int x1), some (.int x2), x3] [.int (I s0 s1.toNatClampNeg)] (G, F, I, J) b post px) := ip_ck_iff ((ip_st_of f59_190).trans rfl) ip_nx_iff
theorem f59_191 : ip_fetch 59 191 = some (.ifCond .lt 29, 3) := by decide +kernel
theorem s59_191 {x0 : Nat} {x1 : Int32} {x2 : Int32} {x3 : Option Value} {s0 : Int32} : ip_WP 59 191 [some (.ref x0), some (.int x1), some (.int x2), x3] [.int s0] (G, F, I, J) b post px ↔ if s0 < 0 then ip_WP 59 220 [some (.ref x0), some (.int x1), some (.int x2), x3] [] (G, F, I, J) b post px else ip_WP 59 194 [some (.ref x0), some (.int x1), some (.int x2), x3] [] (G, F, I, J) b post px := ip_s_if_lt f59_191 rfl
theorem f59_194 : ip_fetch 59 194 = some (.aload_n 0, 1) := by decide +kernel
theorem s59_194 {x0 : Nat} {x1 : Int32} {x2 : Int32} {x3 : Option Value} : ip_WP 59 194 [some (.ref x0), some (.int x1), some (.int x2), x3] [] (G, F, I, J) b post px ↔ ip_WP 59 195 [some (.ref x0), some (.int x1), some (.int x2), x3] [.ref x0] (G, F, I, J) b post px := ip_nx_iff ((ip_st_of f59_194).trans rfl)
theorem f59_195 : ip_fetch 59 195 = some (.getfield 50, 3) := by decide +kernel
set_option maxRecDepth 100000 in
theorem s59_195 {x0 : Nat} {x1 : Int32} {x2 : Int32} {x3 : Option Value} {s0 : Nat} : ip_WP 59 195 [some (.ref x0), some (.int x1), some (.int x2), x3] [.ref s0] (G, F, I, J) b post px ↔ (ip_isO G s0 1 = true ∧ ip_WP 59 198 [some (.ref x0), some (.int x1), some (.int x2), x3] [F s0 21] (G, F, I, J) b post px) := ip_s_getf f59_195 (by decide +kernel)
theorem f59_198 : ip_fetch 59 198 = some (.iload_n 2, 1) := by decide +kernel
theorem s59_198 {x0 : Nat} {x1 : Int32} {x2 : Int32} {x3 : Option Value} {s0 : Nat} : ip_WP 59 198 [some (.ref x0), some (.int x1), some (.int x2), x3] [.ref s0] (G, F, I, J) b post px ↔ ip_WP 59 199 [some (.ref x0), some (.int x1), some (.int x2), x3] [.int x2, .ref s0] (G, F, I, J) b post px := ip_nx_iff ((ip_st_of f59_198).trans rfl)
theorem f59_199 : ip_fetch 59 199 = some (.baload, 1) := by decide +kernel
theorem s59_199 {x0 : Nat} {x1 : Int32} {x2 : Int32} {x3 : Option Value} {s0 : Nat} {s1 : Int32} : ip_WP 59 199 [some (.ref x0), some (.int x1), some (.int x2), x3] [.int s1, .ref s0] (G, F, I, J) b post px ↔ ((ip_inA G s0 1 s1 || ip_inA G s0 3 s1) = true ∧ ip_WP 59 200 [some (.ref x0), some (.int x1), some (.int x2), x3] [.int (I s0 s1.toNatClampNeg)] (G, F, I, J) b post px) := ip_ck_iff ((ip_st_of f59_199).trans rfl) ip_nx_iff
theorem f59_200 : ip_fetch 59 200 = some (.ifCond .ne 20, 3) := by decide +kernel
theorem s59_200 {x0 : Nat} {x1 : Int32} {x2 : Int32} {x3 : Option Value} {s0 : Int32} : ip_WP 59 200 [some (.ref x0), some (.int x1), some (.int x2), x3] [.int s0] (G, F, I, J) b post px ↔ if ¬ s0 = 0 then ip_WP 59 220 [some (.ref x0), some (.int x1), some (.int x2), x3] [] (G, F, I, J) b post px else ip_WP 59 203 [some (.ref x0), some (.int x1), some (.int x2), x3] [] (G, F, I, J) b post px := ip_s_if_ne f59_200 rfl
theorem f59_203 : ip_fetch 59 203 = some (.aload_n 0, 1) := by decide +kernel
theorem s59_203 {x0 : Nat} {x1 : Int32} {x2 : Int32} {x3 : Option Value} : ip_WP 59 203 [some (.ref x0), some (.int x1), some (.int x2), x3] [] (G, F, I, J) b post px ↔ ip_WP 59 204 [some (.ref x0), some (.int x1), some (.int x2), x3] [.ref x0] (G, F, I, J) b post px := ip_nx_iff ((ip_st_of f59_203).trans rfl)
theorem f59_204 : ip_fetch 59 204 = some (.getfield 53, 3) := by decide +kernel
set_option maxRecDepth 100000 in
theorem s59_204 {x0 : Nat} {x1 : Int32} {x2 : Int32} {x3 : Option Value} {s0 : Nat} : ip_WP 59 204 [some (.ref x0), some (.int x1), some (.int x2), x3] [.ref s0] (G, F, I, J) b post px ↔ (ip_isO G s0 1 = true ∧ ip_WP 59 207 [some (.ref x0), some (.int x1), some (.int x2), x3] [F s0 22] (G, F, I, J) b post px) := ip_s_getf f59_204 (by decide +kernel)
theorem f59_207 : ip_fetch 59 207 = some (.iconst 2, 1) := by decide +kernel
theorem s59_207 {x0 : Nat} {x1 : Int32} {x2 : Int32} {x3 : Option Value} {s0 : Nat} : ip_WP 59 207 [some (.ref x0), some (.int x1), some (.int x2), x3] [.ref s0] (G, F, I, J) b post px ↔ ip_WP 59 208 [some (.ref x0), some (.int x1), some (.int x2), x3] [.int 2, .ref s0] (G, F, I, J) b post px := ip_s_iconst f59_207 (by decide)
theorem f59_208 : ip_fetch 59 208 = some (.iaload, 1) := by decide +kernel
theorem s59_208 {x0 : Nat} {x1 : Int32} {x2 : Int32} {x3 : Option Value} {s0 : Nat} {s1 : Int32} : ip_WP 59 208 [some (.ref x0), some (.int x1), some (.int x2), x3] [.int s1, .ref s0] (G, F, I, J) b post px ↔ (ip_inA G s0 0 s1 = true ∧ ip_WP 59 209 [some (.ref x0), some (.int x1), some (.int x2), x3] [.int (I s0 s1.toNatClampNeg)] (G, F, I, J) b post px) := ip_ck_iff ((ip_st_of f59_208).trans rfl) ip_nx_iff
theorem f59_209 : ip_fetch 59 209 = some (.ifCond .lt 11, 3) := by decide +kernel
theorem s59_209 {x0 : Nat} {x1 : Int32} {x2 : Int32} {x3 : Option Value} {s0 : Int32} : ip_WP 59 209 [some (.ref x0), some (.int x1), some (.int x2), x3] [.int s0] (G, F, I, J) b post px ↔ if s0 < 0 then ip_WP 59 220 [some (.ref x0), some (.int x1), some (.int x2), x3] [] (G, F, I, J) b post px else ip_WP 59 212 [some (.ref x0), some (.int x1), some (.int x2), x3] [] (G, F, I, J) b post px := ip_s_if_lt f59_209 rfl
theorem f59_212 : ip_fetch 59 212 = some (.iload_n 1, 1) := by decide +kernel
theorem s59_212 {x0 : Nat} {x1 : Int32} {x2 : Int32} {x3 : Option Value} : ip_WP 59 212 [some (.ref x0), some (.int x1), some (.int x2), x3] [] (G, F, I, J) b post px ↔ ip_WP 59 213 [some (.ref x0), some (.int x1), some (.int x2), x3] [.int x1] (G, F, I, J) b post px := ip_nx_iff ((ip_st_of f59_212).trans rfl)
theorem f59_213 : ip_fetch 59 213 = some (.ifCond .lt 7, 3) := by decide +kernel
theorem s59_213 {x0 : Nat} {x1 : Int32} {x2 : Int32} {x3 : Option Value} {s0 : Int32} : ip_WP 59 213 [some (.ref x0), some (.int x1), some (.int x2), x3] [.int s0] (G, F, I, J) b post px ↔ if s0 < 0 then ip_WP 59 220 [some (.ref x0), some (.int x1), some (.int x2), x3] [] (G, F, I, J) b post px else ip_WP 59 216 [some (.ref x0), some (.int x1), some (.int x2), x3] [] (G, F, I, J) b post px := ip_s_if_lt f59_213 rfl
theorem f59_216 : ip_fetch 59 216 = some (.iconst 1, 1) := by decide +kernel
theorem s59_216 {x0 : Nat} {x1 : Int32} {x2 : Int32} {x3 : Option Value} : ip_WP 59 216 [some (.ref x0), some (.int x1), some (.int x2), x3] [] (G, F, I, J) b post px ↔ ip_WP 59 217 [some (.ref x0), some (.int x1), some (.int x2), x3] [.int 1] (G, F, I, J) b post px := ip_s_iconst f59_216 (by decide)
theorem f59_217 : ip_fetch 59 217 = some (.goto 4, 3) := by decide +kernel
theorem s59_217 {x0 : Nat} {x1 : Int32} {x2 : Int32} {x3 : Option Value} {s0 : Int32} : ip_WP 59 217 [some (.ref x0), some (.int x1), some (.int x2), x3] [.int s0] (G, F, I, J) b post px ↔ ip_WP 59 221 [some (.ref x0), some (.int x1), some (.int x2), x3] [.int s0] (G, F, I, J) b post px := ip_nx_iff ((ip_st_of f59_217).trans rfl)
theorem f59_220 : ip_fetch 59 220 = some (.iconst 0, 1) := by decide +kernel
theorem s59_220 {x0 : Nat} {x1 : Int32} {x2 : Int32} {x3 : Option Value} : ip_WP 59 220 [some (.ref x0), some (.int x1), some (.int x2), x3] [] (G, F, I, J) b post px ↔ ip_WP 59 221 [some (.ref x0), some (.int x1), some (.int x2), x3] [.int 0] (G, F, I, J) b post px := ip_s_iconst f59_220 (by decide)
theorem f59_221 : ip_fetch 59 221 = some (.istore_n 3, 1) := by decide +kernel
theorem s59_221 {x0 : Nat} {x1 : Int32} {x2 : Int32} {x3 : Option Value} {s0 : Int32} : ip_WP 59 221 [some (.ref x0), some (.int x1), some (.int x2), x3] [.int s0] (G, F, I, J) b post px ↔ ip_WP 59 222 [some (.ref x0), some (.int x1), some (.int x2), some (.int s0)] [] (G, F, I, J) b post px := ip_nx_iff ((ip_st_of f59_221).trans rfl)
theorem f59_222 : ip_fetch 59 222 = some (.iload_n 3, 1) := by decide +kernel
theorem s59_222 {x0 : Nat} {x1 : Int32} {x2 : Int32} {x3 : Int32} : ip_WP 59 222 [some (.ref x0), some (.int x1), some (.int x2), some (.int x3)] [] (G, F, I, J) b post px ↔ ip_WP 59 223 [some (.ref x0), some (.int x1), some (.int x2), some (.int x3)] [.int x3] (G, F, I, J) b post px := ip_nx_iff ((ip_st_of f59_222).trans rfl)
theorem f59_223 : ip_fetch 59 223 = some (.ifCond .eq 23, 3) := by decide +kernel
theorem s59_223 {x0 : Nat} {x1 : Int32} {x2 : Int32} {x3 : Int32} {s0 : Int32} : ip_WP 59 223 [some (.ref x0), some (.int x1), some (.int x2), some (.int x3)] [.int s0] (G, F, I, J) b post px ↔ if s0 = 0 then ip_WP 59 246 [some (.ref x0), some (.int x1), some (.int x2), some (.int x3)] [] (G, F, I, J) b post px else ip_WP 59 226 [some (.ref x0), some (.int x1), some (.int x2), some (.int x3)] [] (G, F, I, J) b post px := ip_s_if_eq f59_223 rfl
theorem f59_226 : ip_fetch 59 226 = some (.aload_n 0, 1) := by decide +kernel
theorem s59_226 {x0 : Nat} {x1 : Int32} {x2 : Int32} {x3 : Int32} : ip_WP 59 226 [some (.ref x0), some (.int x1), some (.int x2), some (.int x3)] [] (G, F, I, J) b post px ↔ ip_WP 59 227 [some (.ref x0), some (.int x1), some (.int x2), some (.int x3)] [.ref x0] (G, F, I, J) b post px := ip_nx_iff ((ip_st_of f59_226).trans rfl)
theorem f59_227 : ip_fetch 59 227 = some (.aload_n 0, 1) := by decide +kernel
theorem s59_227 {x0 : Nat} {x1 : Int32} {x2 : Int32} {x3 : Int32} {s0 : Nat} : ip_WP 59 227 [some (.ref x0), some (.int x1), some (.int x2), some (.int x3)] [.ref s0] (G, F, I, J) b post px ↔ ip_WP 59 228 [some (.ref x0), some (.int x1), some (.int x2), some (.int x3)] [.ref x0, .ref s0] (G, F, I, J) b post px := ip_nx_iff ((ip_st_of f59_227).trans rfl)
theorem f59_228 : ip_fetch 59 228 = some (.getfield 47, 3) := by decide +kernel
set_option maxRecDepth 100000 in
theorem s59_228 {x0 : Nat} {x1 : Int32} {x2 : Int32} {x3 : Int32} {s0 : Nat} {s1 : Nat} : ip_WP 59 228 [some (.ref x0), some (.int x1), some (.int x2), some (.int x3)] [.ref s1, .ref s0] (G, F, I, J) b post px ↔ (ip_isO G s1 1 = true ∧ ip_WP 59 231 [some (.ref x0), some (.int x1), some (.int x2), some (.int x3)] [F s1 20, .ref s0] (G, F, I, J) b post px) := ip_s_getf f59_228 (by decide +kernel)
theorem f59_231 : ip_fetch 59 231 = some (.iload_n 2, 1) := by decide +kernel
theorem s59_231 {x0 : Nat} {x1 : Int32} {x2 : Int32} {x3 : Int32} {s0 : Nat} {s1 : Nat} : ip_WP 59 231 [some (.ref x0), some (.int x1), some (.int x2), some (.int x3)] [.ref s1, .ref s0] (G, F, I, J) b post px ↔ ip_WP 59 232 [some (.ref x0), some (.int x1), some (.int x2), some (.int x3)] [.int x2, .ref s1, .ref s0] (G, F, I, J) b post px := ip_nx_iff ((ip_st_of f59_231).trans rfl)
theorem f59_232 : ip_fetch 59 232 = some (.iaload, 1) := by decide +kernel
theorem s59_232 {x0 : Nat} {x1 : Int32} {x2 : Int32} {x3 : Int32} {s0 : Nat} {s1 : Nat} {s2 : Int32} : ip_WP 59 232 [some (.ref x0), some (.int x1), some (.int x2), some (.int x3)] [.int s2, .ref s1, .ref s0] (G, F, I, J) b post px ↔ (ip_inA G s1 0 s2 = true ∧ ip_WP 59 233 [some (.ref x0), some (.int x1), some (.int x2), some (.int x3)] [.int (I s1 s2.toNatClampNeg), .ref s0] (G, F, I, J) b post px) := ip_ck_iff ((ip_st_of f59_232).trans rfl) ip_nx_iff
theorem f59_233 : ip_fetch 59 233 = some (.iload_n 1, 1) := by decide +kernel
theorem s59_233 {x0 : Nat} {x1 : Int32} {x2 : Int32} {x3 : Int32} {s0 : Nat} {s1 : Int32} : ip_WP 59 233 [some (.ref x0), some (.int x1), some (.int x2), some (.int x3)] [.int s1, .ref s0] (G, F, I, J) b post px ↔ ip_WP 59 234 [some (.ref x0), some (.int x1), some (.int x2), some (.int x3)] [.int x1, .int s1, .ref s0] (G, F, I, J) b post px := ip_nx_iff ((ip_st_of f59_233).trans rfl)
theorem f59_234 : ip_fetch 59 234 = some (.invokevirtual 188, 3) := by decide +kernel
set_option maxRecDepth 100000 in
theorem s59_234 {x0 : Nat} {x1 : Int32} {x2 : Int32} {x3 : Int32} {s0 : Nat} {s1 : Int32} {s2 : Int32} : ip_WP 59 234 [some (.ref x0), some (.int x1), some (.int x2), some (.int x3)] [.int s2, .int s1, .ref s0] (G, F, I, J) b post px ↔ (ip_isO G s0 1 = true ∧ ip_WP 47 0 [some (.ref s0), some (.int s1), some (.int s2), none, none] [] (G, F, I, J) (0, 0) (fun r h' => ip_WP 59 237 [some (.ref x0), some (.int x1), some (.int x2), some (.int x3)] (r.toList ++ []) h' b post px) (fun _ _ => False)) := ip_ck_iff (x := ip_cl 47 [some (.ref s0), some (.int s1), some (.int s2), none, none] [] (0, 0) b) ((ip_st_of f59_234).trans rfl) (ip_cl_iff)
theorem f59_237 : ip_fetch 59 237 = some (.ifCond .ne 9, 3) := by decide +kernel
theorem s59_237 {x0 : Nat} {x1 : Int32} {x2 : Int32} {x3 : Int32} {s0 : Int32} : ip_WP 59 237 [some (.ref x0), some (.int x1), some (.int x2), some (.int x3)] [.int s0] (G, F, I, J) b post px ↔ if ¬ s0 = 0 then ip_WP 59 246 [some (.ref x0), some (.int x1), some (.int x2), some (.int x3)] [] (G, F, I, J) b post px else ip_WP 59 240 [some (.ref x0), some (.int x1), some (.int x2), some (.int x3)] [] (G, F, I, J) b post px := ip_s_if_ne f59_237 rfl
theorem f59_240 : ip_fetch 59 240 = some (.aload_n 0, 1) := by decide +kernel
theorem s59_240 {x0 : Nat} {x1 : Int32} {x2 : Int32} {x3 : Int32} : ip_WP 59 240 [some (.ref x0), some (.int x1), some (.int x2), some (.int x3)] [] (G, F, I, J) b post px ↔ ip_WP 59 241 [some (.ref x0), some (.int x1), some (.int x2), some (.int x3)] [.ref x0] (G, F, I, J) b post px := ip_nx_iff ((ip_st_of f59_240).trans rfl)
theorem f59_241 : ip_fetch 59 241 = some (.iconst 5, 1) := by decide +kernel
theorem s59_241 {x0 : Nat} {x1 : Int32} {x2 : Int32} {x3 : Int32} {s0 : Nat} : ip_WP 59 241 [some (.ref x0), some (.int x1), some (.int x2), some (.int x3)] [.ref s0] (G, F, I, J) b post px ↔ ip_WP 59 242 [some (.ref x0), some (.int x1), some (.int x2), some (.int x3)] [.int 5, .ref s0] (G, F, I, J) b post px := ip_s_iconst f59_241 (by decide)
theorem f59_242 : ip_fetch 59 242 = some (.iload_n 2, 1) := by decide +kernel
theorem s59_242 {x0 : Nat} {x1 : Int32} {x2 : Int32} {x3 : Int32} {s0 : Nat} {s1 : Int32} : ip_WP 59 242 [some (.ref x0), some (.int x1), some (.int x2), some (.int x3)] [.int s1, .ref s0] (G, F, I, J) b post px ↔ ip_WP 59 243 [some (.ref x0), some (.int x1), some (.int x2), some (.int x3)] [.int x2, .int s1, .ref s0] (G, F, I, J) b post px := ip_nx_iff ((ip_st_of f59_242).trans rfl)
theorem f59_243 : ip_fetch 59 243 = some (.invokevirtual 234, 3) := by decide +kernel
set_option maxRecDepth 100000 in
theorem s59_243 {x0 : Nat} {x1 : Int32} {x2 : Int32} {x3 : Int32} {s0 : Nat} {s1 : Int32} {s2 : Int32} : ip_WP 59 243 [some (.ref x0), some (.int x1), some (.int x2), some (.int x3)] [.int s2, .int s1, .ref s0] (G, F, I, J) b post px ↔ (ip_isO G s0 1 = true ∧ ip_WP 56 0 [some (.ref s0), some (.int s1), some (.int s2)] [] (G, F, I, J) (0, 0) (fun r h' => ip_WP 59 246 [some (.ref x0), some (.int x1), some (.int x2), some (.int x3)] (r.toList ++ []) h' b post px) (fun _ _ => False)) := ip_ck_iff (x := ip_cl 56 [some (.ref s0), some (.int s1), some (.int s2)] [] (0, 0) b) ((ip_st_of f59_243).trans rfl) (ip_cl_iff)
theorem f59_246 : ip_fetch 59 246 = some (.iinc 2 1, 3) := by decide +kernel
theorem s59_246 {x0 : Nat} {x1 : Int32} {x2 : Int32} {x3 : Int32} : ip_WP 59 246 [some (.ref x0), some (.int x1), some (.int x2), some (.int x3)] [] (G, F, I, J) b post px ↔ ip_WP 59 249 [some (.ref x0), some (.int x1), some (.int (x2 + 1)), some (.int x3)] [] (G, F, I, J) b post px := ip_s_iinc f59_246 rfl (by decide)
theorem f59_249 : ip_fetch 59 249 = some (.goto (-74), 3) := by decide +kernel
theorem s59_249 {x0 : Nat} {x1 : Int32} {x2 : Int32} {x3 : Int32} : ip_WP 59 249 [some (.ref x0), some (.int x1), some (.int x2), some (.int x3)] [] (G, F, I, J) b post px ↔ ip_WP 59 175 [some (.ref x0), some (.int x1), some (.int x2), some (.int x3)] [] (G, F, I, J) b post px := ip_nx_iff ((ip_st_of f59_249).trans rfl)
theorem f59_252 : ip_fetch 59 252 = some (.return_, 1) := by decide +kernel
theorem s59_252 {x0 : Nat} {x1 : Int32} {x2 : Int32} {x3 : Option Value} : ip_WP 59 252 [some (.ref x0), some (.int x1), some (.int x2), x3] [] (G, F, I, J) b post px ↔ post none (G, F, I, J) := ip_rt_iff ((ip_st_of f59_252).trans rfl)
theorem f60_0 : ip_fetch 60 0 = some (.iconst 0, 1) := by decide +kernel
theorem s60_0 {x0 : Nat} {x1 : Int32} {x2 : Option Value} {x3 : Option Value} : ip_WP 60 0 [some (.ref x0), some (.int x1), x2, x3] [] (G, F, I, J) b post px ↔ ip_WP 60 1 [some (.ref x0), some (.int x1), x2, x3] [.int 0] (G, F, I, J) b post px := ip_s_iconst f60_0 (by decide)
theorem f60_1 : ip_fetch 60 1 = some (.istore_n 2, 1) := by decide +kernel
theorem s60_1 {x0 : Nat} {x1 : Int32} {x2 : Option Value} {x3 : Option Value} {s0 : Int32} : ip_WP 60 1 [some (.ref x0), some (.int x1), x2, x3] [.int s0] (G, F, I, J) b post px ↔ ip_WP 60 2 [some (.ref x0), some (.int x1), some (.int s0), x3] [] (G, F, I, J) b post px := ip_nx_iff ((ip_st_of f60_1).trans rfl)
theorem f60_2 : ip_fetch 60 2 = some (.iconst 0, 1) := by decide +kernel
theorem s60_2 {x0 : Nat} {x1 : Int32} {x2 : Int32} {x3 : Option Value} : ip_WP 60 2 [some (.ref x0), some (.int x1), some (.int x2), x3] [] (G, F, I, J) b post px ↔ ip_WP 60 3 [some (.ref x0), some (.int x1), some (.int x2), x3] [.int 0] (G, F, I, J) b post px := ip_s_iconst f60_2 (by decide)
theorem f60_3 : ip_fetch 60 3 = some (.istore_n 3, 1) := by decide +kernel
theorem s60_3 {x0 : Nat} {x1 : Int32} {x2 : Int32} {x3 : Option Value} {s0 : Int32} : ip_WP 60 3 [some (.ref x0), some (.int x1), some (.int x2), x3] [.int s0] (G, F, I, J) b post px ↔ ip_WP 60 4 [some (.ref x0), some (.int x1), some (.int x2), some (.int s0)] [] (G, F, I, J) b post px := ip_nx_iff ((ip_st_of f60_3).trans rfl)
theorem f60_4 : ip_fetch 60 4 = some (.iload_n 3, 1) := by decide +kernel
theorem s60_4 {x0 : Nat} {x1 : Int32} {x2 : Int32} {x3 : Int32} : ip_WP 60 4 [some (.ref x0), some (.int x1), some (.int x2), some (.int x3)] [] (G, F, I, J) b post px ↔ ip_WP 60 5 [some (.ref x0), some (.int x1), some (.int x2), some (.int x3)] [.int x3] (G, F, I, J) b post px := ip_nx_iff ((ip_st_of f60_4).trans rfl)
theorem f60_5 : ip_fetch 60 5 = some (.aload_n 0, 1) := by decide +kernel
theorem s60_5 {x0 : Nat} {x1 : Int32} {x2 : Int32} {x3 : Int32} {s0 : Int32} : ip_WP 60 5 [some (.ref x0), some (.int x1), some (.int x2), some (.int x3)] [.int s0] (G, F, I, J) b post px ↔ ip_WP 60 6 [some (.ref x0), some (.int x1), some (.int x2), some (.int x3)] [.ref x0, .int s0] (G, F, I, J) b post px := ip_nx_iff ((ip_st_of f60_5).trans rfl)
theorem f60_6 : ip_fetch 60 6 = some (.getfield 34, 3) := by decide +kernel
set_option maxRecDepth 100000 in
theorem s60_6 {x0 : Nat} {x1 : Int32} {x2 : Int32} {x3 : Int32} {s0 : Int32} {s1 : Nat} : ip_WP 60 6 [some (.ref x0), some (.int x1), some (.int x2), some (.int x3)] [.ref s1, .int s0] (G, F, I, J) b post px ↔ (ip_isO G s1 1 = true ∧ ip_WP 60 9 [some (.ref x0), some (.int x1), some (.int x2), some (.int x3)] [F s1 16, .int s0] (G, F, I, J) b post px) := ip_s_getf f60_6 (by decide +kernel)
theorem f60_9 : ip_fetch 60 9 = some (.iconst 0, 1) := by decide +kernel
theorem s60_9 {x0 : Nat} {x1 : Int32} {x2 : Int32} {x3 : Int32} {s0 : Int32} {s1 : Nat} : ip_WP 60 9 [some (.ref x0), some (.int x1), some (.int x2), some (.int x3)] [.ref s1, .int s0] (G, F, I, J) b post px ↔ ip_WP 60 10 [some (.ref x0), some (.int x1), some (.int x2), some (.int x3)] [.int 0, .ref s1, .int s0] (G, F, I, J) b post px := ip_s_iconst f60_9 (by decide)
theorem f60_10 : ip_fetch 60 10 = some (.iaload, 1) := by decide +kernel
theorem s60_10 {x0 : Nat} {x1 : Int32} {x2 : Int32} {x3 : Int32} {s0 : Int32} {s1 : Nat} {s2 : Int32} : ip_WP 60 10 [some (.ref x0), some (.int x1), some (.int x2), some (.int x3)] [.int s2, .ref s1, .int s0] (G, F, I, J) b post px ↔ (ip_inA G s1 0 s2 = true ∧ ip_WP 60 11 [some (.ref x0), some (.int x1), some (.int x2), some (.int x3)] [.int (I s1 s2.toNatClampNeg), .int s0] (G, F, I, J) b post px) := ip_ck_iff ((ip_st_of f60_10).trans rfl) ip_nx_iff
theorem f60_11 : ip_fetch 60 11 = some (.if_icmp .ge 29, 3) := by decide +kernel
theorem s60_11 {x0 : Nat} {x1 : Int32} {x2 : Int32} {x3 : Int32} {s0 : Int32} {s1 : Int32} : ip_WP 60 11 [some (.ref x0), some (.int x1), some (.int x2), some (.int x3)] [.int s1, .int s0] (G, F, I, J) b post px ↔ if s1 ≤ s0 then ip_WP 60 40 [some (.ref x0), some (.int x1), some (.int x2), some (.int x3)] [] (G, F, I, J) b post px else ip_WP 60 14 [some (.ref x0), some (.int x1), some (.int x2), some (.int x3)] [] (G, F, I, J) b post px := ip_s_ic_ge f60_11 rfl
theorem f60_14 : ip_fetch 60 14 = some (.iload_n 2, 1) := by decide +kernel
theorem s60_14 {x0 : Nat} {x1 : Int32} {x2 : Int32} {x3 : Int32} : ip_WP 60 14 [some (.ref x0), some (.int x1), some (.int x2), some (.int x3)] [] (G, F, I, J) b post px ↔ ip_WP 60 15 [some (.ref x0), some (.int x1), some (.int x2), some (.int x3)] [.int x2] (G, F, I, J) b post px := ip_nx_iff ((ip_st_of f60_14).trans rfl)
theorem f60_15 : ip_fetch 60 15 = some (.ifCond .ne 13, 3) := by decide +kernel
theorem s60_15 {x0 : Nat} {x1 : Int32} {x2 : Int32} {x3 : Int32} {s0 : Int32} : ip_WP 60 15 [some (.ref x0), some (.int x1), some (.int x2), some (.int x3)] [.int s0] (G, F, I, J) b post px ↔ if ¬ s0 = 0 then ip_WP 60 28 [some (.ref x0), some (.int x1), some (.int x2), some (.int x3)] [] (G, F, I, J) b post px else ip_WP 60 18 [some (.ref x0), some (.int x1), some (.int x2), some (.int x3)] [] (G, F, I, J) b post px := ip_s_if_ne f60_15 rfl
theorem f60_18 : ip_fetch 60 18 = some (.aload_n 0, 1) := by decide +kernel
theorem s60_18 {x0 : Nat} {x1 : Int32} {x2 : Int32} {x3 : Int32} : ip_WP 60 18 [some (.ref x0), some (.int x1), some (.int x2), some (.int x3)] [] (G, F, I, J) b post px ↔ ip_WP 60 19 [some (.ref x0), some (.int x1), some (.int x2), some (.int x3)] [.ref x0] (G, F, I, J) b post px := ip_nx_iff ((ip_st_of f60_18).trans rfl)
theorem f60_19 : ip_fetch 60 19 = some (.getfield 47, 3) := by decide +kernel
set_option maxRecDepth 100000 in
theorem s60_19 {x0 : Nat} {x1 : Int32} {x2 : Int32} {x3 : Int32} {s0 : Nat} : ip_WP 60 19 [some (.ref x0), some (.int x1), some (.int x2), some (.int x3)] [.ref s0] (G, F, I, J) b post px ↔ (ip_isO G s0 1 = true ∧ ip_WP 60 22 [some (.ref x0), some (.int x1), some (.int x2), some (.int x3)] [F s0 20] (G, F, I, J) b post px) := ip_s_getf f60_19 (by decide +kernel)
theorem f60_22 : ip_fetch 60 22 = some (.iload_n 3, 1) := by decide +kernel
theorem s60_22 {x0 : Nat} {x1 : Int32} {x2 : Int32} {x3 : Int32} {s0 : Nat} : ip_WP 60 22 [some (.ref x0), some (.int x1), some (.int x2), some (.int x3)] [.ref s0] (G, F, I, J) b post px ↔ ip_WP 60 23 [some (.ref x0), some (.int x1), some (.int x2), some (.int x3)] [.int x3, .ref s0] (G, F, I, J) b post px := ip_nx_iff ((ip_st_of f60_22).trans rfl)
theorem f60_23 : ip_fetch 60 23 = some (.iaload, 1) := by decide +kernel
theorem s60_23 {x0 : Nat} {x1 : Int32} {x2 : Int32} {x3 : Int32} {s0 : Nat} {s1 : Int32} : ip_WP 60 23 [some (.ref x0), some (.int x1), some (.int x2), some (.int x3)] [.int s1, .ref s0] (G, F, I, J) b post px ↔ (ip_inA G s0 0 s1 = true ∧ ip_WP 60 24 [some (.ref x0), some (.int x1), some (.int x2), some (.int x3)] [.int (I s0 s1.toNatClampNeg)] (G, F, I, J) b post px) := ip_ck_iff ((ip_st_of f60_23).trans rfl) ip_nx_iff
theorem f60_24 : ip_fetch 60 24 = some (.iload_n 1, 1) := by decide +kernel
theorem s60_24 {x0 : Nat} {x1 : Int32} {x2 : Int32} {x3 : Int32} {s0 : Int32} : ip_WP 60 24 [some (.ref x0), some (.int x1), some (.int x2), some (.int x3)] [.int s0] (G, F, I, J) b post px ↔ ip_WP 60 25 [some (.ref x0), some (.int x1), some (.int x2), some (.int x3)] [.int x1, .int s0] (G, F, I, J) b post px := ip_nx_iff ((ip_st_of f60_24).trans rfl)
theorem f60_25 : ip_fetch 60 25 = some (.if_icmp .ne 7, 3) := by decide +kernel
theorem s60_25 {x0 : Nat} {x1 : Int32} {x2 : Int32} {x3 : Int32} {s0 : Int32} {s1 : Int32} : ip_WP 60 25 [some (.ref x0), some (.int x1), some (.int x2), some (.int x3)] [.int s1, .int s0] (G, F, I, J) b post px ↔ if ¬ s0 = s1 then ip_WP 60 32 [some (.ref x0), some (.int x1), some (.int x2), some (.int x3)] [] (G, F, I, J) b post px else ip_WP 60 28 [some (.ref x0), some (.int x1), some (.int x2), some (.int x3)] [] (G, F, I, J) b post px := ip_s_ic_ne f60_25 rfl
theorem f60_28 : ip_fetch 60 28 = some (.iconst 1, 1) := by decide +kernel
theorem s60_28 {x0 : Nat} {x1 : Int32} {x2 : Int32} {x3 : Int32} : ip_WP 60 28 [some (.ref x0), some (.int x1), some (.int x2), some (.int x3)] [] (G, F, I, J) b post px ↔ ip_WP 60 29 [some (.ref x0), some (.int x1), some (.int x2), some (.int x3)] [.int 1] (G, F, I, J) b post px := ip_s_iconst f60_28 (by decide)
theorem f60_29 : ip_fetch 60 29 = some (.goto 4, 3) := by decide +kernel
theorem s60_29 {x0 : Nat} {x1 : Int32} {x2 : Int32} {x3 : Int32} {s0 : Int32} : ip_WP 60 29 [some (.ref x0), some (.int x1), some (.int x2), some (.int x3)] [.int s0] (G, F, I, J) b post px ↔ ip_WP 60 33 [some (.ref x0), some (.int x1), some (.int x2), some (.int x3)] [.int s0] (G, F, I, J) b post px := ip_nx_iff ((ip_st_of f60_29).trans rfl)
theorem f60_32 : ip_fetch 60 32 = some (.iconst 0, 1) := by decide +kernel
theorem s60_32 {x0 : Nat} {x1 : Int32} {x2 : Int32} {x3 : Int32} : ip_WP 60 32 [some (.ref x0), some (.int x1), some (.int x2), some (.int x3)] [] (G, F, I, J) b post px ↔ ip_WP 60 33 [some (.ref x0), some (.int x1), some (.int x2), some (.int x3)] [.int 0] (G, F, I, J) b post px := ip_s_iconst f60_32 (by decide)
theorem f60_33 : ip_fetch 60 33 = some (.istore_n 2, 1) := by decide +kernel
theorem s60_33 {x0 : Nat} {x1 : Int32} {x2 : Int32} {x3 : Int32} {s0 : Int32} : ip_WP 60 33 [some (.ref x0), some (.int x1), some (.int x2), some (.int x3)] [.int s0] (G, F, I, J) b post px ↔ ip_WP 60 34 [some (.ref x0), some (.int x1), some (.int s0), some (.int x3)] [] (G, F, I, J) b post px := ip_nx_iff ((ip_st_of f60_33).trans rfl)
theorem f60_34 : ip_fetch 60 34 = some (.iinc 3 1, 3) := by decide +kernel
theorem s60_34 {x0 : Nat} {x1 : Int32} {x2 : Int32} {x3 : Int32} : ip_WP 60 34 [some (.ref x0), some (.int x1), some (.int x2), some (.int x3)] [] (G, F, I, J) b post px ↔ ip_WP 60 37 [some (.ref x0), some (.int x1), some (.int x2), some (.int (x3 + 1))] [] (G, F, I, J) b post px := ip_s_iinc f60_34 rfl (by decide)
theorem f60_37 : ip_fetch 60 37 = some (.goto (-33), 3) := by decide +kernel
theorem s60_37 {x0 : Nat} {x1 : Int32} {x2 : Int32} {x3 : Int32} : ip_WP 60 37 [some (.ref x0), some (.int x1), some (.int x2), some (.int x3)] [] (G, F, I, J) b post px ↔ ip_WP 60 4 [some (.ref x0), some (.int x1), some (.int x2), some (.int x3)] [] (G, F, I, J) b post px := ip_nx_iff ((ip_st_of f60_37).trans rfl)
theorem f60_40 : ip_fetch 60 40 = some (.iload_n 2, 1) := by decide +kernel
theorem s60_40 {x0 : Nat} {x1 : Int32} {x2 : Int32} {x3 : Int32} : ip_WP 60 40 [some (.ref x0), some (.int x1), some (.int x2), some (.int x3)] [] (G, F, I, J) b post px ↔ ip_WP 60 41 [some (.ref x0), some (.int x1), some (.int x2), some (.int x3)] [.int x2] (G, F, I, J) b post px := ip_nx_iff ((ip_st_of f60_40).trans rfl)
theorem f60_41 : ip_fetch 60 41 = some (.ireturn, 1) := by decide +kernel
theorem s60_41 {x0 : Nat} {x1 : Int32} {x2 : Int32} {x3 : Int32} {s0 : Int32} : ip_WP 60 41 [some (.ref x0), some (.int x1), some (.int x2), some (.int x3)] [.int s0] (G, F, I, J) b post px ↔ ((s0 = 0 ∨ s0 = 1) ∧ post (some (.int s0)) (G, F, I, J)) := ip_s_zret ((ip_st_of f60_41).trans rfl)
theorem f61_0 : ip_fetch 61 0 = some (.iconst 1, 1) := by decide +kernel
theorem s61_0 {x0 : Nat} {x1 : Int32} {x2 : Option Value} {x3 : Option Value} : ip_WP 61 0 [some (.ref x0), some (.int x1), x2, x3] [] (G, F, I, J) b post px ↔ ip_WP 61 1 [some (.ref x0), some (.int x1), x2, x3] [.int 1] (G, F, I, J) b post px := ip_s_iconst f61_0 (by decide)
theorem f61_1 : ip_fetch 61 1 = some (.istore_n 2, 1) := by decide +kernel
theorem s61_1 {x0 : Nat} {x1 : Int32} {x2 : Option Value} {x3 : Option Value} {s0 : Int32} : ip_WP 61 1 [some (.ref x0), some (.int x1), x2, x3] [.int s0] (G, F, I, J) b post px ↔ ip_WP 61 2 [some (.ref x0), some (.int x1), some (.int s0), x3] [] (G, F, I, J) b post px := ip_nx_iff ((ip_st_of f61_1).trans rfl)
theorem f61_2 : ip_fetch 61 2 = some (.iconst 0, 1) := by decide +kernel
theorem s61_2 {x0 : Nat} {x1 : Int32} {x2 : Int32} {x3 : Option Value} : ip_WP 61 2 [some (.ref x0), some (.int x1), some (.int x2), x3] [] (G, F, I, J) b post px ↔ ip_WP 61 3 [some (.ref x0), some (.int x1), some (.int x2), x3] [.int 0] (G, F, I, J) b post px := ip_s_iconst f61_2 (by decide)
theorem f61_3 : ip_fetch 61 3 = some (.istore_n 3, 1) := by decide +kernel
theorem s61_3 {x0 : Nat} {x1 : Int32} {x2 : Int32} {x3 : Option Value} {s0 : Int32} : ip_WP 61 3 [some (.ref x0), some (.int x1), some (.int x2), x3] [.int s0] (G, F, I, J) b post px ↔ ip_WP 61 4 [some (.ref x0), some (.int x1), some (.int x2), some (.int s0)] [] (G, F, I, J) b post px := ip_nx_iff ((ip_st_of f61_3).trans rfl)
theorem f61_4 : ip_fetch 61 4 = some (.iload_n 3, 1) := by decide +kernel
theorem s61_4 {x0 : Nat} {x1 : Int32} {x2 : Int32} {x3 : Int32} : ip_WP 61 4 [some (.ref x0), some (.int x1), some (.int x2), some (.int x3)] [] (G, F, I, J) b post px ↔ ip_WP 61 5 [some (.ref x0), some (.int x1), some (.int x2), some (.int x3)] [.int x3] (G, F, I, J) b post px := ip_nx_iff ((ip_st_of f61_4).trans rfl)
theorem f61_5 : ip_fetch 61 5 = some (.bipush 7, 2) := by decide +kernel
theorem s61_5 {x0 : Nat} {x1 : Int32} {x2 : Int32} {x3 : Int32} {s0 : Int32} : ip_WP 61 5 [some (.ref x0), some (.int x1), some (.int x2), some (.int x3)] [.int s0] (G, F, I, J) b post px ↔ ip_WP 61 7 [some (.ref x0), some (.int x1), some (.int x2), some (.int x3)] [.int 7, .int s0] (G, F, I, J) b post px := ip_s_bipush f61_5 (by decide)
theorem f61_7 : ip_fetch 61 7 = some (.if_icmp .ge 29, 3) := by decide +kernel
theorem s61_7 {x0 : Nat} {x1 : Int32} {x2 : Int32} {x3 : Int32} {s0 : Int32} {s1 : Int32} : ip_WP 61 7 [some (.ref x0), some (.int x1), some (.int x2), some (.int x3)] [.int s1, .int s0] (G, F, I, J) b post px ↔ if s1 ≤ s0 then ip_WP 61 36 [some (.ref x0), some (.int x1), some (.int x2), some (.int x3)] [] (G, F, I, J) b post px else ip_WP 61 10 [some (.ref x0), some (.int x1), some (.int x2), some (.int x3)] [] (G, F, I, J) b post px := ip_s_ic_ge f61_7 rfl
theorem f61_10 : ip_fetch 61 10 = some (.iload_n 2, 1) := by decide +kernel
theorem s61_10 {x0 : Nat} {x1 : Int32} {x2 : Int32} {x3 : Int32} : ip_WP 61 10 [some (.ref x0), some (.int x1), some (.int x2), some (.int x3)] [] (G, F, I, J) b post px ↔ ip_WP 61 11 [some (.ref x0), some (.int x1), some (.int x2), some (.int x3)] [.int x2] (G, F, I, J) b post px := ip_nx_iff ((ip_st_of f61_10).trans rfl)
theorem f61_11 : ip_fetch 61 11 = some (.ifCond .eq 17, 3) := by decide +kernel
theorem s61_11 {x0 : Nat} {x1 : Int32} {x2 : Int32} {x3 : Int32} {s0 : Int32} : ip_WP 61 11 [some (.ref x0), some (.int x1), some (.int x2), some (.int x3)] [.int s0] (G, F, I, J) b post px ↔ if s0 = 0 then ip_WP 61 28 [some (.ref x0), some (.int x1), some (.int x2), some (.int x3)] [] (G, F, I, J) b post px else ip_WP 61 14 [some (.ref x0), some (.int x1), some (.int x2), some (.int x3)] [] (G, F, I, J) b post px := ip_s_if_eq f61_11 rfl
theorem f61_14 : ip_fetch 61 14 = some (.aload_n 0, 1) := by decide +kernel
theorem s61_14 {x0 : Nat} {x1 : Int32} {x2 : Int32} {x3 : Int32} : ip_WP 61 14 [some (.ref x0), some (.int x1), some (.int x2), some (.int x3)] [] (G, F, I, J) b post px ↔ ip_WP 61 15 [some (.ref x0), some (.int x1), some (.int x2), some (.int x3)] [.ref x0] (G, F, I, J) b post px := ip_nx_iff ((ip_st_of f61_14).trans rfl)
theorem f61_15 : ip_fetch 61 15 = some (.getfield 53, 3) := by decide +kernel
set_option maxRecDepth 100000 in
theorem s61_15 {x0 : Nat} {x1 : Int32} {x2 : Int32} {x3 : Int32} {s0 : Nat} : ip_WP 61 15 [some (.ref x0), some (.int x1), some (.int x2), some (.int x3)] [.ref s0] (G, F, I, J) b post px ↔ (ip_isO G s0 1 = true ∧ ip_WP 61 18 [some (.ref x0), some (.int x1), some (.int x2), some (.int x3)] [F s0 22] (G, F, I, J) b post px) := ip_s_getf f61_15 (by decide +kernel)
theorem f61_18 : ip_fetch 61 18 = some (.iload_n 3, 1) := by decide +kernel
theorem s61_18 {x0 : Nat} {x1 : Int32} {x2 : Int32} {x3 : Int32} {s0 : Nat} : ip_WP 61 18 [some (.ref x0), some (.int x1), some (.int x2), some (.int x3)] [.ref s0] (G, F, I, J) b post px ↔ ip_WP 61 19 [some (.ref x0), some (.int x1), some (.int x2), some (.int x3)] [.int x3, .ref s0] (G, F, I, J) b post px := ip_nx_iff ((ip_st_of f61_18).trans rfl)
theorem f61_19 : ip_fetch 61 19 = some (.iaload, 1) := by decide +kernel
theorem s61_19 {x0 : Nat} {x1 : Int32} {x2 : Int32} {x3 : Int32} {s0 : Nat} {s1 : Int32} : ip_WP 61 19 [some (.ref x0), some (.int x1), some (.int x2), some (.int x3)] [.int s1, .ref s0] (G, F, I, J) b post px ↔ (ip_inA G s0 0 s1 = true ∧ ip_WP 61 20 [some (.ref x0), some (.int x1), some (.int x2), some (.int x3)] [.int (I s0 s1.toNatClampNeg)] (G, F, I, J) b post px) := ip_ck_iff ((ip_st_of f61_19).trans rfl) ip_nx_iff
theorem f61_20 : ip_fetch 61 20 = some (.iload_n 1, 1) := by decide +kernel
theorem s61_20 {x0 : Nat} {x1 : Int32} {x2 : Int32} {x3 : Int32} {s0 : Int32} : ip_WP 61 20 [some (.ref x0), some (.int x1), some (.int x2), some (.int x3)] [.int s0] (G, F, I, J) b post px ↔ ip_WP 61 21 [some (.ref x0), some (.int x1), some (.int x2), some (.int x3)] [.int x1, .int s0] (G, F, I, J) b post px := ip_nx_iff ((ip_st_of f61_20).trans rfl)
theorem f61_21 : ip_fetch 61 21 = some (.if_icmp .eq 7, 3) := by decide +kernel
theorem s61_21 {x0 : Nat} {x1 : Int32} {x2 : Int32} {x3 : Int32} {s0 : Int32} {s1 : Int32} : ip_WP 61 21 [some (.ref x0), some (.int x1), some (.int x2), some (.int x3)] [.int s1, .int s0] (G, F, I, J) b post px ↔ if s0 = s1 then ip_WP 61 28 [some (.ref x0), some (.int x1), some (.int x2), some (.int x3)] [] (G, F, I, J) b post px else ip_WP 61 24 [some (.ref x0), some (.int x1), some (.int x2), some (.int x3)] [] (G, F, I, J) b post px := ip_s_ic_eq f61_21 rfl
theorem f61_24 : ip_fetch 61 24 = some (.iconst 1, 1) := by decide +kernel
theorem s61_24 {x0 : Nat} {x1 : Int32} {x2 : Int32} {x3 : Int32} : ip_WP 61 24 [some (.ref x0), some (.int x1), some (.int x2), some (.int x3)] [] (G, F, I, J) b post px ↔ ip_WP 61 25 [some (.ref x0), some (.int x1), some (.int x2), some (.int x3)] [.int 1] (G, F, I, J) b post px := ip_s_iconst f61_24 (by decide)
theorem f61_25 : ip_fetch 61 25 = some (.goto 4, 3) := by decide +kernel
theorem s61_25 {x0 : Nat} {x1 : Int32} {x2 : Int32} {x3 : Int32} {s0 : Int32} : ip_WP 61 25 [some (.ref x0), some (.int x1), some (.int x2), some (.int x3)] [.int s0] (G, F, I, J) b post px ↔ ip_WP 61 29 [some (.ref x0), some (.int x1), some (.int x2), some (.int x3)] [.int s0] (G, F, I, J) b post px := ip_nx_iff ((ip_st_of f61_25).trans rfl)
theorem f61_28 : ip_fetch 61 28 = some (.iconst 0, 1) := by decide +kernel
theorem s61_28 {x0 : Nat} {x1 : Int32} {x2 : Int32} {x3 : Int32} : ip_WP 61 28 [some (.ref x0), some (.int x1), some (.int x2), some (.int x3)] [] (G, F, I, J) b post px ↔ ip_WP 61 29 [some (.ref x0), some (.int x1), some (.int x2), some (.int x3)] [.int 0] (G, F, I, J) b post px := ip_s_iconst f61_28 (by decide)
theorem f61_29 : ip_fetch 61 29 = some (.istore_n 2, 1) := by decide +kernel
theorem s61_29 {x0 : Nat} {x1 : Int32} {x2 : Int32} {x3 : Int32} {s0 : Int32} : ip_WP 61 29 [some (.ref x0), some (.int x1), some (.int x2), some (.int x3)] [.int s0] (G, F, I, J) b post px ↔ ip_WP 61 30 [some (.ref x0), some (.int x1), some (.int s0), some (.int x3)] [] (G, F, I, J) b post px := ip_nx_iff ((ip_st_of f61_29).trans rfl)
theorem f61_30 : ip_fetch 61 30 = some (.iinc 3 1, 3) := by decide +kernel
theorem s61_30 {x0 : Nat} {x1 : Int32} {x2 : Int32} {x3 : Int32} : ip_WP 61 30 [some (.ref x0), some (.int x1), some (.int x2), some (.int x3)] [] (G, F, I, J) b post px ↔ ip_WP 61 33 [some (.ref x0), some (.int x1), some (.int x2), some (.int (x3 + 1))] [] (G, F, I, J) b post px := ip_s_iinc f61_30 rfl (by decide)
theorem f61_33 : ip_fetch 61 33 = some (.goto (-29), 3) := by decide +kernel
theorem s61_33 {x0 : Nat} {x1 : Int32} {x2 : Int32} {x3 : Int32} : ip_WP 61 33 [some (.ref x0), some (.int x1), some (.int x2), some (.int x3)] [] (G, F, I, J) b post px ↔ ip_WP 61 4 [some (.ref x0), some (.int x1), some (.int x2), some (.int x3)] [] (G, F, I, J) b post px := ip_nx_iff ((ip_st_of f61_33).trans rfl)
theorem f61_36 : ip_fetch 61 36 = some (.iconst 0, 1) := by decide +kernel
theorem s61_36 {x0 : Nat} {x1 : Int32} {x2 : Int32} {x3 : Int32} : ip_WP 61 36 [some (.ref x0), some (.int x1), some (.int x2), some (.int x3)] [] (G, F, I, J) b post px ↔ ip_WP 61 37 [some (.ref x0), some (.int x1), some (.int x2), some (.int x3)] [.int 0] (G, F, I, J) b post px := ip_s_iconst f61_36 (by decide)
theorem f61_37 : ip_fetch 61 37 = some (.istore_n 3, 1) := by decide +kernel
theorem s61_37 {x0 : Nat} {x1 : Int32} {x2 : Int32} {x3 : Int32} {s0 : Int32} : ip_WP 61 37 [some (.ref x0), some (.int x1), some (.int x2), some (.int x3)] [.int s0] (G, F, I, J) b post px ↔ ip_WP 61 38 [some (.ref x0), some (.int x1), some (.int x2), some (.int s0)] [] (G, F, I, J) b post px := ip_nx_iff ((ip_st_of f61_37).trans rfl)
theorem f61_38 : ip_fetch 61 38 = some (.iload_n 3, 1) := by decide +kernel
theorem s61_38 {x0 : Nat} {x1 : Int32} {x2 : Int32} {x3 : Int32} : ip_WP 61 38 [some (.ref x0), some (.int x1), some (.int x2), some (.int x3)] [] (G, F, I, J) b post px ↔ ip_WP 61 39 [some (.ref x0), some (.int x1), some (.int x2), some (.int x3)] [.int x3] (G, F, I, J) b post px := ip_nx_iff ((ip_st_of f61_38).trans rfl)
theorem f61_39 : ip_fetch 61 39 = some (.aload_n 0, 1) := by decide +kernel
theorem s61_39 {x0 : Nat} {x1 : Int32} {x2 : Int32} {x3 : Int32} {s0 : Int32} : ip_WP 61 39 [some (.ref x0), some (.int x1), some (.int x2), some (.int x3)] [.int s0] (G, F, I, J) b post px ↔ ip_WP 61 40 [some (.ref x0), some (.int x1), some (.int x2), some (.int x3)] [.ref x0, .int s0] (G, F, I, J) b post px := ip_nx_iff ((ip_st_of f61_39).trans rfl)
theorem f61_40 : ip_fetch 61 40 = some (.getfield 34, 3) := by decide +kernel
set_option maxRecDepth 100000 in
theorem s61_40 {x0 : Nat} {x1 : Int32} {x2 : Int32} {x3 : Int32} {s0 : Int32} {s1 : Nat} : ip_WP 61 40 [some (.ref x0), some (.int x1), some (.int x2), some (.int x3)] [.ref s1, .int s0] (G, F, I, J) b post px ↔ (ip_isO G s1 1 = true ∧ ip_WP 61 43 [some (.ref x0), some (.int x1), some (.int x2), some (.int x3)] [F s1 16, .int s0] (G, F, I, J) b post px) := ip_s_getf f61_40 (by decide +kernel)
theorem f61_43 : ip_fetch 61 43 = some (.iconst 2, 1) := by decide +kernel
theorem s61_43 {x0 : Nat} {x1 : Int32} {x2 : Int32} {x3 : Int32} {s0 : Int32} {s1 : Nat} : ip_WP 61 43 [some (.ref x0), some (.int x1), some (.int x2), some (.int x3)] [.ref s1, .int s0] (G, F, I, J) b post px ↔ ip_WP 61 44 [some (.ref x0), some (.int x1), some (.int x2), some (.int x3)] [.int 2, .ref s1, .int s0] (G, F, I, J) b post px := ip_s_iconst f61_43 (by decide)
theorem f61_44 : ip_fetch 61 44 = some (.iaload, 1) := by decide +kernel
theorem s61_44 {x0 : Nat} {x1 : Int32} {x2 : Int32} {x3 : Int32} {s0 : Int32} {s1 : Nat} {s2 : Int32} : ip_WP 61 44 [some (.ref x0), some (.int x1), some (.int x2), some (.int x3)] [.int s2, .ref s1, .int s0] (G, F, I, J) b post px ↔ (ip_inA G s1 0 s2 = true ∧ ip_WP 61 45 [some (.ref x0), some (.int x1), some (.int x2), some (.int x3)] [.int (I s1 s2.toNatClampNeg), .int s0] (G, F, I, J) b post px) := ip_ck_iff ((ip_st_of f61_44).trans rfl) ip_nx_iff
theorem f61_45 : ip_fetch 61 45 = some (.if_icmp .ge 29, 3) := by decide +kernel
theorem s61_45 {x0 : Nat} {x1 : Int32} {x2 : Int32} {x3 : Int32} {s0 : Int32} {s1 : Int32} : ip_WP 61 45 [some (.ref x0), some (.int x1), some (.int x2), some (.int x3)] [.int s1, .int s0] (G, F, I, J) b post px ↔ if s1 ≤ s0 then ip_WP 61 74 [some (.ref x0), some (.int x1), some (.int x2), some (.int x3)] [] (G, F, I, J) b post px else ip_WP 61 48 [some (.ref x0), some (.int x1), some (.int x2), some (.int x3)] [] (G, F, I, J) b post px := ip_s_ic_ge f61_45 rfl
theorem f61_48 : ip_fetch 61 48 = some (.iload_n 2, 1) := by decide +kernel
theorem s61_48 {x0 : Nat} {x1 : Int32} {x2 : Int32} {x3 : Int32} : ip_WP 61 48 [some (.ref x0), some (.int x1), some (.int x2), some (.int x3)] [] (G, F, I, J) b post px ↔ ip_WP 61 49 [some (.ref x0), some (.int x1), some (.int x2), some (.int x3)] [.int x2] (G, F, I, J) b post px := ip_nx_iff ((ip_st_of f61_48).trans rfl)
theorem f61_49 : ip_fetch 61 49 = some (.ifCond .eq 17, 3) := by decide +kernel
theorem s61_49 {x0 : Nat} {x1 : Int32} {x2 : Int32} {x3 : Int32} {s0 : Int32} : ip_WP 61 49 [some (.ref x0), some (.int x1), some (.int x2), some (.int x3)] [.int s0] (G, F, I, J) b post px ↔ if s0 = 0 then ip_WP 61 66 [some (.ref x0), some (.int x1), some (.int x2), some (.int x3)] [] (G, F, I, J) b post px else ip_WP 61 52 [some (.ref x0), some (.int x1), some (.int x2), some (.int x3)] [] (G, F, I, J) b post px := ip_s_if_eq f61_49 rfl
theorem f61_52 : ip_fetch 61 52 = some (.aload_n 0, 1) := by decide +kernel
theorem s61_52 {x0 : Nat} {x1 : Int32} {x2 : Int32} {x3 : Int32} : ip_WP 61 52 [some (.ref x0), some (.int x1), some (.int x2), some (.int x3)] [] (G, F, I, J) b post px ↔ ip_WP 61 53 [some (.ref x0), some (.int x1), some (.int x2), some (.int x3)] [.ref x0] (G, F, I, J) b post px := ip_nx_iff ((ip_st_of f61_52).trans rfl)
theorem f61_53 : ip_fetch 61 53 = some (.getfield 65, 3) := by decide +kernel
set_option maxRecDepth 100000 in
theorem s61_53 {x0 : Nat} {x1 : Int32} {x2 : Int32} {x3 : Int32} {s0 : Nat} : ip_WP 61 53 [some (.ref x0), some (.int x1), some (.int x2), some (.int x3)] [.ref s0] (G, F, I, J) b post px ↔ (ip_isO G s0 1 = true ∧ ip_WP 61 56 [some (.ref x0), some (.int x1), some (.int x2), some (.int x3)] [F s0 27] (G, F, I, J) b post px) := ip_s_getf f61_53 (by decide +kernel)
theorem f61_56 : ip_fetch 61 56 = some (.iload_n 3, 1) := by decide +kernel
theorem s61_56 {x0 : Nat} {x1 : Int32} {x2 : Int32} {x3 : Int32} {s0 : Nat} : ip_WP 61 56 [some (.ref x0), some (.int x1), some (.int x2), some (.int x3)] [.ref s0] (G, F, I, J) b post px ↔ ip_WP 61 57 [some (.ref x0), some (.int x1), some (.int x2), some (.int x3)] [.int x3, .ref s0] (G, F, I, J) b post px := ip_nx_iff ((ip_st_of f61_56).trans rfl)
theorem f61_57 : ip_fetch 61 57 = some (.iaload, 1) := by decide +kernel
theorem s61_57 {x0 : Nat} {x1 : Int32} {x2 : Int32} {x3 : Int32} {s0 : Nat} {s1 : Int32} : ip_WP 61 57 [some (.ref x0), some (.int x1), some (.int x2), some (.int x3)] [.int s1, .ref s0] (G, F, I, J) b post px ↔ (ip_inA G s0 0 s1 = true ∧ ip_WP 61 58 [some (.ref x0), some (.int x1), some (.int x2), some (.int x3)] [.int (I s0 s1.toNatClampNeg)] (G, F, I, J) b post px) := ip_ck_iff ((ip_st_of f61_57).trans rfl) ip_nx_iff
theorem f61_58 : ip_fetch 61 58 = some (.iload_n 1, 1) := by decide +kernel
theorem s61_58 {x0 : Nat} {x1 : Int32} {x2 : Int32} {x3 : Int32} {s0 : Int32} : ip_WP 61 58 [some (.ref x0), some (.int x1), some (.int x2), some (.int x3)] [.int s0] (G, F, I, J) b post px ↔ ip_WP 61 59 [some (.ref x0), some (.int x1), some (.int x2), some (.int x3)] [.int x1, .int s0] (G, F, I, J) b post px := ip_nx_iff ((ip_st_of f61_58).trans rfl)
theorem f61_59 : ip_fetch 61 59 = some (.if_icmp .eq 7, 3) := by decide +kernel
theorem s61_59 {x0 : Nat} {x1 : Int32} {x2 : Int32} {x3 : Int32} {s0 : Int32} {s1 : Int32} : ip_WP 61 59 [some (.ref x0), some (.int x1), some (.int x2), some (.int x3)] [.int s1, .int s0] (G, F, I, J) b post px ↔ if s0 = s1 then ip_WP 61 66 [some (.ref x0), some (.int x1), some (.int x2), some (.int x3)] [] (G, F, I, J) b post px else ip_WP 61 62 [some (.ref x0), some (.int x1), some (.int x2), some (.int x3)] [] (G, F, I, J) b post px := ip_s_ic_eq f61_59 rfl
theorem f61_62 : ip_fetch 61 62 = some (.iconst 1, 1) := by decide +kernel
theorem s61_62 {x0 : Nat} {x1 : Int32} {x2 : Int32} {x3 : Int32} : ip_WP 61 62 [some (.ref x0), some (.int x1), some (.int x2), some (.int x3)] [] (G, F, I, J) b post px ↔ ip_WP 61 63 [some (.ref x0), some (.int x1), some (.int x2), some (.int x3)] [.int 1] (G, F, I, J) b post px := ip_s_iconst f61_62 (by decide)
theorem f61_63 : ip_fetch 61 63 = some (.goto 4, 3) := by decide +kernel
theorem s61_63 {x0 : Nat} {x1 : Int32} {x2 : Int32} {x3 : Int32} {s0 : Int32} : ip_WP 61 63 [some (.ref x0), some (.int x1), some (.int x2), some (.int x3)] [.int s0] (G, F, I, J) b post px ↔ ip_WP 61 67 [some (.ref x0), some (.int x1), some (.int x2), some (.int x3)] [.int s0] (G, F, I, J) b post px := ip_nx_iff ((ip_st_of f61_63).trans rfl)
theorem f61_66 : ip_fetch 61 66 = some (.iconst 0, 1) := by decide +kernel
theorem s61_66 {x0 : Nat} {x1 : Int32} {x2 : Int32} {x3 : Int32} : ip_WP 61 66 [some (.ref x0), some (.int x1), some (.int x2), some (.int x3)] [] (G, F, I, J) b post px ↔ ip_WP 61 67 [some (.ref x0), some (.int x1), some (.int x2), some (.int x3)] [.int 0] (G, F, I, J) b post px := ip_s_iconst f61_66 (by decide)
theorem f61_67 : ip_fetch 61 67 = some (.istore_n 2, 1) := by decide +kernel
theorem s61_67 {x0 : Nat} {x1 : Int32} {x2 : Int32} {x3 : Int32} {s0 : Int32} : ip_WP 61 67 [some (.ref x0), some (.int x1), some (.int x2), some (.int x3)] [.int s0] (G, F, I, J) b post px ↔ ip_WP 61 68 [some (.ref x0), some (.int x1), some (.int s0), some (.int x3)] [] (G, F, I, J) b post px := ip_nx_iff ((ip_st_of f61_67).trans rfl)
theorem f61_68 : ip_fetch 61 68 = some (.iinc 3 1, 3) := by decide +kernel
theorem s61_68 {x0 : Nat} {x1 : Int32} {x2 : Int32} {x3 : Int32} : ip_WP 61 68 [some (.ref x0), some (.int x1), some (.int x2), some (.int x3)] [] (G, F, I, J) b post px ↔ ip_WP 61 71 [some (.ref x0), some (.int x1), some (.int x2), some (.int (x3 + 1))] [] (G, F, I, J) b post px := ip_s_iinc f61_68 rfl (by decide)
theorem f61_71 : ip_fetch 61 71 = some (.goto (-33), 3) := by decide +kernel
theorem s61_71 {x0 : Nat} {x1 : Int32} {x2 : Int32} {x3 : Int32} : ip_WP 61 71 [some (.ref x0), some (.int x1), some (.int x2), some (.int x3)] [] (G, F, I, J) b post px ↔ ip_WP 61 38 [some (.ref x0), some (.int x1), some (.int x2), some (.int x3)] [] (G, F, I, J) b post px := ip_nx_iff ((ip_st_of f61_71).trans rfl)
theorem f61_74 : ip_fetch 61 74 = some (.iload_n 2, 1) := by decide +kernel
theorem s61_74 {x0 : Nat} {x1 : Int32} {x2 : Int32} {x3 : Int32} : ip_WP 61 74 [some (.ref x0), some (.int x1), some (.int x2), some (.int x3)] [] (G, F, I, J) b post px ↔ ip_WP 61 75 [some (.ref x0), some (.int x1), some (.int x2), some (.int x3)] [.int x2] (G, F, I, J) b post px := ip_nx_iff ((ip_st_of f61_74).trans rfl)
theorem f61_75 : ip_fetch 61 75 = some (.ireturn, 1) := by decide +kernel
theorem s61_75 {x0 : Nat} {x1 : Int32} {x2 : Int32} {x3 : Int32} {s0 : Int32} : ip_WP 61 75 [some (.ref x0), some (.int x1), some (.int x2), some (.int x3)] [.int s0] (G, F, I, J) b post px ↔ ((s0 = 0 ∨ s0 = 1) ∧ post (some (.int s0)) (G, F, I, J)) := ip_s_zret ((ip_st_of f61_75).trans rfl)
theorem f62_0 : ip_fetch 62 0 = some (.aload_n 0, 1) := by decide +kernel
theorem s62_0 {x0 : Nat} {x1 : Option Value} : ip_WP 62 0 [some (.ref x0), x1] [] (G, F, I, J) b post px ↔ ip_WP 62 1 [some (.ref x0), x1] [.ref x0] (G, F, I, J) b post px := ip_nx_iff ((ip_st_of f62_0).trans rfl)
theorem f62_1 : ip_fetch 62 1 = some (.iconst 0, 1) := by decide +kernel
theorem s62_1 {x0 : Nat} {x1 : Option Value} {s0 : Nat} : ip_WP 62 1 [some (.ref x0), x1] [.ref s0] (G, F, I, J) b post px ↔ ip_WP 62 2 [some (.ref x0), x1] [.int 0, .ref s0] (G, F, I, J) b post px := ip_s_iconst f62_1 (by decide)
theorem f62_2 : ip_fetch 62 2 = some (.putfield 231, 3) := by decide +kernel
set_option maxRecDepth 100000 in
theorem s62_2 {x0 : Nat} {x1 : Option Value} {s0 : Nat} {s1 : Int32} : ip_WP 62 2 [some (.ref x0), x1] [.int s1, .ref s0] (G, F, I, J) b post px ↔ (ip_isO G s0 1 = true ∧ ip_WP 62 5 [some (.ref x0), x1] [] (G, ip_up F s0 30 (.int s1), I, J) b post px) := ip_s_put f62_2 (by decide +kernel) rfl
theorem f62_5 : ip_fetch 62 5 = some (.iconst 0, 1) := by decide +kernel
theorem s62_5 {x0 : Nat} {x1 : Option Value} : ip_WP 62 5 [some (.ref x0), x1] [] (G, F, I, J) b post px ↔ ip_WP 62 6 [some (.ref x0), x1] [.int 0] (G, F, I, J) b post px := ip_s_iconst f62_5 (by decide)
theorem f62_6 : ip_fetch 62 6 = some (.istore_n 1, 1) := by decide +kernel
theorem s62_6 {x0 : Nat} {x1 : Option Value} {s0 : Int32} : ip_WP 62 6 [some (.ref x0), x1] [.int s0] (G, F, I, J) b post px ↔ ip_WP 62 7 [some (.ref x0), some (.int s0)] [] (G, F, I, J) b post px := ip_nx_iff ((ip_st_of f62_6).trans rfl)
theorem f62_7 : ip_fetch 62 7 = some (.iload_n 1, 1) := by decide +kernel
theorem s62_7 {x0 : Nat} {x1 : Int32} : ip_WP 62 7 [some (.ref x0), some (.int x1)] [] (G, F, I, J) b post px ↔ ip_WP 62 8 [some (.ref x0), some (.int x1)] [.int x1] (G, F, I, J) b post px := ip_nx_iff ((ip_st_of f62_7).trans rfl)
theorem f62_8 : ip_fetch 62 8 = some (.aload_n 0, 1) := by decide +kernel
theorem s62_8 {x0 : Nat} {x1 : Int32} {s0 : Int32} : ip_WP 62 8 [some (.ref x0), some (.int x1)] [.int s0] (G, F, I, J) b post px ↔ ip_WP 62 9 [some (.ref x0), some (.int x1)] [.ref x0, .int s0] (G, F, I, J) b post px := ip_nx_iff ((ip_st_of f62_8).trans rfl)
theorem f62_9 : ip_fetch 62 9 = some (.getfield 34, 3) := by decide +kernel
set_option maxRecDepth 100000 in
theorem s62_9 {x0 : Nat} {x1 : Int32} {s0 : Int32} {s1 : Nat} : ip_WP 62 9 [some (.ref x0), some (.int x1)] [.ref s1, .int s0] (G, F, I, J) b post px ↔ (ip_isO G s1 1 = true ∧ ip_WP 62 12 [some (.ref x0), some (.int x1)] [F s1 16, .int s0] (G, F, I, J) b post px) := ip_s_getf f62_9 (by decide +kernel)
theorem f62_12 : ip_fetch 62 12 = some (.iconst 2, 1) := by decide +kernel
theorem s62_12 {x0 : Nat} {x1 : Int32} {s0 : Int32} {s1 : Nat} : ip_WP 62 12 [some (.ref x0), some (.int x1)] [.ref s1, .int s0] (G, F, I, J) b post px ↔ ip_WP 62 13 [some (.ref x0), some (.int x1)] [.int 2, .ref s1, .int s0] (G, F, I, J) b post px := ip_s_iconst f62_12 (by decide)
theorem f62_13 : ip_fetch 62 13 = some (.iaload, 1) := by decide +kernel
theorem s62_13 {x0 : Nat} {x1 : Int32} {s0 : Int32} {s1 : Nat} {s2 : Int32} : ip_WP 62 13 [some (.ref x0), some (.int x1)] [.int s2, .ref s1, .int s0] (G, F, I, J) b post px ↔ (ip_inA G s1 0 s2 = true ∧ ip_WP 62 14 [some (.ref x0), some (.int x1)] [.int (I s1 s2.toNatClampNeg), .int s0] (G, F, I, J) b post px) := ip_ck_iff ((ip_st_of f62_13).trans rfl) ip_nx_iff
theorem f62_14 : ip_fetch 62 14 = some (.if_icmp .ge 29, 3) := by decide +kernel
theorem s62_14 {x0 : Nat} {x1 : Int32} {s0 : Int32} {s1 : Int32} : ip_WP 62 14 [some (.ref x0), some (.int x1)] [.int s1, .int s0] (G, F, I, J) b post px ↔ if s1 ≤ s0 then ip_WP 62 43 [some (.ref x0), some (.int x1)] [] (G, F, I, J) b post px else ip_WP 62 17 [some (.ref x0), some (.int x1)] [] (G, F, I, J) b post px := ip_s_ic_ge f62_14 rfl
theorem f62_17 : ip_fetch 62 17 = some (.aload_n 0, 1) := by decide +kernel
theorem s62_17 {x0 : Nat} {x1 : Int32} : ip_WP 62 17 [some (.ref x0), some (.int x1)] [] (G, F, I, J) b post px ↔ ip_WP 62 18 [some (.ref x0), some (.int x1)] [.ref x0] (G, F, I, J) b post px := ip_nx_iff ((ip_st_of f62_17).trans rfl)
theorem f62_18 : ip_fetch 62 18 = some (.iconst 1, 1) := by decide +kernel
theorem s62_18 {x0 : Nat} {x1 : Int32} {s0 : Nat} : ip_WP 62 18 [some (.ref x0), some (.int x1)] [.ref s0] (G, F, I, J) b post px ↔ ip_WP 62 19 [some (.ref x0), some (.int x1)] [.int 1, .ref s0] (G, F, I, J) b post px := ip_s_iconst f62_18 (by decide)
theorem f62_19 : ip_fetch 62 19 = some (.iload_n 1, 1) := by decide +kernel
theorem s62_19 {x0 : Nat} {x1 : Int32} {s0 : Nat} {s1 : Int32} : ip_WP 62 19 [some (.ref x0), some (.int x1)] [.int s1, .ref s0] (G, F, I, J) b post px ↔ ip_WP 62 20 [some (.ref x0), some (.int x1)] [.int x1, .int s1, .ref s0] (G, F, I, J) b post px := ip_nx_iff ((ip_st_of f62_19).trans rfl)
theorem f62_20 : ip_fetch 62 20 = some (.aload_n 0, 1) := by decide +kernel
theorem s62_20 {x0 : Nat} {x1 : Int32} {s0 : Nat} {s1 : Int32} {s2 : Int32} : ip_WP 62 20 [some (.ref x0), some (.int x1)] [.int s2, .int s1, .ref s0] (G, F, I, J) b post px ↔ ip_WP 62 21 [some (.ref x0), some (.int x1)] [.ref x0, .int s2, .int s1, .ref s0] (G, F, I, J) b post px := ip_nx_iff ((ip_st_of f62_20).trans rfl)
theorem f62_21 : ip_fetch 62 21 = some (.getfield 65, 3) := by decide +kernel
set_option maxRecDepth 100000 in
theorem s62_21 {x0 : Nat} {x1 : Int32} {s0 : Nat} {s1 : Int32} {s2 : Int32} {s3 : Nat} : ip_WP 62 21 [some (.ref x0), some (.int x1)] [.ref s3, .int s2, .int s1, .ref s0] (G, F, I, J) b post px ↔ (ip_isO G s3 1 = true ∧ ip_WP 62 24 [some (.ref x0), some (.int x1)] [F s3 27, .int s2, .int s1, .ref s0] (G, F, I, J) b post px) := ip_s_getf f62_21 (by decide +kernel)
theorem f62_24 : ip_fetch 62 24 = some (.iload_n 1, 1) := by decide +kernel
theorem s62_24 {x0 : Nat} {x1 : Int32} {s0 : Nat} {s1 : Int32} {s2 : Int32} {s3 : Nat} : ip_WP 62 24 [some (.ref x0), some (.int x1)] [.ref s3, .int s2, .int s1, .ref s0] (G, F, I, J) b post px ↔ ip_WP 62 25 [some (.ref x0), some (.int x1)] [.int x1, .ref s3, .int s2, .int s1, .ref s0] (G, F, I, J) b post px := ip_nx_iff ((ip_st_of f62_24).trans rfl)
theorem f62_25 : ip_fetch 62 25 = some (.iaload, 1) := by decide +kernel
theorem s62_25 {x0 : Nat} {x1 : Int32} {s0 : Nat} {s1 : Int32} {s2 : Int32} {s3 : Nat} {s4 : Int32} : ip_WP 62 25 [some (.ref x0), some (.int x1)] [.int s4, .ref s3, .int s2, .int s1, .ref s0] (G, F, I, J) b post px ↔ (ip_inA G s3 0 s4 = true ∧ ip_WP 62 26 [some (.ref x0), some (.int x1)] [.int (I s3 s4.toNatClampNeg), .int s2, .int s1, .ref s0] (G, F, I, J) b post px) := ip_ck_iff ((ip_st_of f62_25).trans rfl) ip_nx_iff
theorem f62_26 : ip_fetch 62 26 = some (.ifCond .ge 7, 3) := by decide +kernel
theorem s62_26 {x0 : Nat} {x1 : Int32} {s0 : Nat} {s1 : Int32} {s2 : Int32} {s3 : Int32} : ip_WP 62 26 [some (.ref x0), some (.int x1)] [.int s3, .int s2, .int s1, .ref s0] (G, F, I, J) b post px ↔ if 0 ≤ s3 then ip_WP 62 33 [some (.ref x0), some (.int x1)] [.int s2, .int s1, .ref s0] (G, F, I, J) b post px else ip_WP 62 29 [some (.ref x0), some (.int x1)] [.int s2, .int s1, .ref s0] (G, F, I, J) b post px := ip_s_if_ge f62_26 rfl
theorem f62_29 : ip_fetch 62 29 = some (.iconst 1, 1) := by decide +kernel
theorem s62_29 {x0 : Nat} {x1 : Int32} {s0 : Nat} {s1 : Int32} {s2 : Int32} : ip_WP 62 29 [some (.ref x0), some (.int x1)] [.int s2, .int s1, .ref s0] (G, F, I, J) b post px ↔ ip_WP 62 30 [some (.ref x0), some (.int x1)] [.int 1, .int s2, .int s1, .ref s0] (G, F, I, J) b post px := ip_s_iconst f62_29 (by decide)
theorem f62_30 : ip_fetch 62 30 = some (.goto 4, 3) := by decide +kernel
theorem s62_30 {x0 : Nat} {x1 : Int32} {s0 : Nat} {s1 : Int32} {s2 : Int32} {s3 : Int32} : ip_WP 62 30 [some (.ref x0), some (.int x1)] [.int s3, .int s2, .int s1, .ref s0] (G, F, I, J) b post px ↔ ip_WP 62 34 [some (.ref x0), some (.int x1)] [.int s3, .int s2, .int s1, .ref s0] (G, F, I, J) b post px := ip_nx_iff ((ip_st_of f62_30).trans rfl)
theorem f62_33 : ip_fetch 62 33 = some (.iconst 0, 1) := by decide +kernel
theorem s62_33 {x0 : Nat} {x1 : Int32} {s0 : Nat} {s1 : Int32} {s2 : Int32} : ip_WP 62 33 [some (.ref x0), some (.int x1)] [.int s2, .int s1, .ref s0] (G, F, I, J) b post px ↔ ip_WP 62 34 [some (.ref x0), some (.int x1)] [.int 0, .int s2, .int s1, .ref s0] (G, F, I, J) b post px := ip_s_iconst f62_33 (by decide)
theorem f62_34 : ip_fetch 62 34 = some (.invokevirtual 240, 3) := by decide +kernel
set_option maxRecDepth 100000 in
theorem s62_34 {x0 : Nat} {x1 : Int32} {s0 : Nat} {s1 : Int32} {s2 : Int32} {s3 : Int32} : ip_WP 62 34 [some (.ref x0), some (.int x1)] [.int s3, .int s2, .int s1, .ref s0] (G, F, I, J) b post px ↔ (ip_isO G s0 1 = true ∧ ip_WP 57 0 [some (.ref s0), some (.int s1), some (.int s2), some (.int s3)] [] (G, F, I, J) (0, 0) (fun r h' => ip_WP 62 37 [some (.ref x0), some (.int x1)] (r.toList ++ []) h' b post px) (fun _ _ => False)) := ip_ck_iff (x := ip_cl 57 [some (.ref s0), some (.int s1), some (.int s2), some (.int s3)] [] (0, 0) b) ((ip_st_of f62_34).trans rfl) (ip_cl_iff)
theorem f62_37 : ip_fetch 62 37 = some (.iinc 1 1, 3) := by decide +kernel
theorem s62_37 {x0 : Nat} {x1 : Int32} : ip_WP 62 37 [some (.ref x0), some (.int x1)] [] (G, F, I, J) b post px ↔ ip_WP 62 40 [some (.ref x0), some (.int (x1 + 1))] [] (G, F, I, J) b post px := ip_s_iinc f62_37 rfl (by decide)
theorem f62_40 : ip_fetch 62 40 = some (.goto (-33), 3) := by decide +kernel
theorem s62_40 {x0 : Nat} {x1 : Int32} : ip_WP 62 40 [some (.ref x0), some (.int x1)] [] (G, F, I, J) b post px ↔ ip_WP 62 7 [some (.ref x0), some (.int x1)] [] (G, F, I, J) b post px := ip_nx_iff ((ip_st_of f62_40).trans rfl)
theorem f62_43 : ip_fetch 62 43 = some (.iconst 0, 1) := by decide +kernel
theorem s62_43 {x0 : Nat} {x1 : Int32} : ip_WP 62 43 [some (.ref x0), some (.int x1)] [] (G, F, I, J) b post px ↔ ip_WP 62 44 [some (.ref x0), some (.int x1)] [.int 0] (G, F, I, J) b post px := ip_s_iconst f62_43 (by decide)
theorem f62_44 : ip_fetch 62 44 = some (.istore_n 1, 1) := by decide +kernel
theorem s62_44 {x0 : Nat} {x1 : Int32} {s0 : Int32} : ip_WP 62 44 [some (.ref x0), some (.int x1)] [.int s0] (G, F, I, J) b post px ↔ ip_WP 62 45 [some (.ref x0), some (.int s0)] [] (G, F, I, J) b post px := ip_nx_iff ((ip_st_of f62_44).trans rfl)
theorem f62_45 : ip_fetch 62 45 = some (.iload_n 1, 1) := by decide +kernel
theorem s62_45 {x0 : Nat} {x1 : Int32} : ip_WP 62 45 [some (.ref x0), some (.int x1)] [] (G, F, I, J) b post px ↔ ip_WP 62 46 [some (.ref x0), some (.int x1)] [.int x1] (G, F, I, J) b post px := ip_nx_iff ((ip_st_of f62_45).trans rfl)
theorem f62_46 : ip_fetch 62 46 = some (.aload_n 0, 1) := by decide +kernel
theorem s62_46 {x0 : Nat} {x1 : Int32} {s0 : Int32} : ip_WP 62 46 [some (.ref x0), some (.int x1)] [.int s0] (G, F, I, J) b post px ↔ ip_WP 62 47 [some (.ref x0), some (.int x1)] [.ref x0, .int s0] (G, F, I, J) b post px := ip_nx_iff ((ip_st_of f62_46).trans rfl)
theorem f62_47 : ip_fetch 62 47 = some (.getfield 185, 3) := by decide +kernel
set_option maxRecDepth 100000 in
theorem s62_47 {x0 : Nat} {x1 : Int32} {s0 : Int32} {s1 : Nat} : ip_WP 62 47 [some (.ref x0), some (.int x1)] [.ref s1, .int s0] (G, F, I, J) b post px ↔ (ip_isO G s1 1 = true ∧ ip_WP 62 50 [some (.ref x0), some (.int x1)] [F s1 23, .int s0] (G, F, I, J) b post px) := ip_s_getf f62_47 (by decide +kernel)
theorem f62_50 : ip_fetch 62 50 = some (.if_icmp .ge 33, 3) := by decide +kernel
theorem s62_50 {x0 : Nat} {x1 : Int32} {s0 : Int32} {s1 : Int32} : ip_WP 62 50 [some (.ref x0), some (.int x1)] [.int s1, .int s0] (G, F, I, J) b post px ↔ if s1 ≤ s0 then ip_WP 62 83 [some (.ref x0), some (.int x1)] [] (G, F, I, J) b post px else ip_WP 62 53 [some (.ref x0), some (.int x1)] [] (G, F, I, J) b post px := ip_s_ic_ge f62_50 rfl
theorem f62_53 : ip_fetch 62 53 = some (.aload_n 0, 1) := by decide +kernel
theorem s62_53 {x0 : Nat} {x1 : Int32} : ip_WP 62 53 [some (.ref x0), some (.int x1)] [] (G, F, I, J) b post px ↔ ip_WP 62 54 [some (.ref x0), some (.int x1)] [.ref x0] (G, F, I, J) b post px := ip_nx_iff ((ip_st_of f62_53).trans rfl)
theorem f62_54 : ip_fetch 62 54 = some (.iconst 2, 1) := by decide +kernel
theorem s62_54 {x0 : Nat} {x1 : Int32} {s0 : Nat} : ip_WP 62 54 [some (.ref x0), some (.int x1)] [.ref s0] (G, F, I, J) b post px ↔ ip_WP 62 55 [some (.ref x0), some (.int x1)] [.int 2, .ref s0] (G, F, I, J) b post px := ip_s_iconst f62_54 (by decide)
theorem f62_55 : ip_fetch 62 55 = some (.iload_n 1, 1) := by decide +kernel
theorem s62_55 {x0 : Nat} {x1 : Int32} {s0 : Nat} {s1 : Int32} : ip_WP 62 55 [some (.ref x0), some (.int x1)] [.int s1, .ref s0] (G, F, I, J) b post px ↔ ip_WP 62 56 [some (.ref x0), some (.int x1)] [.int x1, .int s1, .ref s0] (G, F, I, J) b post px := ip_nx_iff ((ip_st_of f62_55).trans rfl)
theorem f62_56 : ip_fetch 62 56 = some (.aload_n 0, 1) := by decide +kernel
theorem s62_56 {x0 : Nat} {x1 : Int32} {s0 : Nat} {s1 : Int32} {s2 : Int32} : ip_WP 62 56 [some (.ref x0), some (.int x1)] [.int s2, .int s1, .ref s0] (G, F, I, J) b post px ↔ ip_WP 62 57 [some (.ref x0), some (.int x1)] [.ref x0, .int s2, .int s1, .ref s0] (G, F, I, J) b post px := ip_nx_iff ((ip_st_of f62_56).trans rfl)
theorem f62_57 : ip_fetch 62 57 = some (.aload_n 0, 1) := by decide +kernel
theorem s62_57 {x0 : Nat} {x1 : Int32} {s0 : Nat} {s1 : Int32} {s2 : Int32} {s3 : Nat} : ip_WP 62 57 [some (.ref x0), some (.int x1)] [.ref s3, .int s2, .int s1, .ref s0] (G, F, I, J) b post px ↔ ip_WP 62 58 [some (.ref x0), some (.int x1)] [.ref x0, .ref s3, .int s2, .int s1, .ref s0] (G, F, I, J) b post px := ip_nx_iff ((ip_st_of f62_57).trans rfl)
theorem f62_58 : ip_fetch 62 58 = some (.getfield 56, 3) := by decide +kernel
set_option maxRecDepth 100000 in
theorem s62_58 {x0 : Nat} {x1 : Int32} {s0 : Nat} {s1 : Int32} {s2 : Int32} {s3 : Nat} {s4 : Nat} : ip_WP 62 58 [some (.ref x0), some (.int x1)] [.ref s4, .ref s3, .int s2, .int s1, .ref s0] (G, F, I, J) b post px ↔ (ip_isO G s4 1 = true ∧ ip_WP 62 61 [some (.ref x0), some (.int x1)] [F s4 24, .ref s3, .int s2, .int s1, .ref s0] (G, F, I, J) b post px) := ip_s_getf f62_58 (by decide +kernel)
theorem f62_61 : ip_fetch 62 61 = some (.iload_n 1, 1) := by decide +kernel
theorem s62_61 {x0 : Nat} {x1 : Int32} {s0 : Nat} {s1 : Int32} {s2 : Int32} {s3 : Nat} {s4 : Nat} : ip_WP 62 61 [some (.ref x0), some (.int x1)] [.ref s4, .ref s3, .int s2, .int s1, .ref s0] (G, F, I, J) b post px ↔ ip_WP 62 62 [some (.ref x0), some (.int x1)] [.int x1, .ref s4, .ref s3, .int s2, .int s1, .ref s0] (G, F, I, J) b post px := ip_nx_iff ((ip_st_of f62_61).trans rfl)
theorem f62_62 : ip_fetch 62 62 = some (.iaload, 1) := by decide +kernel
theorem s62_62 {x0 : Nat} {x1 : Int32} {s0 : Nat} {s1 : Int32} {s2 : Int32} {s3 : Nat} {s4 : Nat} {s5 : Int32} : ip_WP 62 62 [some (.ref x0), some (.int x1)] [.int s5, .ref s4, .ref s3, .int s2, .int s1, .ref s0] (G, F, I, J) b post px ↔ (ip_inA G s4 0 s5 = true ∧ ip_WP 62 63 [some (.ref x0), some (.int x1)] [.int (I s4 s5.toNatClampNeg), .ref s3, .int s2, .int s1, .ref s0] (G, F, I, J) b post px) := ip_ck_iff ((ip_st_of f62_62).trans rfl) ip_nx_iff
theorem f62_63 : ip_fetch 62 63 = some (.invokevirtual 244, 3) := by decide +kernel
set_option maxRecDepth 100000 in
theorem s62_63 {x0 : Nat} {x1 : Int32} {s0 : Nat} {s1 : Int32} {s2 : Int32} {s3 : Nat} {s4 : Int32} : ip_WP 62 63 [some (.ref x0), some (.int x1)] [.int s4, .ref s3, .int s2, .int s1, .ref s0] (G, F, I, J) b post px ↔ (ip_isO G s3 1 = true ∧ ip_WP 60 0 [some (.ref s3), some (.int s4), none, none] [] (G, F, I, J) (0, 0) (fun r h' => ip_WP 62 66 [some (.ref x0), some (.int x1)] (r.toList ++ [.int s2, .int s1, .ref s0]) h' b post px) (fun _ _ => False)) := ip_ck_iff (x := ip_cl 60 [some (.ref s3), some (.int s4), none, none] [.int s2, .int s1, .ref s0] (0, 0) b) ((ip_st_of f62_63).trans rfl) (ip_cl_iff)
theorem f62_66 : ip_fetch 62 66 = some (.ifCond .ne 7, 3) := by decide +kernel
theorem s62_66 {x0 : Nat} {x1 : Int32} {s0 : Nat} {s1 : Int32} {s2 : Int32} {s3 : Int32} : ip_WP 62 66 [some (.ref x0), some (.int x1)] [.int s3, .int s2, .int s1, .ref s0] (G, F, I, J) b post px ↔ if ¬ s3 = 0 then ip_WP 62 73 [some (.ref x0), some (.int x1)] [.int s2, .int s1, .ref s0] (G, F, I, J) b post px else ip_WP 62 69 [some (.ref x0), some (.int x1)] [.int s2, .int s1, .ref s0] (G, F, I, J) b post px := ip_s_if_ne f62_66 rfl
theorem f62_69 : ip_fetch 62 69 = some (.iconst 1, 1) := by decide +kernel
theorem s62_69 {x0 : Nat} {x1 : Int32} {s0 : Nat} {s1 : Int32} {s2 : Int32} : ip_WP 62 69 [some (.ref x0), some (.int x1)] [.int s2, .int s1, .ref s0] (G, F, I, J) b post px ↔ ip_WP 62 70 [some (.ref x0), some (.int x1)] [.int 1, .int s2, .int s1, .ref s0] (G, F, I, J) b post px := ip_s_iconst f62_69 (by decide)
theorem f62_70 : ip_fetch 62 70 = some (.goto 4, 3) := by decide +kernel
theorem s62_70 {x0 : Nat} {x1 : Int32} {s0 : Nat} {s1 : Int32} {s2 : Int32} {s3 : Int32} : ip_WP 62 70 [some (.ref x0), some (.int x1)] [.int s3, .int s2, .int s1, .ref s0] (G, F, I, J) b post px ↔ ip_WP 62 74 [some (.ref x0), some (.int x1)] [.int s3, .int s2, .int s1, .ref s0] (G, F, I, J) b post px := ip_nx_iff ((ip_st_of f62_70).trans rfl)
theorem f62_73 : ip_fetch 62 73 = some (.iconst 0, 1) := by decide +kernel
theorem s62_73 {x0 : Nat} {x1 : Int32} {s0 : Nat} {s1 : Int32} {s2 : Int32} : ip_WP 62 73 [some (.ref x0), some (.int x1)] [.int s2, .int s1, .ref s0] (G, F, I, J) b post px ↔ ip_WP 62 74 [some (.ref x0), some (.int x1)] [.int 0, .int s2, .int s1, .ref s0] (G, F, I, J) b post px := ip_s_iconst f62_73 (by decide)
theorem f62_74 : ip_fetch 62 74 = some (.invokevirtual 240, 3) := by decide +kernel
set_option maxRecDepth 100000 in
theorem s62_74 {x0 : Nat} {x1 : Int32} {s0 : Nat} {s1 : Int32} {s2 : Int32} {s3 : Int32} : ip_WP 62 74 [some (.ref x0), some (.int x1)] [.int s3, .int s2, .int s1, .ref s0] (G, F, I, J) b post px ↔ (ip_isO G s0 1 = true ∧ ip_WP 57 0 [some (.ref s0), some (.int s1), some (.int s2), some (.int s3)] [] (G, F, I, J) (0, 0) (fun r h' => ip_WP 62 77 [some (.ref x0), some (.int x1)] (r.toList ++ []) h' b post px) (fun _ _ => False)) := ip_ck_iff (x := ip_cl 57 [some (.ref s0), some (.int s1), some (.int s2), some (.int s3)] [] (0, 0) b) ((ip_st_of f62_74).trans rfl) (ip_cl_iff)
theorem f62_77 : ip_fetch 62 77 = some (.iinc 1 1, 3) := by decide +kernel
theorem s62_77 {x0 : Nat} {x1 : Int32} : ip_WP 62 77 [some (.ref x0), some (.int x1)] [] (G, F, I, J) b post px ↔ ip_WP 62 80 [some (.ref x0), some (.int (x1 + 1))] [] (G, F, I, J) b post px := ip_s_iinc f62_77 rfl (by decide)
theorem f62_80 : ip_fetch 62 80 = some (.goto (-35), 3) := by decide +kernel
theorem s62_80 {x0 : Nat} {x1 : Int32} : ip_WP 62 80 [some (.ref x0), some (.int x1)] [] (G, F, I, J) b post px ↔ ip_WP 62 45 [some (.ref x0), some (.int x1)] [] (G, F, I, J) b post px := ip_nx_iff ((ip_st_of f62_80).trans rfl)
theorem f62_83 : ip_fetch 62 83 = some (.iconst 0, 1) := by decide +kernel
theorem s62_83 {x0 : Nat} {x1 : Int32} : ip_WP 62 83 [some (.ref x0), some (.int x1)] [] (G, F, I, J) b post px ↔ ip_WP 62 84 [some (.ref x0), some (.int x1)] [.int 0] (G, F, I, J) b post px := ip_s_iconst f62_83 (by decide)
theorem f62_84 : ip_fetch 62 84 = some (.istore_n 1, 1) := by decide +kernel
theorem s62_84 {x0 : Nat} {x1 : Int32} {s0 : Int32} : ip_WP 62 84 [some (.ref x0), some (.int x1)] [.int s0] (G, F, I, J) b post px ↔ ip_WP 62 85 [some (.ref x0), some (.int s0)] [] (G, F, I, J) b post px := ip_nx_iff ((ip_st_of f62_84).trans rfl)
theorem f62_85 : ip_fetch 62 85 = some (.iload_n 1, 1) := by decide +kernel
theorem s62_85 {x0 : Nat} {x1 : Int32} : ip_WP 62 85 [some (.ref x0), some (.int x1)] [] (G, F, I, J) b post px ↔ ip_WP 62 86 [some (.ref x0), some (.int x1)] [.int x1] (G, F, I, J) b post px := ip_nx_iff ((ip_st_of f62_85).trans rfl)
theorem f62_86 : ip_fetch 62 86 = some (.aload_n 0, 1) := by decide +kernel
theorem s62_86 {x0 : Nat} {x1 : Int32} {s0 : Int32} : ip_WP 62 86 [some (.ref x0), some (.int x1)] [.int s0] (G, F, I, J) b post px ↔ ip_WP 62 87 [some (.ref x0), some (.int x1)] [.ref x0, .int s0] (G, F, I, J) b post px := ip_nx_iff ((ip_st_of f62_86).trans rfl)
theorem f62_87 : ip_fetch 62 87 = some (.getfield 34, 3) := by decide +kernel
set_option maxRecDepth 100000 in
theorem s62_87 {x0 : Nat} {x1 : Int32} {s0 : Int32} {s1 : Nat} : ip_WP 62 87 [some (.ref x0), some (.int x1)] [.ref s1, .int s0] (G, F, I, J) b post px ↔ (ip_isO G s1 1 = true ∧ ip_WP 62 90 [some (.ref x0), some (.int x1)] [F s1 16, .int s0] (G, F, I, J) b post px) := ip_s_getf f62_87 (by decide +kernel)
theorem f62_90 : ip_fetch 62 90 = some (.iconst 1, 1) := by decide +kernel
theorem s62_90 {x0 : Nat} {x1 : Int32} {s0 : Int32} {s1 : Nat} : ip_WP 62 90 [some (.ref x0), some (.int x1)] [.ref s1, .int s0] (G, F, I, J) b post px ↔ ip_WP 62 91 [some (.ref x0), some (.int x1)] [.int 1, .ref s1, .int s0] (G, F, I, J) b post px := ip_s_iconst f62_90 (by decide)
theorem f62_91 : ip_fetch 62 91 = some (.iaload, 1) := by decide +kernel
theorem s62_91 {x0 : Nat} {x1 : Int32} {s0 : Int32} {s1 : Nat} {s2 : Int32} : ip_WP 62 91 [some (.ref x0), some (.int x1)] [.int s2, .ref s1, .int s0] (G, F, I, J) b post px ↔ (ip_inA G s1 0 s2 = true ∧ ip_WP 62 92 [some (.ref x0), some (.int x1)] [.int (I s1 s2.toNatClampNeg), .int s0] (G, F, I, J) b post px) := ip_ck_iff ((ip_st_of f62_91).trans rfl) ip_nx_iff
theorem f62_92 : ip_fetch 62 92 = some (.if_icmp .ge 20, 3) := by decide +kernel
theorem s62_92 {x0 : Nat} {x1 : Int32} {s0 : Int32} {s1 : Int32} : ip_WP 62 92 [some (.ref x0), some (.int x1)] [.int s1, .int s0] (G, F, I, J) b post px ↔ if s1 ≤ s0 then ip_WP 62 112 [some (.ref x0), some (.int x1)] [] (G, F, I, J) b post px else ip_WP 62 95 [some (.ref x0), some (.int x1)] [] (G, F, I, J) b post px := ip_s_ic_ge f62_92 rfl
theorem f62_95 : ip_fetch 62 95 = some (.aload_n 0, 1) := by decide +kernel
theorem s62_95 {x0 : Nat} {x1 : Int32} : ip_WP 62 95 [some (.ref x0), some (.int x1)] [] (G, F, I, J) b post px ↔ ip_WP 62 96 [some (.ref x0), some (.int x1)] [.ref x0] (G, F, I, J) b post px := ip_nx_iff ((ip_st_of f62_95).trans rfl)
theorem f62_96 : ip_fetch 62 96 = some (.iconst 3, 1) := by decide +kernel
theorem s62_96 {x0 : Nat} {x1 : Int32} {s0 : Nat} : ip_WP 62 96 [some (.ref x0), some (.int x1)] [.ref s0] (G, F, I, J) b post px ↔ ip_WP 62 97 [some (.ref x0), some (.int x1)] [.int 3, .ref s0] (G, F, I, J) b post px := ip_s_iconst f62_96 (by decide)
theorem f62_97 : ip_fetch 62 97 = some (.iload_n 1, 1) := by decide +kernel
theorem s62_97 {x0 : Nat} {x1 : Int32} {s0 : Nat} {s1 : Int32} : ip_WP 62 97 [some (.ref x0), some (.int x1)] [.int s1, .ref s0] (G, F, I, J) b post px ↔ ip_WP 62 98 [some (.ref x0), some (.int x1)] [.int x1, .int s1, .ref s0] (G, F, I, J) b post px := ip_nx_iff ((ip_st_of f62_97).trans rfl)
theorem f62_98 : ip_fetch 62 98 = some (.aload_n 0, 1) := by decide +kernel
theorem s62_98 {x0 : Nat} {x1 : Int32} {s0 : Nat} {s1 : Int32} {s2 : Int32} : ip_WP 62 98 [some (.ref x0), some (.int x1)] [.int s2, .int s1, .ref s0] (G, F, I, J) b post px ↔ ip_WP 62 99 [some (.ref x0), some (.int x1)] [.ref x0, .int s2, .int s1, .ref s0] (G, F, I, J) b post px := ip_nx_iff ((ip_st_of f62_98).trans rfl)
theorem f62_99 : ip_fetch 62 99 = some (.iload_n 1, 1) := by decide +kernel
theorem s62_99 {x0 : Nat} {x1 : Int32} {s0 : Nat} {s1 : Int32} {s2 : Int32} {s3 : Nat} : ip_WP 62 99 [some (.ref x0), some (.int x1)] [.ref s3, .int s2, .int s1, .ref s0] (G, F, I, J) b post px ↔ ip_WP 62 100 [some (.ref x0), some (.int x1)] [.int x1, .ref s3, .int s2, .int s1, .ref s0] (G, F, I, J) b post px := ip_nx_iff ((ip_st_of f62_99).trans rfl)
theorem f62_100 : ip_fetch 62 100 = some (.invokevirtual 247, 3) := by decide +kernel
set_option maxRecDepth 100000 in
theorem s62_100 {x0 : Nat} {x1 : Int32} {s0 : Nat} {s1 : Int32} {s2 : Int32} {s3 : Nat} {s4 : Int32} : ip_WP 62 100 [some (.ref x0), some (.int x1)] [.int s4, .ref s3, .int s2, .int s1, .ref s0] (G, F, I, J) b post px ↔ (ip_isO G s3 1 = true ∧ ip_WP 61 0 [some (.ref s3), some (.int s4), none, none] [] (G, F, I, J) (0, 0) (fun r h' => ip_WP 62 103 [some (.ref x0), some (.int x1)] (r.toList ++ [.int s2, .int s1, .ref s0]) h' b post px) (fun _ _ => False)) := ip_ck_iff (x := ip_cl 61 [some (.ref s3), some (.int s4), none, none] [.int s2, .int s1, .ref s0] (0, 0) b) ((ip_st_of f62_100).trans rfl) (ip_cl_iff)
theorem f62_103 : ip_fetch 62 103 = some (.invokevirtual 240, 3) := by decide +kernel
set_option maxRecDepth 100000 in
theorem s62_103 {x0 : Nat} {x1 : Int32} {s0 : Nat} {s1 : Int32} {s2 : Int32} {s3 : Int32} : ip_WP 62 103 [some (.ref x0), some (.int x1)] [.int s3, .int s2, .int s1, .ref s0] (G, F, I, J) b post px ↔ (ip_isO G s0 1 = true ∧ ip_WP 57 0 [some (.ref s0), some (.int s1), some (.int s2), some (.int s3)] [] (G, F, I, J) (0, 0) (fun r h' => ip_WP 62 106 [some (.ref x0), some (.int x1)] (r.toList ++ []) h' b post px) (fun _ _ => False)) := ip_ck_iff (x := ip_cl 57 [some (.ref s0), some (.int s1), some (.int s2), some (.int s3)] [] (0, 0) b) ((ip_st_of f62_103).trans rfl) (ip_cl_iff)
theorem f62_106 : ip_fetch 62 106 = some (.iinc 1 1, 3) := by decide +kernel
theorem s62_106 {x0 : Nat} {x1 : Int32} : ip_WP 62 106 [some (.ref x0), some (.int x1)] [] (G, F, I, J) b post px ↔ ip_WP 62 109 [some (.ref x0), some (.int (x1 + 1))] [] (G, F, I, J) b post px := ip_s_iinc f62_106 rfl (by decide)
theorem f62_109 : ip_fetch 62 109 = some (.goto (-24), 3) := by decide +kernel
theorem s62_109 {x0 : Nat} {x1 : Int32} : ip_WP 62 109 [some (.ref x0), some (.int x1)] [] (G, F, I, J) b post px ↔ ip_WP 62 85 [some (.ref x0), some (.int x1)] [] (G, F, I, J) b post px := ip_nx_iff ((ip_st_of f62_109).trans rfl)
theorem f62_112 : ip_fetch 62 112 = some (.iconst 0, 1) := by decide +kernel
theorem s62_112 {x0 : Nat} {x1 : Int32} : ip_WP 62 112 [some (.ref x0), some (.int x1)] [] (G, F, I, J) b post px ↔ ip_WP 62 113 [some (.ref x0), some (.int x1)] [.int 0] (G, F, I, J) b post px := ip_s_iconst f62_112 (by decide)
theorem f62_113 : ip_fetch 62 113 = some (.istore_n 1, 1) := by decide +kernel
theorem s62_113 {x0 : Nat} {x1 : Int32} {s0 : Int32} : ip_WP 62 113 [some (.ref x0), some (.int x1)] [.int s0] (G, F, I, J) b post px ↔ ip_WP 62 114 [some (.ref x0), some (.int s0)] [] (G, F, I, J) b post px := ip_nx_iff ((ip_st_of f62_113).trans rfl)
theorem f62_114 : ip_fetch 62 114 = some (.iload_n 1, 1) := by decide +kernel
theorem s62_114 {x0 : Nat} {x1 : Int32} : ip_WP 62 114 [some (.ref x0), some (.int x1)] [] (G, F, I, J) b post px ↔ ip_WP 62 115 [some (.ref x0), some (.int x1)] [.int x1] (G, F, I, J) b post px := ip_nx_iff ((ip_st_of f62_114).trans rfl)
theorem f62_115 : ip_fetch 62 115 = some (.aload_n 0, 1) := by decide +kernel
theorem s62_115 {x0 : Nat} {x1 : Int32} {s0 : Int32} : ip_WP 62 115 [some (.ref x0), some (.int x1)] [.int s0] (G, F, I, J) b post px ↔ ip_WP 62 116 [some (.ref x0), some (.int x1)] [.ref x0, .int s0] (G, F, I, J) b post px := ip_nx_iff ((ip_st_of f62_115).trans rfl)
theorem f62_116 : ip_fetch 62 116 = some (.getfield 185, 3) := by decide +kernel
set_option maxRecDepth 100000 in
theorem s62_116 {x0 : Nat} {x1 : Int32} {s0 : Int32} {s1 : Nat} : ip_WP 62 116 [some (.ref x0), some (.int x1)] [.ref s1, .int s0] (G, F, I, J) b post px ↔ (ip_isO G s1 1 = true ∧ ip_WP 62 119 [some (.ref x0), some (.int x1)] [F s1 23, .int s0] (G, F, I, J) b post px) := ip_s_getf f62_116 (by decide +kernel)
theorem f62_119 : ip_fetch 62 119 = some (.if_icmp .ge 35, 3) := by decide +kernel
theorem s62_119 {x0 : Nat} {x1 : Int32} {s0 : Int32} {s1 : Int32} : ip_WP 62 119 [some (.ref x0), some (.int x1)] [.int s1, .int s0] (G, F, I, J) b post px ↔ if s1 ≤ s0 then ip_WP 62 154 [some (.ref x0), some (.int x1)] [] (G, F, I, J) b post px else ip_WP 62 122 [some (.ref x0), some (.int x1)] [] (G, F, I, J) b post px := ip_s_ic_ge f62_119 rfl
theorem f62_122 : ip_fetch 62 122 = some (.aload_n 0, 1) := by decide +kernel
theorem s62_122 {x0 : Nat} {x1 : Int32} : ip_WP 62 122 [some (.ref x0), some (.int x1)] [] (G, F, I, J) b post px ↔ ip_WP 62 123 [some (.ref x0), some (.int x1)] [.ref x0] (G, F, I, J) b post px := ip_nx_iff ((ip_st_of f62_122).trans rfl)
theorem f62_123 : ip_fetch 62 123 = some (.iconst 4, 1) := by decide +kernel
theorem s62_123 {x0 : Nat} {x1 : Int32} {s0 : Nat} : ip_WP 62 123 [some (.ref x0), some (.int x1)] [.ref s0] (G, F, I, J) b post px ↔ ip_WP 62 124 [some (.ref x0), some (.int x1)] [.int 4, .ref s0] (G, F, I, J) b post px := ip_s_iconst f62_123 (by decide)
theorem f62_124 : ip_fetch 62 124 = some (.iload_n 1, 1) := by decide +kernel
theorem s62_124 {x0 : Nat} {x1 : Int32} {s0 : Nat} {s1 : Int32} : ip_WP 62 124 [some (.ref x0), some (.int x1)] [.int s1, .ref s0] (G, F, I, J) b post px ↔ ip_WP 62 125 [some (.ref x0), some (.int x1)] [.int x1, .int s1, .ref s0] (G, F, I, J) b post px := ip_nx_iff ((ip_st_of f62_124).trans rfl)
theorem f62_125 : ip_fetch 62 125 = some (.aload_n 0, 1) := by decide +kernel
theorem s62_125 {x0 : Nat} {x1 : Int32} {s0 : Nat} {s1 : Int32} {s2 : Int32} : ip_WP 62 125 [some (.ref x0), some (.int x1)] [.int s2, .int s1, .ref s0] (G, F, I, J) b post px ↔ ip_WP 62 126 [some (.ref x0), some (.int x1)] [.ref x0, .int s2, .int s1, .ref s0] (G, F, I, J) b post px := ip_nx_iff ((ip_st_of f62_125).trans rfl)
theorem f62_126 : ip_fetch 62 126 = some (.getfield 59, 3) := by decide +kernel
set_option maxRecDepth 100000 in
theorem s62_126 {x0 : Nat} {x1 : Int32} {s0 : Nat} {s1 : Int32} {s2 : Int32} {s3 : Nat} : ip_WP 62 126 [some (.ref x0), some (.int x1)] [.ref s3, .int s2, .int s1, .ref s0] (G, F, I, J) b post px ↔ (ip_isO G s3 1 = true ∧ ip_WP 62 129 [some (.ref x0), some (.int x1)] [F s3 25, .int s2, .int s1, .ref s0] (G, F, I, J) b post px) := ip_s_getf f62_126 (by decide +kernel)
theorem f62_129 : ip_fetch 62 129 = some (.iload_n 1, 1) := by decide +kernel
theorem s62_129 {x0 : Nat} {x1 : Int32} {s0 : Nat} {s1 : Int32} {s2 : Int32} {s3 : Nat} : ip_WP 62 129 [some (.ref x0), some (.int x1)] [.ref s3, .int s2, .int s1, .ref s0] (G, F, I, J) b post px ↔ ip_WP 62 130 [some (.ref x0), some (.int x1)] [.int x1, .ref s3, .int s2, .int s1, .ref s0] (G, F, I, J) b post px := ip_nx_iff ((ip_st_of f62_129).trans rfl)
theorem f62_130 : ip_fetch 62 130 = some (.iaload, 1) := by decide +kernel
theorem s62_130 {x0 : Nat} {x1 : Int32} {s0 : Nat} {s1 : Int32} {s2 : Int32} {s3 : Nat} {s4 : Int32} : ip_WP 62 130 [some (.ref x0), some (.int x1)] [.int s4, .ref s3, .int s2, .int s1, .ref s0] (G, F, I, J) b post px ↔ (ip_inA G s3 0 s4 = true ∧ ip_WP 62 131 [some (.ref x0), some (.int x1)] [.int (I s3 s4.toNatClampNeg), .int s2, .int s1, .ref s0] (G, F, I, J) b post px) := ip_ck_iff ((ip_st_of f62_130).trans rfl) ip_nx_iff
theorem f62_131 : ip_fetch 62 131 = some (.aload_n 0, 1) := by decide +kernel
theorem s62_131 {x0 : Nat} {x1 : Int32} {s0 : Nat} {s1 : Int32} {s2 : Int32} {s3 : Int32} : ip_WP 62 131 [some (.ref x0), some (.int x1)] [.int s3, .int s2, .int s1, .ref s0] (G, F, I, J) b post px ↔ ip_WP 62 132 [some (.ref x0), some (.int x1)] [.ref x0, .int s3, .int s2, .int s1, .ref s0] (G, F, I, J) b post px := ip_nx_iff ((ip_st_of f62_131).trans rfl)
theorem f62_132 : ip_fetch 62 132 = some (.getfield 56, 3) := by decide +kernel
set_option maxRecDepth 100000 in
theorem s62_132 {x0 : Nat} {x1 : Int32} {s0 : Nat} {s1 : Int32} {s2 : Int32} {s3 : Int32} {s4 : Nat} : ip_WP 62 132 [some (.ref x0), some (.int x1)] [.ref s4, .int s3, .int s2, .int s1, .ref s0] (G, F, I, J) b post px ↔ (ip_isO G s4 1 = true ∧ ip_WP 62 135 [some (.ref x0), some (.int x1)] [F s4 24, .int s3, .int s2, .int s1, .ref s0] (G, F, I, J) b post px) := ip_s_getf f62_132 (by decide +kernel)
theorem f62_135 : ip_fetch 62 135 = some (.iload_n 1, 1) := by decide +kernel
theorem s62_135 {x0 : Nat} {x1 : Int32} {s0 : Nat} {s1 : Int32} {s2 : Int32} {s3 : Int32} {s4 : Nat} : ip_WP 62 135 [some (.ref x0), some (.int x1)] [.ref s4, .int s3, .int s2, .int s1, .ref s0] (G, F, I, J) b post px ↔ ip_WP 62 136 [some (.ref x0), some (.int x1)] [.int x1, .ref s4, .int s3, .int s2, .int s1, .ref s0] (G, F, I, J) b post px := ip_nx_iff ((ip_st_of f62_135).trans rfl)
theorem f62_136 : ip_fetch 62 136 = some (.iaload, 1) := by decide +kernel
theorem s62_136 {x0 : Nat} {x1 : Int32} {s0 : Nat} {s1 : Int32} {s2 : Int32} {s3 : Int32} {s4 : Nat} {s5 : Int32} : ip_WP 62 136 [some (.ref x0), some (.int x1)] [.int s5, .ref s4, .int s3, .int s2, .int s1, .ref s0] (G, F, I, J) b post px ↔ (ip_inA G s4 0 s5 = true ∧ ip_WP 62 137 [some (.ref x0), some (.int x1)] [.int (I s4 s5.toNatClampNeg), .int s3, .int s2, .int s1, .ref s0] (G, F, I, J) b post px) := ip_ck_iff ((ip_st_of f62_136).trans rfl) ip_nx_iff
theorem f62_137 : ip_fetch 62 137 = some (.if_icmp .le 7, 3) := by decide +kernel
theorem s62_137 {x0 : Nat} {x1 : Int32} {s0 : Nat} {s1 : Int32} {s2 : Int32} {s3 : Int32} {s4 : Int32} : ip_WP 62 137 [some (.ref x0), some (.int x1)] [.int s4, .int s3, .int s2, .int s1, .ref s0] (G, F, I, J) b post px ↔ if s3 ≤ s4 then ip_WP 62 144 [some (.ref x0), some (.int x1)] [.int s2, .int s1, .ref s0] (G, F, I, J) b post px else ip_WP 62 140 [some (.ref x0), some (.int x1)] [.int s2, .int s1, .ref s0] (G, F, I, J) b post px := ip_s_ic_le f62_137 rfl
theorem f62_140 : ip_fetch 62 140 = some (.iconst 1, 1) := by decide +kernel
theorem s62_140 {x0 : Nat} {x1 : Int32} {s0 : Nat} {s1 : Int32} {s2 : Int32} : ip_WP 62 140 [some (.ref x0), some (.int x1)] [.int s2, .int s1, .ref s0] (G, F, I, J) b post px ↔ ip_WP 62 141 [some (.ref x0), some (.int x1)] [.int 1, .int s2, .int s1, .ref s0] (G, F, I, J) b post px := ip_s_iconst f62_140 (by decide)
theorem f62_141 : ip_fetch 62 141 = some (.goto 4, 3) := by decide +kernel
theorem s62_141 {x0 : Nat} {x1 : Int32} {s0 : Nat} {s1 : Int32} {s2 : Int32} {s3 : Int32} : ip_WP 62 141 [some (.ref x0), some (.int x1)] [.int s3, .int s2, .int s1, .ref s0] (G, F, I, J) b post px ↔ ip_WP 62 145 [some (.ref x0), some (.int x1)] [.int s3, .int s2, .int s1, .ref s0] (G, F, I, J) b post px := ip_nx_iff ((ip_st_of f62_141).trans rfl)
theorem f62_144 : ip_fetch 62 144 = some (.iconst 0, 1) := by decide +kernel
theorem s62_144 {x0 : Nat} {x1 : Int32} {s0 : Nat} {s1 : Int32} {s2 : Int32} : ip_WP 62 144 [some (.ref x0), some (.int x1)] [.int s2, .int s1, .ref s0] (G, F, I, J) b post px ↔ ip_WP 62 145 [some (.ref x0), some (.int x1)] [.int 0, .int s2, .int s1, .ref s0] (G, F, I, J) b post px := ip_s_iconst f62_144 (by decide)
theorem f62_145 : ip_fetch 62 145 = some (.invokevirtual 240, 3) := by decide +kernel
set_option maxRecDepth 100000 in
theorem s62_145 {x0 : Nat} {x1 : Int32} {s0 : Nat} {s1 : Int32} {s2 : Int32} {s3 : Int32} : ip_WP 62 145 [some (.ref x0), some (.int x1)] [.int s3, .int s2, .int s1, .ref s0] (G, F, I, J) b post px ↔ (ip_isO G s0 1 = true ∧ ip_WP 57 0 [some (.ref s0), some (.int s1), some (.int s2), some (.int s3)] [] (G, F, I, J) (0, 0) (fun r h' => ip_WP 62 148 [some (.ref x0), some (.int x1)] (r.toList ++ []) h' b post px) (fun _ _ => False)) := ip_ck_iff (x := ip_cl 57 [some (.ref s0), some (.int s1), some (.int s2), some (.int s3)] [] (0, 0) b) ((ip_st_of f62_145).trans rfl) (ip_cl_iff)
theorem f62_148 : ip_fetch 62 148 = some (.iinc 1 1, 3) := by decide +kernel
theorem s62_148 {x0 : Nat} {x1 : Int32} : ip_WP 62 148 [some (.ref x0), some (.int x1)] [] (G, F, I, J) b post px ↔ ip_WP 62 151 [some (.ref x0), some (.int (x1 + 1))] [] (G, F, I, J) b post px := ip_s_iinc f62_148 rfl (by decide)
theorem f62_151 : ip_fetch 62 151 = some (.goto (-37), 3) := by decide +kernel
theorem s62_151 {x0 : Nat} {x1 : Int32} : ip_WP 62 151 [some (.ref x0), some (.int x1)] [] (G, F, I, J) b post px ↔ ip_WP 62 114 [some (.ref x0), some (.int x1)] [] (G, F, I, J) b post px := ip_nx_iff ((ip_st_of f62_151).trans rfl)
theorem f62_154 : ip_fetch 62 154 = some (.return_, 1) := by decide +kernel
theorem s62_154 {x0 : Nat} {x1 : Int32} : ip_WP 62 154 [some (.ref x0), some (.int x1)] [] (G, F, I, J) b post px ↔ post none (G, F, I, J) := ip_rt_iff ((ip_st_of f62_154).trans rfl)
theorem f63_0 : ip_fetch 63 0 = some (.aload_n 0, 1) := by decide +kernel
theorem s63_0 {x0 : Nat} {x1 : Int32} {x2 : Int32} : ip_WP 63 0 [some (.ref x0), some (.int x1), some (.int x2)] [] (G, F, I, J) b post px ↔ ip_WP 63 1 [some (.ref x0), some (.int x1), some (.int x2)] [.ref x0] (G, F, I, J) b post px := ip_nx_iff ((ip_st_of f63_0).trans rfl)
theorem f63_1 : ip_fetch 63 1 = some (.iconst 0, 1) := by decide +kernel
theorem s63_1 {x0 : Nat} {x1 : Int32} {x2 : Int32} {s0 : Nat} : ip_WP 63 1 [some (.ref x0), some (.int x1), some (.int x2)] [.ref s0] (G, F, I, J) b post px ↔ ip_WP 63 2 [some (.ref x0), some (.int x1), some (.int x2)] [.int 0, .ref s0] (G, F, I, J) b post px := ip_s_iconst f63_1 (by decide)
theorem f63_2 : ip_fetch 63 2 = some (.putfield 86, 3) := by decide +kernel
set_option maxRecDepth 100000 in
theorem s63_2 {x0 : Nat} {x1 : Int32} {x2 : Int32} {s0 : Nat} {s1 : Int32} : ip_WP 63 2 [some (.ref x0), some (.int x1), some (.int x2)] [.int s1, .ref s0] (G, F, I, J) b post px ↔ (ip_isO G s0 1 = true ∧ ip_WP 63 5 [some (.ref x0), some (.int x1), some (.int x2)] [] (G, ip_up F s0 1 (.int s1), I, J) b post px) := ip_s_put f63_2 (by decide +kernel) rfl
theorem f63_5 : ip_fetch 63 5 = some (.iload_n 1, 1) := by decide +kernel
theorem s63_5 {x0 : Nat} {x1 : Int32} {x2 : Int32} : ip_WP 63 5 [some (.ref x0), some (.int x1), some (.int x2)] [] (G, F, I, J) b post px ↔ ip_WP 63 6 [some (.ref x0), some (.int x1), some (.int x2)] [.int x1] (G, F, I, J) b post px := ip_nx_iff ((ip_st_of f63_5).trans rfl)
theorem f63_6 : ip_fetch 63 6 = some (.iconst 0, 1) := by decide +kernel
theorem s63_6 {x0 : Nat} {x1 : Int32} {x2 : Int32} {s0 : Int32} : ip_WP 63 6 [some (.ref x0), some (.int x1), some (.int x2)] [.int s0] (G, F, I, J) b post px ↔ ip_WP 63 7 [some (.ref x0), some (.int x1), some (.int x2)] [.int 0, .int s0] (G, F, I, J) b post px := ip_s_iconst f63_6 (by decide)
theorem f63_7 : ip_fetch 63 7 = some (.aload_n 0, 1) := by decide +kernel
theorem s63_7 {x0 : Nat} {x1 : Int32} {x2 : Int32} {s0 : Int32} {s1 : Int32} : ip_WP 63 7 [some (.ref x0), some (.int x1), some (.int x2)] [.int s1, .int s0] (G, F, I, J) b post px ↔ ip_WP 63 8 [some (.ref x0), some (.int x1), some (.int x2)] [.ref x0, .int s1, .int s0] (G, F, I, J) b post px := ip_nx_iff ((ip_st_of f63_7).trans rfl)
theorem f63_8 : ip_fetch 63 8 = some (.getfield 34, 3) := by decide +kernel
set_option maxRecDepth 100000 in
theorem s63_8 {x0 : Nat} {x1 : Int32} {x2 : Int32} {s0 : Int32} {s1 : Int32} {s2 : Nat} : ip_WP 63 8 [some (.ref x0), some (.int x1), some (.int x2)] [.ref s2, .int s1, .int s0] (G, F, I, J) b post px ↔ (ip_isO G s2 1 = true ∧ ip_WP 63 11 [some (.ref x0), some (.int x1), some (.int x2)] [F s2 16, .int s1, .int s0] (G, F, I, J) b post px) := ip_s_getf f63_8 (by decide +kernel)
theorem f63_11 : ip_fetch 63 11 = some (.iconst 0, 1) := by decide +kernel
theorem s63_11 {x0 : Nat} {x1 : Int32} {x2 : Int32} {s0 : Int32} {s1 : Int32} {s2 : Nat} : ip_WP 63 11 [some (.ref x0), some (.int x1), some (.int x2)] [.ref s2, .int s1, .int s0] (G, F, I, J) b post px ↔ ip_WP 63 12 [some (.ref x0), some (.int x1), some (.int x2)] [.int 0, .ref s2, .int s1, .int s0] (G, F, I, J) b post px := ip_s_iconst f63_11 (by decide)
theorem f63_12 : ip_fetch 63 12 = some (.iaload, 1) := by decide +kernel
theorem s63_12 {x0 : Nat} {x1 : Int32} {x2 : Int32} {s0 : Int32} {s1 : Int32} {s2 : Nat} {s3 : Int32} : ip_WP 63 12 [some (.ref x0), some (.int x1), some (.int x2)] [.int s3, .ref s2, .int s1, .int s0] (G, F, I, J) b post px ↔ (ip_inA G s2 0 s3 = true ∧ ip_WP 63 13 [some (.ref x0), some (.int x1), some (.int x2)] [.int (I s2 s3.toNatClampNeg), .int s1, .int s0] (G, F, I, J) b post px) := ip_ck_iff ((ip_st_of f63_12).trans rfl) ip_nx_iff
theorem f63_13 : ip_fetch 63 13 = some (.iconst 1, 1) := by decide +kernel
theorem s63_13 {x0 : Nat} {x1 : Int32} {x2 : Int32} {s0 : Int32} {s1 : Int32} {s2 : Int32} : ip_WP 63 13 [some (.ref x0), some (.int x1), some (.int x2)] [.int s2, .int s1, .int s0] (G, F, I, J) b post px ↔ ip_WP 63 14 [some (.ref x0), some (.int x1), some (.int x2)] [.int 1, .int s2, .int s1, .int s0] (G, F, I, J) b post px := ip_s_iconst f63_13 (by decide)
theorem f63_14 : ip_fetch 63 14 = some (.isub, 1) := by decide +kernel
theorem s63_14 {x0 : Nat} {x1 : Int32} {x2 : Int32} {s0 : Int32} {s1 : Int32} {s2 : Int32} {s3 : Int32} : ip_WP 63 14 [some (.ref x0), some (.int x1), some (.int x2)] [.int s3, .int s2, .int s1, .int s0] (G, F, I, J) b post px ↔ ip_WP 63 15 [some (.ref x0), some (.int x1), some (.int x2)] [.int (s2 - s3), .int s1, .int s0] (G, F, I, J) b post px := ip_nx_iff ((ip_st_of f63_14).trans rfl)
theorem f63_15 : ip_fetch 63 15 = some (.invokestatic 97, 3) := by decide +kernel
set_option maxRecDepth 100000 in
theorem s63_15 {x0 : Nat} {x1 : Int32} {x2 : Int32} {s0 : Int32} {s1 : Int32} {s2 : Int32} : ip_WP 63 15 [some (.ref x0), some (.int x1), some (.int x2)] [.int s2, .int s1, .int s0] (G, F, I, J) b post px ↔ ip_WP 22 0 [some (.int s0), some (.int s1), some (.int s2)] [] (G, F, I, J) (0, 0) (fun r h' => ip_WP 63 18 [some (.ref x0), some (.int x1), some (.int x2)] (r.toList ++ []) h' b post px) (fun _ _ => False) := ip_cl_iff ((ip_st_of f63_15).trans (rfl : _ = ip_cl 22 [some (.int s0), some (.int s1), some (.int s2)] [] (0, 0) b))
theorem f63_18 : ip_fetch 63 18 = some (.ifCond .eq 12, 3) := by decide +kernel
theorem s63_18 {x0 : Nat} {x1 : Int32} {x2 : Int32} {s0 : Int32} : ip_WP 63 18 [some (.ref x0), some (.int x1), some (.int x2)] [.int s0] (G, F, I, J) b post px ↔ if s0 = 0 then ip_WP 63 30 [some (.ref x0), some (.int x1), some (.int x2)] [] (G, F, I, J) b post px else ip_WP 63 21 [some (.ref x0), some (.int x1), some (.int x2)] [] (G, F, I, J) b post px := ip_s_if_eq f63_18 rfl
theorem f63_21 : ip_fetch 63 21 = some (.iload_n 2, 1) := by decide +kernel
theorem s63_21 {x0 : Nat} {x1 : Int32} {x2 : Int32} : ip_WP 63 21 [some (.ref x0), some (.int x1), some (.int x2)] [] (G, F, I, J) b post px ↔ ip_WP 63 22 [some (.ref x0), some (.int x1), some (.int x2)] [.int x2] (G, F, I, J) b post px := ip_nx_iff ((ip_st_of f63_21).trans rfl)
theorem f63_22 : ip_fetch 63 22 = some (.iconst 0, 1) := by decide +kernel
theorem s63_22 {x0 : Nat} {x1 : Int32} {x2 : Int32} {s0 : Int32} : ip_WP 63 22 [some (.ref x0), some (.int x1), some (.int x2)] [.int s0] (G, F, I, J) b post px ↔ ip_WP 63 23 [some (.ref x0), some (.int x1), some (.int x2)] [.int 0, .int s0] (G, F, I, J) b post px := ip_s_iconst f63_22 (by decide)
theorem f63_23 : ip_fetch 63 23 = some (.iconst 3, 1) := by decide +kernel
theorem s63_23 {x0 : Nat} {x1 : Int32} {x2 : Int32} {s0 : Int32} {s1 : Int32} : ip_WP 63 23 [some (.ref x0), some (.int x1), some (.int x2)] [.int s1, .int s0] (G, F, I, J) b post px ↔ ip_WP 63 24 [some (.ref x0), some (.int x1), some (.int x2)] [.int 3, .int s1, .int s0] (G, F, I, J) b post px := ip_s_iconst f63_23 (by decide)
theorem f63_24 : ip_fetch 63 24 = some (.invokestatic 97, 3) := by decide +kernel
set_option maxRecDepth 100000 in
theorem s63_24 {x0 : Nat} {x1 : Int32} {x2 : Int32} {s0 : Int32} {s1 : Int32} {s2 : Int32} : ip_WP 63 24 [some (.ref x0), some (.int x1), some (.int x2)] [.int s2, .int s1, .int s0] (G, F, I, J) b post px ↔ ip_WP 22 0 [some (.int s0), some (.int s1), some (.int s2)] [] (G, F, I, J) (0, 0) (fun r h' => ip_WP 63 27 [some (.ref x0), some (.int x1), some (.int x2)] (r.toList ++ []) h' b post px) (fun _ _ => False) := ip_cl_iff ((ip_st_of f63_24).trans (rfl : _ = ip_cl 22 [some (.int s0), some (.int s1), some (.int s2)] [] (0, 0) b))
theorem f63_27 : ip_fetch 63 27 = some (.ifCond .ne 9, 3) := by decide +kernel
theorem s63_27 {x0 : Nat} {x1 : Int32} {x2 : Int32} {s0 : Int32} : ip_WP 63 27 [some (.ref x0), some (.int x1), some (.int x2)] [.int s0] (G, F, I, J) b post px ↔ if ¬ s0 = 0 then ip_WP 63 36 [some (.ref x0), some (.int x1), some (.int x2)] [] (G, F, I, J) b post px else ip_WP 63 30 [some (.ref x0), some (.int x1), some (.int x2)] [] (G, F, I, J) b post px := ip_s_if_ne f63_27 rfl
theorem f63_30 : ip_fetch 63 30 = some (.aload_n 0, 1) := by decide +kernel
theorem s63_30 {x0 : Nat} {x1 : Int32} {x2 : Int32} : ip_WP 63 30 [some (.ref x0), some (.int x1), some (.int x2)] [] (G, F, I, J) b post px ↔ ip_WP 63 31 [some (.ref x0), some (.int x1), some (.int x2)] [.ref x0] (G, F, I, J) b post px := ip_nx_iff ((ip_st_of f63_30).trans rfl)
theorem f63_31 : ip_fetch 63 31 = some (.iconst 1, 1) := by decide +kernel
theorem s63_31 {x0 : Nat} {x1 : Int32} {x2 : Int32} {s0 : Nat} : ip_WP 63 31 [some (.ref x0), some (.int x1), some (.int x2)] [.ref s0] (G, F, I, J) b post px ↔ ip_WP 63 32 [some (.ref x0), some (.int x1), some (.int x2)] [.int 1, .ref s0] (G, F, I, J) b post px := ip_s_iconst f63_31 (by decide)
theorem f63_32 : ip_fetch 63 32 = some (.invokevirtual 93, 3) := by decide +kernel
set_option maxRecDepth 100000 in
theorem s63_32 {x0 : Nat} {x1 : Int32} {x2 : Int32} {s0 : Nat} {s1 : Int32} : ip_WP 63 32 [some (.ref x0), some (.int x1), some (.int x2)] [.int s1, .ref s0] (G, F, I, J) b post px ↔ (ip_isO G s0 1 = true ∧ ip_WP 21 0 [some (.ref s0), some (.int s1)] [] (G, F, I, J) (0, 0) (fun r h' => ip_WP 63 35 [some (.ref x0), some (.int x1), some (.int x2)] (r.toList ++ []) h' b post px) (fun _ _ => False)) := ip_ck_iff (x := ip_cl 21 [some (.ref s0), some (.int s1)] [] (0, 0) b) ((ip_st_of f63_32).trans rfl) (ip_cl_iff)
theorem f63_35 : ip_fetch 63 35 = some (.ireturn, 1) := by decide +kernel
theorem s63_35 {x0 : Nat} {x1 : Int32} {x2 : Int32} {s0 : Int32} : ip_WP 63 35 [some (.ref x0), some (.int x1), some (.int x2)] [.int s0] (G, F, I, J) b post px ↔ post (some (.int s0)) (G, F, I, J) := ip_rt_iff ((ip_st_of f63_35).trans rfl)
theorem f63_36 : ip_fetch 63 36 = some (.iload_n 2, 1) := by decide +kernel
theorem s63_36 {x0 : Nat} {x1 : Int32} {x2 : Int32} : ip_WP 63 36 [some (.ref x0), some (.int x1), some (.int x2)] [] (G, F, I, J) b post px ↔ ip_WP 63 37 [some (.ref x0), some (.int x1), some (.int x2)] [.int x2] (G, F, I, J) b post px := ip_nx_iff ((ip_st_of f63_36).trans rfl)
theorem f63_37 : ip_fetch 63 37 = some (.ifCond .ne 12, 3) := by decide +kernel
theorem s63_37 {x0 : Nat} {x1 : Int32} {x2 : Int32} {s0 : Int32} : ip_WP 63 37 [some (.ref x0), some (.int x1), some (.int x2)] [.int s0] (G, F, I, J) b post px ↔ if ¬ s0 = 0 then ip_WP 63 49 [some (.ref x0), some (.int x1), some (.int x2)] [] (G, F, I, J) b post px else ip_WP 63 40 [some (.ref x0), some (.int x1), some (.int x2)] [] (G, F, I, J) b post px := ip_s_if_ne f63_37 rfl
theorem f63_40 : ip_fetch 63 40 = some (.aload_n 0, 1) := by decide +kernel
theorem s63_40 {x0 : Nat} {x1 : Int32} {x2 : Int32} : ip_WP 63 40 [some (.ref x0), some (.int x1), some (.int x2)] [] (G, F, I, J) b post px ↔ ip_WP 63 41 [some (.ref x0), some (.int x1), some (.int x2)] [.ref x0] (G, F, I, J) b post px := ip_nx_iff ((ip_st_of f63_40).trans rfl)
theorem f63_41 : ip_fetch 63 41 = some (.getfield 40, 3) := by decide +kernel
set_option maxRecDepth 100000 in
theorem s63_41 {x0 : Nat} {x1 : Int32} {x2 : Int32} {s0 : Nat} : ip_WP 63 41 [some (.ref x0), some (.int x1), some (.int x2)] [.ref s0] (G, F, I, J) b post px ↔ (ip_isO G s0 1 = true ∧ ip_WP 63 44 [some (.ref x0), some (.int x1), some (.int x2)] [F s0 18] (G, F, I, J) b post px) := ip_s_getf f63_41 (by decide +kernel)
theorem f63_44 : ip_fetch 63 44 = some (.iload_n 1, 1) := by decide +kernel
theorem s63_44 {x0 : Nat} {x1 : Int32} {x2 : Int32} {s0 : Nat} : ip_WP 63 44 [some (.ref x0), some (.int x1), some (.int x2)] [.ref s0] (G, F, I, J) b post px ↔ ip_WP 63 45 [some (.ref x0), some (.int x1), some (.int x2)] [.int x1, .ref s0] (G, F, I, J) b post px := ip_nx_iff ((ip_st_of f63_44).trans rfl)
theorem f63_45 : ip_fetch 63 45 = some (.iaload, 1) := by decide +kernel
theorem s63_45 {x0 : Nat} {x1 : Int32} {x2 : Int32} {s0 : Nat} {s1 : Int32} : ip_WP 63 45 [some (.ref x0), some (.int x1), some (.int x2)] [.int s1, .ref s0] (G, F, I, J) b post px ↔ (ip_inA G s0 0 s1 = true ∧ ip_WP 63 46 [some (.ref x0), some (.int x1), some (.int x2)] [.int (I s0 s1.toNatClampNeg)] (G, F, I, J) b post px) := ip_ck_iff ((ip_st_of f63_45).trans rfl) ip_nx_iff
theorem f63_46 : ip_fetch 63 46 = some (.goto 44, 3) := by decide +kernel
theorem s63_46 {x0 : Nat} {x1 : Int32} {x2 : Int32} {s0 : Int32} : ip_WP 63 46 [some (.ref x0), some (.int x1), some (.int x2)] [.int s0] (G, F, I, J) b post px ↔ ip_WP 63 90 [some (.ref x0), some (.int x1), some (.int x2)] [.int s0] (G, F, I, J) b post px := ip_nx_iff ((ip_st_of f63_46).trans rfl)
theorem f63_49 : ip_fetch 63 49 = some (.iload_n 2, 1) := by decide +kernel
theorem s63_49 {x0 : Nat} {x1 : Int32} {x2 : Int32} : ip_WP 63 49 [some (.ref x0), some (.int x1), some (.int x2)] [] (G, F, I, J) b post px ↔ ip_WP 63 50 [some (.ref x0), some (.int x1), some (.int x2)] [.int x2] (G, F, I, J) b post px := ip_nx_iff ((ip_st_of f63_49).trans rfl)
theorem f63_50 : ip_fetch 63 50 = some (.iconst 1, 1) := by decide +kernel
theorem s63_50 {x0 : Nat} {x1 : Int32} {x2 : Int32} {s0 : Int32} : ip_WP 63 50 [some (.ref x0), some (.int x1), some (.int x2)] [.int s0] (G, F, I, J) b post px ↔ ip_WP 63 51 [some (.ref x0), some (.int x1), some (.int x2)] [.int 1, .int s0] (G, F, I, J) b post px := ip_s_iconst f63_50 (by decide)
theorem f63_51 : ip_fetch 63 51 = some (.if_icmp .ne 12, 3) := by decide +kernel
theorem s63_51 {x0 : Nat} {x1 : Int32} {x2 : Int32} {s0 : Int32} {s1 : Int32} : ip_WP 63 51 [some (.ref x0), some (.int x1), some (.int x2)] [.int s1, .int s0] (G, F, I, J) b post px ↔ if ¬ s0 = s1 then ip_WP 63 63 [some (.ref x0), some (.int x1), some (.int x2)] [] (G, F, I, J) b post px else ip_WP 63 54 [some (.ref x0), some (.int x1), some (.int x2)] [] (G, F, I, J) b post px := ip_s_ic_ne f63_51 rfl
theorem f63_54 : ip_fetch 63 54 = some (.aload_n 0, 1) := by decide +kernel
theorem s63_54 {x0 : Nat} {x1 : Int32} {x2 : Int32} : ip_WP 63 54 [some (.ref x0), some (.int x1), some (.int x2)] [] (G, F, I, J) b post px ↔ ip_WP 63 55 [some (.ref x0), some (.int x1), some (.int x2)] [.ref x0] (G, F, I, J) b post px := ip_nx_iff ((ip_st_of f63_54).trans rfl)
theorem f63_55 : ip_fetch 63 55 = some (.getfield 47, 3) := by decide +kernel
set_option maxRecDepth 100000 in
theorem s63_55 {x0 : Nat} {x1 : Int32} {x2 : Int32} {s0 : Nat} : ip_WP 63 55 [some (.ref x0), some (.int x1), some (.int x2)] [.ref s0] (G, F, I, J) b post px ↔ (ip_isO G s0 1 = true ∧ ip_WP 63 58 [some (.ref x0), some (.int x1), some (.int x2)] [F s0 20] (G, F, I, J) b post px) := ip_s_getf f63_55 (by decide +kernel)
theorem f63_58 : ip_fetch 63 58 = some (.iload_n 1, 1) := by decide +kernel
theorem s63_58 {x0 : Nat} {x1 : Int32} {x2 : Int32} {s0 : Nat} : ip_WP 63 58 [some (.ref x0), some (.int x1), some (.int x2)] [.ref s0] (G, F, I, J) b post px ↔ ip_WP 63 59 [some (.ref x0), some (.int x1), some (.int x2)] [.int x1, .ref s0] (G, F, I, J) b post px := ip_nx_iff ((ip_st_of f63_58).trans rfl)
theorem f63_59 : ip_fetch 63 59 = some (.iaload, 1) := by decide +kernel
theorem s63_59 {x0 : Nat} {x1 : Int32} {x2 : Int32} {s0 : Nat} {s1 : Int32} : ip_WP 63 59 [some (.ref x0), some (.int x1), some (.int x2)] [.int s1, .ref s0] (G, F, I, J) b post px ↔ (ip_inA G s0 0 s1 = true ∧ ip_WP 63 60 [some (.ref x0), some (.int x1), some (.int x2)] [.int (I s0 s1.toNatClampNeg)] (G, F, I, J) b post px) := ip_ck_iff ((ip_st_of f63_59).trans rfl) ip_nx_iff
theorem f63_60 : ip_fetch 63 60 = some (.goto 30, 3) := by decide +kernel
theorem s63_60 {x0 : Nat} {x1 : Int32} {x2 : Int32} {s0 : Int32} : ip_WP 63 60 [some (.ref x0), some (.int x1), some (.int x2)] [.int s0] (G, F, I, J) b post px ↔ ip_WP 63 90 [some (.ref x0), some (.int x1), some (.int x2)] [.int s0] (G, F, I, J) b post px := ip_nx_iff ((ip_st_of f63_60).trans rfl)
theorem f63_63 : ip_fetch 63 63 = some (.iload_n 2, 1) := by decide +kernel
theorem s63_63 {x0 : Nat} {x1 : Int32} {x2 : Int32} : ip_WP 63 63 [some (.ref x0), some (.int x1), some (.int x2)] [] (G, F, I, J) b post px ↔ ip_WP 63 64 [some (.ref x0), some (.int x1), some (.int x2)] [.int x2] (G, F, I, J) b post px := ip_nx_iff ((ip_st_of f63_63).trans rfl)
theorem f63_64 : ip_fetch 63 64 = some (.iconst 2, 1) := by decide +kernel
theorem s63_64 {x0 : Nat} {x1 : Int32} {x2 : Int32} {s0 : Int32} : ip_WP 63 64 [some (.ref x0), some (.int x1), some (.int x2)] [.int s0] (G, F, I, J) b post px ↔ ip_WP 63 65 [some (.ref x0), some (.int x1), some (.int x2)] [.int 2, .int s0] (G, F, I, J) b post px := ip_s_iconst f63_64 (by decide)
theorem f63_65 : ip_fetch 63 65 = some (.if_icmp .ne 20, 3) := by decide +kernel
theorem s63_65 {x0 : Nat} {x1 : Int32} {x2 : Int32} {s0 : Int32} {s1 : Int32} : ip_WP 63 65 [some (.ref x0), some (.int x1), some (.int x2)] [.int s1, .int s0] (G, F, I, J) b post px ↔ if ¬ s0 = s1 then ip_WP 63 85 [some (.ref x0), some (.int x1), some (.int x2)] [] (G, F, I, J) b post px else ip_WP 63 68 [some (.ref x0), some (.int x1), some (.int x2)] [] (G, F, I, J) b post px := ip_s_ic_ne f63_65 rfl
theorem f63_68 : ip_fetch 63 68 = some (.aload_n 0, 1) := by decide +kernel
theorem s63_68 {x0 : Nat} {x1 : Int32} {x2 : Int32} : ip_WP 63 68 [some (.ref x0), some (.int x1), some (.int x2)] [] (G, F, I, J) b post px ↔ ip_WP 63 69 [some (.ref x0), some (.int x1), some (.int x2)] [.ref x0] (G, F, I, J) b post px := ip_nx_iff ((ip_st_of f63_68).trans rfl)
theorem f63_69 : ip_fetch 63 69 = some (.getfield 50, 3) := by decide +kernel
set_option maxRecDepth 100000 in
theorem s63_69 {x0 : Nat} {x1 : Int32} {x2 : Int32} {s0 : Nat} : ip_WP 63 69 [some (.ref x0), some (.int x1), some (.int x2)] [.ref s0] (G, F, I, J) b post px ↔ (ip_isO G s0 1 = true ∧ ip_WP 63 72 [some (.ref x0), some (.int x1), some (.int x2)] [F s0 21] (G, F, I, J) b post px) := ip_s_getf f63_69 (by decide +kernel)
theorem f63_72 : ip_fetch 63 72 = some (.iload_n 1, 1) := by decide +kernel
theorem s63_72 {x0 : Nat} {x1 : Int32} {x2 : Int32} {s0 : Nat} : ip_WP 63 72 [some (.ref x0), some (.int x1), some (.int x2)] [.ref s0] (G, F, I, J) b post px ↔ ip_WP 63 73 [some (.ref x0), some (.int x1), some (.int x2)] [.int x1, .ref s0] (G, F, I, J) b post px := ip_nx_iff ((ip_st_of f63_72).trans rfl)
theorem f63_73 : ip_fetch 63 73 = some (.baload, 1) := by decide +kernel
theorem s63_73 {x0 : Nat} {x1 : Int32} {x2 : Int32} {s0 : Nat} {s1 : Int32} : ip_WP 63 73 [some (.ref x0), some (.int x1), some (.int x2)] [.int s1, .ref s0] (G, F, I, J) b post px ↔ ((ip_inA G s0 1 s1 || ip_inA G s0 3 s1) = true ∧ ip_WP 63 74 [some (.ref x0), some (.int x1), some (.int x2)] [.int (I s0 s1.toNatClampNeg)] (G, F, I, J) b post px) := ip_ck_iff ((ip_st_of f63_73).trans rfl) ip_nx_iff
theorem f63_74 : ip_fetch 63 74 = some (.ifCond .eq 7, 3) := by decide +kernel
theorem s63_74 {x0 : Nat} {x1 : Int32} {x2 : Int32} {s0 : Int32} : ip_WP 63 74 [some (.ref x0), some (.int x1), some (.int x2)] [.int s0] (G, F, I, J) b post px ↔ if s0 = 0 then ip_WP 63 81 [some (.ref x0), some (.int x1), some (.int x2)] [] (G, F, I, J) b post px else ip_WP 63 77 [some (.ref x0), some (.int x1), some (.int x2)] [] (G, F, I, J) b post px := ip_s_if_eq f63_74 rfl
theorem f63_77 : ip_fetch 63 77 = some (.iconst 1, 1) := by decide +kernel
theorem s63_77 {x0 : Nat} {x1 : Int32} {x2 : Int32} : ip_WP 63 77 [some (.ref x0), some (.int x1), some (.int x2)] [] (G, F, I, J) b post px ↔ ip_WP 63 78 [some (.ref x0), some (.int x1), some (.int x2)] [.int 1] (G, F, I, J) b post px := ip_s_iconst f63_77 (by decide)
theorem f63_78 : ip_fetch 63 78 = some (.goto 12, 3) := by decide +kernel
theorem s63_78 {x0 : Nat} {x1 : Int32} {x2 : Int32} {s0 : Int32} : ip_WP 63 78 [some (.ref x0), some (.int x1), some (.int x2)] [.int s0] (G, F, I, J) b post px ↔ ip_WP 63 90 [some (.ref x0), some (.int x1), some (.int x2)] [.int s0] (G, F, I, J) b post px := ip_nx_iff ((ip_st_of f63_78).trans rfl)
theorem f63_81 : ip_fetch 63 81 = some (.iconst 0, 1) := by decide +kernel
theorem s63_81 {x0 : Nat} {x1 : Int32} {x2 : Int32} : ip_WP 63 81 [some (.ref x0), some (.int x1), some (.int x2)] [] (G, F, I, J) b post px ↔ ip_WP 63 82 [some (.ref x0), some (.int x1), some (.int x2)] [.int 0] (G, F, I, J) b post px := ip_s_iconst f63_81 (by decide)
theorem f63_82 : ip_fetch 63 82 = some (.goto 8, 3) := by decide +kernel
theorem s63_82 {x0 : Nat} {x1 : Int32} {x2 : Int32} {s0 : Int32} : ip_WP 63 82 [some (.ref x0), some (.int x1), some (.int x2)] [.int s0] (G, F, I, J) b post px ↔ ip_WP 63 90 [some (.ref x0), some (.int x1), some (.int x2)] [.int s0] (G, F, I, J) b post px := ip_nx_iff ((ip_st_of f63_82).trans rfl)
theorem f63_85 : ip_fetch 63 85 = some (.aload_n 0, 1) := by decide +kernel
theorem s63_85 {x0 : Nat} {x1 : Int32} {x2 : Int32} : ip_WP 63 85 [some (.ref x0), some (.int x1), some (.int x2)] [] (G, F, I, J) b post px ↔ ip_WP 63 86 [some (.ref x0), some (.int x1), some (.int x2)] [.ref x0] (G, F, I, J) b post px := ip_nx_iff ((ip_st_of f63_85).trans rfl)
theorem f63_86 : ip_fetch 63 86 = some (.iload_n 1, 1) := by decide +kernel
theorem s63_86 {x0 : Nat} {x1 : Int32} {x2 : Int32} {s0 : Nat} : ip_WP 63 86 [some (.ref x0), some (.int x1), some (.int x2)] [.ref s0] (G, F, I, J) b post px ↔ ip_WP 63 87 [some (.ref x0), some (.int x1), some (.int x2)] [.int x1, .ref s0] (G, F, I, J) b post px := ip_nx_iff ((ip_st_of f63_86).trans rfl)
theorem f63_87 : ip_fetch 63 87 = some (.invokevirtual 237, 3) := by decide +kernel
set_option maxRecDepth 100000 in
theorem s63_87 {x0 : Nat} {x1 : Int32} {x2 : Int32} {s0 : Nat} {s1 : Int32} : ip_WP 63 87 [some (.ref x0), some (.int x1), some (.int x2)] [.int s1, .ref s0] (G, F, I, J) b post px ↔ (ip_isO G s0 1 = true ∧ ip_WP 58 0 [some (.ref s0), some (.int s1), none, none] [] (G, F, I, J) (0, 0) (fun r h' => ip_WP 63 90 [some (.ref x0), some (.int x1), some (.int x2)] (r.toList ++ []) h' b post px) (fun _ _ => False)) := ip_ck_iff (x := ip_cl 58 [some (.ref s0), some (.int s1), none, none] [] (0, 0) b) ((ip_st_of f63_87).trans rfl) (ip_cl_iff)
theorem f63_90 : ip_fetch 63 90 = some (.ireturn, 1) := by decide +kernel
theorem s63_90 {x0 : Nat} {x1 : Int32} {x2 : Int32} {s0 : Int32} : ip_WP 63 90 [some (.ref x0), some (.int x1), some (.int x2)] [.int s0] (G, F, I, J) b post px ↔ post (some (.int s0)) (G, F, I, J) := ip_rt_iff ((ip_st_of f63_90).trans rfl)
end
