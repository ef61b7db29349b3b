section
variable {G : List ip_K} {F : Nat → Nat → Value} {I : Nat → Nat → Int32} {J : Nat → Nat → Int64} {b : ip_B} {post : Option Value → ip_H → Prop} {px : String → ip_H → Prop}
theorem f154_0 : ip_fetch 154 0 = some (.aload_n 0, 1) := by decide +kernel
theorem s154_0 {x0 : Nat} {x1 : Int32} : ip_WP 154 0 [some (.ref x0), some (.int x1)] [] (G, F, I, J) b post px ↔ ip_WP 154 1 [some (.ref x0), some (.int x1)] [.ref x0] (G, F, I, J) b post px := ip_nx_iff ((ip_st_of f154_0).trans rfl)
theorem f154_1 : ip_fetch 154 1 = some (.getfield 15, 3) := by decide +kernel
set_option maxRecDepth 100000 in
theorem s154_1 {x0 : Nat} {x1 : Int32} {s0 : Nat} : ip_WP 154 1 [some (.ref x0), some (.int x1)] [.ref s0] (G, F, I, J) b post px ↔ (ip_isO G s0 7 = true ∧ ip_WP 154 4 [some (.ref x0), some (.int x1)] [F s0 1] (G, F, I, J) b post px) := ip_s_getf f154_1 (by decide +kernel)
theorem f154_4 : ip_fetch 154 4 = some (.ldc 126, 2) := by decide +kernel
set_option maxRecDepth 100000 in
theorem s154_4 {x0 : Nat} {x1 : Int32} {s0 : Nat} : ip_WP 154 4 [some (.ref x0), some (.int x1)] [.ref s0] (G, F, I, J) b post px ↔ ip_WP 154 6 [some (.ref x0), some (.int x1)] [.ref 1000016, .ref s0] (G, F, I, J) b post px := ip_nx_iff ((ip_st_of f154_4).trans rfl)
theorem f154_6 : ip_fetch 154 6 = some (.invokevirtual 71, 3) := by decide +kernel
set_option maxRecDepth 100000 in
theorem s154_6 {x0 : Nat} {x1 : Int32} {s0 : Nat} {s1 : Nat} : ip_WP 154 6 [some (.ref x0), some (.int x1)] [.ref s1, .ref s0] (G, F, I, J) b post px ↔ (ip_isO G s0 2 = true ∧ ip_WP 93 0 [some (.ref s0), some (.ref s1), none] [] (G, F, I, J) (0, 0) (fun r h' => ip_WP 154 9 [some (.ref x0), some (.int x1)] (r.toList ++ []) h' b post px) (fun _ _ => False)) := ip_ck_iff (x := ip_cl 93 [some (.ref s0), some (.ref s1), none] [] (0, 0) b) ((ip_st_of f154_6).trans rfl) (ip_cl_iff)
theorem f154_9 : ip_fetch 154 9 = some (.aload_n 0, 1) := by decide +kernel
theorem s154_9 {x0 : Nat} {x1 : Int32} : ip_WP 154 9 [some (.ref x0), some (.int x1)] [] (G, F, I, J) b post px ↔ ip_WP 154 10 [some (.ref x0), some (.int x1)] [.ref x0] (G, F, I, J) b post px := ip_nx_iff ((ip_st_of f154_9).trans rfl)
theorem f154_10 : ip_fetch 154 10 = some (.aload_n 0, 1) := by decide +kernel
theorem s154_10 {x0 : Nat} {x1 : Int32} {s0 : Nat} : ip_WP 154 10 [some (.ref x0), some (.int x1)] [.ref s0] (G, F, I, J) b post px ↔ ip_WP 154 11 [some (.ref x0), some (.int x1)] [.ref x0, .ref s0] (G, F, I, J) b post px := ip_nx_iff ((ip_st_of f154_10).trans rfl)
theorem f154_11 : ip_fetch 154 11 = some (.getfield 9, 3) := by decide +kernel
set_option maxRecDepth 100000 in
theorem s154_11 {x0 : Nat} {x1 : Int32} {s0 : Nat} {s1 : Nat} : ip_WP 154 11 [some (.ref x0), some (.int x1)] [.ref s1, .ref s0] (G, F, I, J) b post px ↔ (ip_isO G s1 7 = true ∧ ip_WP 154 14 [some (.ref x0), some (.int x1)] [F s1 0, .ref s0] (G, F, I, J) b post px) := ip_s_getf f154_11 (by decide +kernel)
theorem f154_14 : ip_fetch 154 14 = some (.getfield 27, 3) := by decide +kernel
set_option maxRecDepth 100000 in
theorem s154_14 {x0 : Nat} {x1 : Int32} {s0 : Nat} {s1 : Nat} : ip_WP 154 14 [some (.ref x0), some (.int x1)] [.ref s1, .ref s0] (G, F, I, J) b post px ↔ (ip_isO G s1 3 = true ∧ ip_WP 154 17 [some (.ref x0), some (.int x1)] [F s1 1, .ref s0] (G, F, I, J) b post px) := ip_s_getf f154_14 (by decide +kernel)
theorem f154_17 : ip_fetch 154 17 = some (.aload_n 0, 1) := by decide +kernel
theorem s154_17 {x0 : Nat} {x1 : Int32} {s0 : Nat} {s1 : Nat} : ip_WP 154 17 [some (.ref x0), some (.int x1)] [.ref s1, .ref s0] (G, F, I, J) b post px ↔ ip_WP 154 18 [some (.ref x0), some (.int x1)] [.ref x0, .ref s1, .ref s0] (G, F, I, J) b post px := ip_nx_iff ((ip_st_of f154_17).trans rfl)
theorem f154_18 : ip_fetch 154 18 = some (.getfield 9, 3) := by decide +kernel
set_option maxRecDepth 100000 in
theorem s154_18 {x0 : Nat} {x1 : Int32} {s0 : Nat} {s1 : Nat} {s2 : Nat} : ip_WP 154 18 [some (.ref x0), some (.int x1)] [.ref s2, .ref s1, .ref s0] (G, F, I, J) b post px ↔ (ip_isO G s2 7 = true ∧ ip_WP 154 21 [some (.ref x0), some (.int x1)] [F s2 0, .ref s1, .ref s0] (G, F, I, J) b post px) := ip_s_getf f154_18 (by decide +kernel)
theorem f154_21 : ip_fetch 154 21 = some (.getfield 128, 3) := by decide +kernel
set_option maxRecDepth 100000 in
theorem s154_21 {x0 : Nat} {x1 : Int32} {s0 : Nat} {s1 : Nat} {s2 : Nat} : ip_WP 154 21 [some (.ref x0), some (.int x1)] [.ref s2, .ref s1, .ref s0] (G, F, I, J) b post px ↔ (ip_isO G s2 3 = true ∧ ip_WP 154 24 [some (.ref x0), some (.int x1)] [F s2 8, .ref s1, .ref s0] (G, F, I, J) b post px) := ip_s_getf f154_21 (by decide +kernel)
theorem f154_24 : ip_fetch 154 24 = some (.iload_n 1, 1) := by decide +kernel
theorem s154_24 {x0 : Nat} {x1 : Int32} {s0 : Nat} {s1 : Nat} {s2 : Nat} : ip_WP 154 24 [some (.ref x0), some (.int x1)] [.ref s2, .ref s1, .ref s0] (G, F, I, J) b post px ↔ ip_WP 154 25 [some (.ref x0), some (.int x1)] [.int x1, .ref s2, .ref s1, .ref s0] (G, F, I, J) b post px := ip_nx_iff ((ip_st_of f154_24).trans rfl)
theorem f154_25 : ip_fetch 154 25 = some (.invokevirtual 111, 3) := by decide +kernel
set_option maxRecDepth 100000 in
theorem s154_25 {x0 : Nat} {x1 : Int32} {s0 : Nat} {s1 : Nat} {s2 : Nat} {s3 : Int32} : ip_WP 154 25 [some (.ref x0), some (.int x1)] [.int s3, .ref s2, .ref s1, .ref s0] (G, F, I, J) b post px ↔ (ip_isO G s2 9 = true ∧ ip_WP 191 0 [some (.ref s2), some (.int s3)] [] (G, F, I, J) (0, 0) (fun r h' => ip_WP 154 28 [some (.ref x0), some (.int x1)] (r.toList ++ [.ref s1, .ref s0]) h' b post px) (fun _ _ => False)) := ip_ck_iff (x := ip_cl 191 [some (.ref s2), some (.int s3)] [.ref s1, .ref s0] (0, 0) b) ((ip_st_of f154_25).trans rfl) (ip_cl_iff)
theorem f154_28 : ip_fetch 154 28 = some (.invokevirtual 75, 3) := by decide +kernel
set_option maxRecDepth 100000 in
theorem s154_28 {x0 : Nat} {x1 : Int32} {s0 : Nat} {s1 : Nat} {s2 : Int32} : ip_WP 154 28 [some (.ref x0), some (.int x1)] [.int s2, .ref s1, .ref s0] (G, F, I, J) b post px ↔ (ip_isO G s0 7 = true ∧ ip_WP 157 0 [some (.ref s0), some (.ref s1), some (.int s2), none, none, none, none] [] (G, F, I, J) (0, 0) (fun r h' => ip_WP 154 31 [some (.ref x0), some (.int x1)] (r.toList ++ []) h' b post px) (fun _ _ => False)) := ip_ck_iff (x := ip_cl 157 [some (.ref s0), some (.ref s1), some (.int s2), none, none, none, none] [] (0, 0) b) ((ip_st_of f154_28).trans rfl) (ip_cl_iff)
theorem f154_31 : ip_fetch 154 31 = some (.aload_n 0, 1) := by decide +kernel
theorem s154_31 {x0 : Nat} {x1 : Int32} : ip_WP 154 31 [some (.ref x0), some (.int x1)] [] (G, F, I, J) b post px ↔ ip_WP 154 32 [some (.ref x0), some (.int x1)] [.ref x0] (G, F, I, J) b post px := ip_nx_iff ((ip_st_of f154_31).trans rfl)
theorem f154_32 : ip_fetch 154 32 = some (.getfield 15, 3) := by decide +kernel
set_option maxRecDepth 100000 in
theorem s154_32 {x0 : Nat} {x1 : Int32} {s0 : Nat} : ip_WP 154 32 [some (.ref x0), some (.int x1)] [.ref s0] (G, F, I, J) b post px ↔ (ip_isO G s0 7 = true ∧ ip_WP 154 35 [some (.ref x0), some (.int x1)] [F s0 1] (G, F, I, J) b post px) := ip_s_getf f154_32 (by decide +kernel)
theorem f154_35 : ip_fetch 154 35 = some (.ldc 118, 2) := by decide +kernel
set_option maxRecDepth 100000 in
theorem s154_35 {x0 : Nat} {x1 : Int32} {s0 : Nat} : ip_WP 154 35 [some (.ref x0), some (.int x1)] [.ref s0] (G, F, I, J) b post px ↔ ip_WP 154 37 [some (.ref x0), some (.int x1)] [.ref 1000014, .ref s0] (G, F, I, J) b post px := ip_nx_iff ((ip_st_of f154_35).trans rfl)
theorem f154_37 : ip_fetch 154 37 = some (.invokevirtual 71, 3) := by decide +kernel
set_option maxRecDepth 100000 in
theorem s154_37 {x0 : Nat} {x1 : Int32} {s0 : Nat} {s1 : Nat} : ip_WP 154 37 [some (.ref x0), some (.int x1)] [.ref s1, .ref s0] (G, F, I, J) b post px ↔ (ip_isO G s0 2 = true ∧ ip_WP 93 0 [some (.ref s0), some (.ref s1), none] [] (G, F, I, J) (0, 0) (fun r h' => ip_WP 154 40 [some (.ref x0), some (.int x1)] (r.toList ++ []) h' b post px) (fun _ _ => False)) := ip_ck_iff (x := ip_cl 93 [some (.ref s0), some (.ref s1), none] [] (0, 0) b) ((ip_st_of f154_37).trans rfl) (ip_cl_iff)
theorem f154_40 : ip_fetch 154 40 = some (.aload_n 0, 1) := by decide +kernel
theorem s154_40 {x0 : Nat} {x1 : Int32} : ip_WP 154 40 [some (.ref x0), some (.int x1)] [] (G, F, I, J) b post px ↔ ip_WP 154 41 [some (.ref x0), some (.int x1)] [.ref x0] (G, F, I, J) b post px := ip_nx_iff ((ip_st_of f154_40).trans rfl)
theorem f154_41 : ip_fetch 154 41 = some (.aload_n 0, 1) := by decide +kernel
theorem s154_41 {x0 : Nat} {x1 : Int32} {s0 : Nat} : ip_WP 154 41 [some (.ref x0), some (.int x1)] [.ref s0] (G, F, I, J) b post px ↔ ip_WP 154 42 [some (.ref x0), some (.int x1)] [.ref x0, .ref s0] (G, F, I, J) b post px := ip_nx_iff ((ip_st_of f154_41).trans rfl)
theorem f154_42 : ip_fetch 154 42 = some (.getfield 9, 3) := by decide +kernel
set_option maxRecDepth 100000 in
theorem s154_42 {x0 : Nat} {x1 : Int32} {s0 : Nat} {s1 : Nat} : ip_WP 154 42 [some (.ref x0), some (.int x1)] [.ref s1, .ref s0] (G, F, I, J) b post px ↔ (ip_isO G s1 7 = true ∧ ip_WP 154 45 [some (.ref x0), some (.int x1)] [F s1 0, .ref s0] (G, F, I, J) b post px) := ip_s_getf f154_42 (by decide +kernel)
theorem f154_45 : ip_fetch 154 45 = some (.getfield 27, 3) := by decide +kernel
set_option maxRecDepth 100000 in
theorem s154_45 {x0 : Nat} {x1 : Int32} {s0 : Nat} {s1 : Nat} : ip_WP 154 45 [some (.ref x0), some (.int x1)] [.ref s1, .ref s0] (G, F, I, J) b post px ↔ (ip_isO G s1 3 = true ∧ ip_WP 154 48 [some (.ref x0), some (.int x1)] [F s1 1, .ref s0] (G, F, I, J) b post px) := ip_s_getf f154_45 (by decide +kernel)
theorem f154_48 : ip_fetch 154 48 = some (.aload_n 0, 1) := by decide +kernel
theorem s154_48 {x0 : Nat} {x1 : Int32} {s0 : Nat} {s1 : Nat} : ip_WP 154 48 [some (.ref x0), some (.int x1)] [.ref s1, .ref s0] (G, F, I, J) b post px ↔ ip_WP 154 49 [some (.ref x0), some (.int x1)] [.ref x0, .ref s1, .ref s0] (G, F, I, J) b post px := ip_nx_iff ((ip_st_of f154_48).trans rfl)
theorem f154_49 : ip_fetch 154 49 = some (.getfield 9, 3) := by decide +kernel
set_option maxRecDepth 100000 in
theorem s154_49 {x0 : Nat} {x1 : Int32} {s0 : Nat} {s1 : Nat} {s2 : Nat} : ip_WP 154 49 [some (.ref x0), some (.int x1)] [.ref s2, .ref s1, .ref s0] (G, F, I, J) b post px ↔ (ip_isO G s2 7 = true ∧ ip_WP 154 52 [some (.ref x0), some (.int x1)] [F s2 0, .ref s1, .ref s0] (G, F, I, J) b post px) := ip_s_getf f154_49 (by decide +kernel)
theorem f154_52 : ip_fetch 154 52 = some (.getfield 131, 3) := by decide +kernel
set_option maxRecDepth 100000 in
theorem s154_52 {x0 : Nat} {x1 : Int32} {s0 : Nat} {s1 : Nat} {s2 : Nat} : ip_WP 154 52 [some (.ref x0), some (.int x1)] [.ref s2, .ref s1, .ref s0] (G, F, I, J) b post px ↔ (ip_isO G s2 3 = true ∧ ip_WP 154 55 [some (.ref x0), some (.int x1)] [F s2 9, .ref s1, .ref s0] (G, F, I, J) b post px) := ip_s_getf f154_52 (by decide +kernel)
theorem f154_55 : ip_fetch 154 55 = some (.iload_n 1, 1) := by decide +kernel
theorem s154_55 {x0 : Nat} {x1 : Int32} {s0 : Nat} {s1 : Nat} {s2 : Nat} : ip_WP 154 55 [some (.ref x0), some (.int x1)] [.ref s2, .ref s1, .ref s0] (G, F, I, J) b post px ↔ ip_WP 154 56 [some (.ref x0), some (.int x1)] [.int x1, .ref s2, .ref s1, .ref s0] (G, F, I, J) b post px := ip_nx_iff ((ip_st_of f154_55).trans rfl)
theorem f154_56 : ip_fetch 154 56 = some (.invokevirtual 111, 3) := by decide +kernel
set_option maxRecDepth 100000 in
theorem s154_56 {x0 : Nat} {x1 : Int32} {s0 : Nat} {s1 : Nat} {s2 : Nat} {s3 : Int32} : ip_WP 154 56 [some (.ref x0), some (.int x1)] [.int s3, .ref s2, .ref s1, .ref s0] (G, F, I, J) b post px ↔ (ip_isO G s2 9 = true ∧ ip_WP 191 0 [some (.ref s2), some (.int s3)] [] (G, F, I, J) (0, 0) (fun r h' => ip_WP 154 59 [some (.ref x0), some (.int x1)] (r.toList ++ [.ref s1, .ref s0]) h' b post px) (fun _ _ => False)) := ip_ck_iff (x := ip_cl 191 [some (.ref s2), some (.int s3)] [.ref s1, .ref s0] (0, 0) b) ((ip_st_of f154_56).trans rfl) (ip_cl_iff)
theorem f154_59 : ip_fetch 154 59 = some (.invokevirtual 75, 3) := by decide +kernel
set_option maxRecDepth 100000 in
theorem s154_59 {x0 : Nat} {x1 : Int32} {s0 : Nat} {s1 : Nat} {s2 : Int32} : ip_WP 154 59 [some (.ref x0), some (.int x1)] [.int s2, .ref s1, .ref s0] (G, F, I, J) b post px ↔ (ip_isO G s0 7 = true ∧ ip_WP 157 0 [some (.ref s0), some (.ref s1), some (.int s2), none, none, none, none] [] (G, F, I, J) (0, 0) (fun r h' => ip_WP 154 62 [some (.ref x0), some (.int x1)] (r.toList ++ []) h' b post px) (fun _ _ => False)) := ip_ck_iff (x := ip_cl 157 [some (.ref s0), some (.ref s1), some (.int s2), none, none, none, none] [] (0, 0) b) ((ip_st_of f154_59).trans rfl) (ip_cl_iff)
theorem f154_62 : ip_fetch 154 62 = some (.aload_n 0, 1) := by decide +kernel
theorem s154_62 {x0 : Nat} {x1 : Int32} : ip_WP 154 62 [some (.ref x0), some (.int x1)] [] (G, F, I, J) b post px ↔ ip_WP 154 63 [some (.ref x0), some (.int x1)] [.ref x0] (G, F, I, J) b post px := ip_nx_iff ((ip_st_of f154_62).trans rfl)
theorem f154_63 : ip_fetch 154 63 = some (.invokevirtual 79, 3) := by decide +kernel
set_option maxRecDepth 100000 in
theorem s154_63 {x0 : Nat} {x1 : Int32} {s0 : Nat} : ip_WP 154 63 [some (.ref x0), some (.int x1)] [.ref s0] (G, F, I, J) b post px ↔ (ip_isO G s0 7 = true ∧ ip_WP 159 0 [some (.ref s0)] [] (G, F, I, J) (0, 0) (fun r h' => ip_WP 154 66 [some (.ref x0), some (.int x1)] (r.toList ++ []) h' b post px) (fun _ _ => False)) := ip_ck_iff (x := ip_cl 159 [some (.ref s0)] [] (0, 0) b) ((ip_st_of f154_63).trans rfl) (ip_cl_iff)
theorem f154_66 : ip_fetch 154 66 = some (.return_, 1) := by decide +kernel
theorem s154_66 {x0 : Nat} {x1 : Int32} : ip_WP 154 66 [some (.ref x0), some (.int x1)] [] (G, F, I, J) b post px ↔ post none (G, F, I, J) := ip_rt_iff ((ip_st_of f154_66).trans rfl)
theorem f155_0 : ip_fetch 155 0 = some (.aload_n 0, 1) := by decide +kernel
theorem s155_0 {x0 : Nat} {x1 : Int32} : ip_WP 155 0 [some (.ref x0), some (.int x1)] [] (G, F, I, J) b post px ↔ ip_WP 155 1 [some (.ref x0), some (.int x1)] [.ref x0] (G, F, I, J) b post px := ip_nx_iff ((ip_st_of f155_0).trans rfl)
theorem f155_1 : ip_fetch 155 1 = some (.getfield 15, 3) := by decide +kernel
set_option maxRecDepth 100000 in
theorem s155_1 {x0 : Nat} {x1 : Int32} {s0 : Nat} : ip_WP 155 1 [some (.ref x0), some (.int x1)] [.ref s0] (G, F, I, J) b post px ↔ (ip_isO G s0 7 = true ∧ ip_WP 155 4 [some (.ref x0), some (.int x1)] [F s0 1] (G, F, I, J) b post px) := ip_s_getf f155_1 (by decide +kernel)
theorem f155_4 : ip_fetch 155 4 = some (.ldc 134, 2) := by decide +kernel
set_option maxRecDepth 100000 in
theorem s155_4 {x0 : Nat} {x1 : Int32} {s0 : Nat} : ip_WP 155 4 [some (.ref x0), some (.int x1)] [.ref s0] (G, F, I, J) b post px ↔ ip_WP 155 6 [some (.ref x0), some (.int x1)] [.ref 1000017, .ref s0] (G, F, I, J) b post px := ip_nx_iff ((ip_st_of f155_4).trans rfl)
theorem f155_6 : ip_fetch 155 6 = some (.invokevirtual 71, 3) := by decide +kernel
set_option maxRecDepth 100000 in
theorem s155_6 {x0 : Nat} {x1 : Int32} {s0 : Nat} {s1 : Nat} : ip_WP 155 6 [some (.ref x0), some (.int x1)] [.ref s1, .ref s0] (G, F, I, J) b post px ↔ (ip_isO G s0 2 = true ∧ ip_WP 93 0 [some (.ref s0), some (.ref s1), none] [] (G, F, I, J) (0, 0) (fun r h' => ip_WP 155 9 [some (.ref x0), some (.int x1)] (r.toList ++ []) h' b post px) (fun _ _ => False)) := ip_ck_iff (x := ip_cl 93 [some (.ref s0), some (.ref s1), none] [] (0, 0) b) ((ip_st_of f155_6).trans rfl) (ip_cl_iff)
theorem f155_9 : ip_fetch 155 9 = some (.aload_n 0, 1) := by decide +kernel
theorem s155_9 {x0 : Nat} {x1 : Int32} : ip_WP 155 9 [some (.ref x0), some (.int x1)] [] (G, F, I, J) b post px ↔ ip_WP 155 10 [some (.ref x0), some (.int x1)] [.ref x0] (G, F, I, J) b post px := ip_nx_iff ((ip_st_of f155_9).trans rfl)
theorem f155_10 : ip_fetch 155 10 = some (.aload_n 0, 1) := by decide +kernel
theorem s155_10 {x0 : Nat} {x1 : Int32} {s0 : Nat} : ip_WP 155 10 [some (.ref x0), some (.int x1)] [.ref s0] (G, F, I, J) b post px ↔ ip_WP 155 11 [some (.ref x0), some (.int x1)] [.ref x0, .ref s0] (G, F, I, J) b post px := ip_nx_iff ((ip_st_of f155_10).trans rfl)
theorem f155_11 : ip_fetch 155 11 = some (.getfield 9, 3) := by decide +kernel
set_option maxRecDepth 100000 in
theorem s155_11 {x0 : Nat} {x1 : Int32} {s0 : Nat} {s1 : Nat} : ip_WP 155 11 [some (.ref x0), some (.int x1)] [.ref s1, .ref s0] (G, F, I, J) b post px ↔ (ip_isO G s1 7 = true ∧ ip_WP 155 14 [some (.ref x0), some (.int x1)] [F s1 0, .ref s0] (G, F, I, J) b post px) := ip_s_getf f155_11 (by decide +kernel)
theorem f155_14 : ip_fetch 155 14 = some (.getfield 55, 3) := by decide +kernel
set_option maxRecDepth 100000 in
theorem s155_14 {x0 : Nat} {x1 : Int32} {s0 : Nat} {s1 : Nat} : ip_WP 155 14 [some (.ref x0), some (.int x1)] [.ref s1, .ref s0] (G, F, I, J) b post px ↔ (ip_isO G s1 3 = true ∧ ip_WP 155 17 [some (.ref x0), some (.int x1)] [F s1 2, .ref s0] (G, F, I, J) b post px) := ip_s_getf f155_14 (by decide +kernel)
theorem f155_17 : ip_fetch 155 17 = some (.iload_n 1, 1) := by decide +kernel
theorem s155_17 {x0 : Nat} {x1 : Int32} {s0 : Nat} {s1 : Nat} : ip_WP 155 17 [some (.ref x0), some (.int x1)] [.ref s1, .ref s0] (G, F, I, J) b post px ↔ ip_WP 155 18 [some (.ref x0), some (.int x1)] [.int x1, .ref s1, .ref s0] (G, F, I, J) b post px := ip_nx_iff ((ip_st_of f155_17).trans rfl)
theorem f155_18 : ip_fetch 155 18 = some (.invokevirtual 75, 3) := by decide +kernel
set_option maxRecDepth 100000 in
theorem s155_18 {x0 : Nat} {x1 : Int32} {s0 : Nat} {s1 : Nat} {s2 : Int32} : ip_WP 155 18 [some (.ref x0), some (.int x1)] [.int s2, .ref s1, .ref s0] (G, F, I, J) b post px ↔ (ip_isO G s0 7 = true ∧ ip_WP 157 0 [some (.ref s0), some (.ref s1), some (.int s2), none, none, none, none] [] (G, F, I, J) (0, 0) (fun r h' => ip_WP 155 21 [some (.ref x0), some (.int x1)] (r.toList ++ []) h' b post px) (fun _ _ => False)) := ip_ck_iff (x := ip_cl 157 [some (.ref s0), some (.ref s1), some (.int s2), none, none, none, none] [] (0, 0) b) ((ip_st_of f155_18).trans rfl) (ip_cl_iff)
theorem f155_21 : ip_fetch 155 21 = some (.aload_n 0, 1) := by decide +kernel
theorem s155_21 {x0 : Nat} {x1 : Int32} : ip_WP 155 21 [some (.ref x0), some (.int x1)] [] (G, F, I, J) b post px ↔ ip_WP 155 22 [some (.ref x0), some (.int x1)] [.ref x0] (G, F, I, J) b post px := ip_nx_iff ((ip_st_of f155_21).trans rfl)
theorem f155_22 : ip_fetch 155 22 = some (.getfield 15, 3) := by decide +kernel
set_option maxRecDepth 100000 in
theorem s155_22 {x0 : Nat} {x1 : Int32} {s0 : Nat} : ip_WP 155 22 [some (.ref x0), some (.int x1)] [.ref s0] (G, F, I, J) b post px ↔ (ip_isO G s0 7 = true ∧ ip_WP 155 25 [some (.ref x0), some (.int x1)] [F s0 1] (G, F, I, J) b post px) := ip_s_getf f155_22 (by decide +kernel)
theorem f155_25 : ip_fetch 155 25 = some (.ldc 98, 2) := by decide +kernel
set_option maxRecDepth 100000 in
theorem s155_25 {x0 : Nat} {x1 : Int32} {s0 : Nat} : ip_WP 155 25 [some (.ref x0), some (.int x1)] [.ref s0] (G, F, I, J) b post px ↔ ip_WP 155 27 [some (.ref x0), some (.int x1)] [.ref 1000012, .ref s0] (G, F, I, J) b post px := ip_nx_iff ((ip_st_of f155_25).trans rfl)
theorem f155_27 : ip_fetch 155 27 = some (.invokevirtual 71, 3) := by decide +kernel
set_option maxRecDepth 100000 in
theorem s155_27 {x0 : Nat} {x1 : Int32} {s0 : Nat} {s1 : Nat} : ip_WP 155 27 [some (.ref x0), some (.int x1)] [.ref s1, .ref s0] (G, F, I, J) b post px ↔ (ip_isO G s0 2 = true ∧ ip_WP 93 0 [some (.ref s0), some (.ref s1), none] [] (G, F, I, J) (0, 0) (fun r h' => ip_WP 155 30 [some (.ref x0), some (.int x1)] (r.toList ++ []) h' b post px) (fun _ _ => False)) := ip_ck_iff (x := ip_cl 93 [some (.ref s0), some (.ref s1), none] [] (0, 0) b) ((ip_st_of f155_27).trans rfl) (ip_cl_iff)
theorem f155_30 : ip_fetch 155 30 = some (.aload_n 0, 1) := by decide +kernel
theorem s155_30 {x0 : Nat} {x1 : Int32} : ip_WP 155 30 [some (.ref x0), some (.int x1)] [] (G, F, I, J) b post px ↔ ip_WP 155 31 [some (.ref x0), some (.int x1)] [.ref x0] (G, F, I, J) b post px := ip_nx_iff ((ip_st_of f155_30).trans rfl)
theorem f155_31 : ip_fetch 155 31 = some (.aload_n 0, 1) := by decide +kernel
theorem s155_31 {x0 : Nat} {x1 : Int32} {s0 : Nat} : ip_WP 155 31 [some (.ref x0), some (.int x1)] [.ref s0] (G, F, I, J) b post px ↔ ip_WP 155 32 [some (.ref x0), some (.int x1)] [.ref x0, .ref s0] (G, F, I, J) b post px := ip_nx_iff ((ip_st_of f155_31).trans rfl)
theorem f155_32 : ip_fetch 155 32 = some (.getfield 9, 3) := by decide +kernel
set_option maxRecDepth 100000 in
theorem s155_32 {x0 : Nat} {x1 : Int32} {s0 : Nat} {s1 : Nat} : ip_WP 155 32 [some (.ref x0), some (.int x1)] [.ref s1, .ref s0] (G, F, I, J) b post px ↔ (ip_isO G s1 7 = true ∧ ip_WP 155 35 [some (.ref x0), some (.int x1)] [F s1 0, .ref s0] (G, F, I, J) b post px) := ip_s_getf f155_32 (by decide +kernel)
theorem f155_35 : ip_fetch 155 35 = some (.getfield 136, 3) := by decide +kernel
set_option maxRecDepth 100000 in
theorem s155_35 {x0 : Nat} {x1 : Int32} {s0 : Nat} {s1 : Nat} : ip_WP 155 35 [some (.ref x0), some (.int x1)] [.ref s1, .ref s0] (G, F, I, J) b post px ↔ (ip_isO G s1 3 = true ∧ ip_WP 155 38 [some (.ref x0), some (.int x1)] [F s1 10, .ref s0] (G, F, I, J) b post px) := ip_s_getf f155_35 (by decide +kernel)
theorem f155_38 : ip_fetch 155 38 = some (.iload_n 1, 1) := by decide +kernel
theorem s155_38 {x0 : Nat} {x1 : Int32} {s0 : Nat} {s1 : Nat} : ip_WP 155 38 [some (.ref x0), some (.int x1)] [.ref s1, .ref s0] (G, F, I, J) b post px ↔ ip_WP 155 39 [some (.ref x0), some (.int x1)] [.int x1, .ref s1, .ref s0] (G, F, I, J) b post px := ip_nx_iff ((ip_st_of f155_38).trans rfl)
theorem f155_39 : ip_fetch 155 39 = some (.invokevirtual 111, 3) := by decide +kernel
set_option maxRecDepth 100000 in
theorem s155_39 {x0 : Nat} {x1 : Int32} {s0 : Nat} {s1 : Nat} {s2 : Int32} : ip_WP 155 39 [some (.ref x0), some (.int x1)] [.int s2, .ref s1, .ref s0] (G, F, I, J) b post px ↔ (ip_isO G s1 9 = true ∧ ip_WP 191 0 [some (.ref s1), some (.int s2)] [] (G, F, I, J) (0, 0) (fun r h' => ip_WP 155 42 [some (.ref x0), some (.int x1)] (r.toList ++ [.ref s0]) h' b post px) (fun _ _ => False)) := ip_ck_iff (x := ip_cl 191 [some (.ref s1), some (.int s2)] [.ref s0] (0, 0) b) ((ip_st_of f155_39).trans rfl) (ip_cl_iff)
theorem f155_42 : ip_fetch 155 42 = some (.invokevirtual 104, 3) := by decide +kernel
set_option maxRecDepth 100000 in
theorem s155_42 {x0 : Nat} {x1 : Int32} {s0 : Nat} {s1 : Int32} : ip_WP 155 42 [some (.ref x0), some (.int x1)] [.int s1, .ref s0] (G, F, I, J) b post px ↔ (ip_isO G s0 7 = true ∧ ip_WP 158 0 [some (.ref s0), some (.int s1)] [] (G, F, I, J) (0, 0) (fun r h' => ip_WP 155 45 [some (.ref x0), some (.int x1)] (r.toList ++ []) h' b post px) (fun _ _ => False)) := ip_ck_iff (x := ip_cl 158 [some (.ref s0), some (.int s1)] [] (0, 0) b) ((ip_st_of f155_42).trans rfl) (ip_cl_iff)
theorem f155_45 : ip_fetch 155 45 = some (.aload_n 0, 1) := by decide +kernel
theorem s155_45 {x0 : Nat} {x1 : Int32} : ip_WP 155 45 [some (.ref x0), some (.int x1)] [] (G, F, I, J) b post px ↔ ip_WP 155 46 [some (.ref x0), some (.int x1)] [.ref x0] (G, F, I, J) b post px := ip_nx_iff ((ip_st_of f155_45).trans rfl)
theorem f155_46 : ip_fetch 155 46 = some (.getfield 9, 3) := by decide +kernel
set_option maxRecDepth 100000 in
theorem s155_46 {x0 : Nat} {x1 : Int32} {s0 : Nat} : ip_WP 155 46 [some (.ref x0), some (.int x1)] [.ref s0] (G, F, I, J) b post px ↔ (ip_isO G s0 7 = true ∧ ip_WP 155 49 [some (.ref x0), some (.int x1)] [F s0 0] (G, F, I, J) b post px) := ip_s_getf f155_46 (by decide +kernel)
theorem f155_49 : ip_fetch 155 49 = some (.getfield 139, 3) := by decide +kernel
set_option maxRecDepth 100000 in
theorem s155_49 {x0 : Nat} {x1 : Int32} {s0 : Nat} : ip_WP 155 49 [some (.ref x0), some (.int x1)] [.ref s0] (G, F, I, J) b post px ↔ (ip_isO G s0 3 = true ∧ ip_WP 155 52 [some (.ref x0), some (.int x1)] [F s0 11] (G, F, I, J) b post px) := ip_s_getf f155_49 (by decide +kernel)
theorem f155_52 : ip_fetch 155 52 = some (.iload_n 1, 1) := by decide +kernel
theorem s155_52 {x0 : Nat} {x1 : Int32} {s0 : Nat} : ip_WP 155 52 [some (.ref x0), some (.int x1)] [.ref s0] (G, F, I, J) b post px ↔ ip_WP 155 53 [some (.ref x0), some (.int x1)] [.int x1, .ref s0] (G, F, I, J) b post px := ip_nx_iff ((ip_st_of f155_52).trans rfl)
theorem f155_53 : ip_fetch 155 53 = some (.invokevirtual 111, 3) := by decide +kernel
set_option maxRecDepth 100000 in
theorem s155_53 {x0 : Nat} {x1 : Int32} {s0 : Nat} {s1 : Int32} : ip_WP 155 53 [some (.ref x0), some (.int x1)] [.int s1, .ref s0] (G, F, I, J) b post px ↔ (ip_isO G s0 9 = true ∧ ip_WP 191 0 [some (.ref s0), some (.int s1)] [] (G, F, I, J) (0, 0) (fun r h' => ip_WP 155 56 [some (.ref x0), some (.int x1)] (r.toList ++ []) h' b post px) (fun _ _ => False)) := ip_ck_iff (x := ip_cl 191 [some (.ref s0), some (.int s1)] [] (0, 0) b) ((ip_st_of f155_53).trans rfl) (ip_cl_iff)
theorem f155_56 : ip_fetch 155 56 = some (.iconst (-1), 1) := by decide +kernel
theorem s155_56 {x0 : Nat} {x1 : Int32} {s0 : Int32} : ip_WP 155 56 [some (.ref x0), some (.int x1)] [.int s0] (G, F, I, J) b post px ↔ ip_WP 155 57 [some (.ref x0), some (.int x1)] [.int (-1), .int s0] (G, F, I, J) b post px := ip_s_iconst f155_56 (by decide)
theorem f155_57 : ip_fetch 155 57 = some (.if_icmp .eq 34, 3) := by decide +kernel
theorem s155_57 {x0 : Nat} {x1 : Int32} {s0 : Int32} {s1 : Int32} : ip_WP 155 57 [some (.ref x0), some (.int x1)] [.int s1, .int s0] (G, F, I, J) b post px ↔ if s0 = s1 then ip_WP 155 91 [some (.ref x0), some (.int x1)] [] (G, F, I, J) b post px else ip_WP 155 60 [some (.ref x0), some (.int x1)] [] (G, F, I, J) b post px := ip_s_ic_eq f155_57 rfl
theorem f155_60 : ip_fetch 155 60 = some (.aload_n 0, 1) := by decide +kernel
theorem s155_60 {x0 : Nat} {x1 : Int32} : ip_WP 155 60 [some (.ref x0), some (.int x1)] [] (G, F, I, J) b post px ↔ ip_WP 155 61 [some (.ref x0), some (.int x1)] [.ref x0] (G, F, I, J) b post px := ip_nx_iff ((ip_st_of f155_60).trans rfl)
theorem f155_61 : ip_fetch 155 61 = some (.getfield 15, 3) := by decide +kernel
set_option maxRecDepth 100000 in
theorem s155_61 {x0 : Nat} {x1 : Int32} {s0 : Nat} : ip_WP 155 61 [some (.ref x0), some (.int x1)] [.ref s0] (G, F, I, J) b post px ↔ (ip_isO G s0 7 = true ∧ ip_WP 155 64 [some (.ref x0), some (.int x1)] [F s0 1] (G, F, I, J) b post px) := ip_s_getf f155_61 (by decide +kernel)
theorem f155_64 : ip_fetch 155 64 = some (.ldc 142, 2) := by decide +kernel
set_option maxRecDepth 100000 in
theorem s155_64 {x0 : Nat} {x1 : Int32} {s0 : Nat} : ip_WP 155 64 [some (.ref x0), some (.int x1)] [.ref s0] (G, F, I, J) b post px ↔ ip_WP 155 66 [some (.ref x0), some (.int x1)] [.ref 1000018, .ref s0] (G, F, I, J) b post px := ip_nx_iff ((ip_st_of f155_64).trans rfl)
theorem f155_66 : ip_fetch 155 66 = some (.invokevirtual 71, 3) := by decide +kernel
set_option maxRecDepth 100000 in
theorem s155_66 {x0 : Nat} {x1 : Int32} {s0 : Nat} {s1 : Nat} : ip_WP 155 66 [some (.ref x0), some (.int x1)] [.ref s1, .ref s0] (G, F, I, J) b post px ↔ (ip_isO G s0 2 = true ∧ ip_WP 93 0 [some (.ref s0), some (.ref s1), none] [] (G, F, I, J) (0, 0) (fun r h' => ip_WP 155 69 [some (.ref x0), some (.int x1)] (r.toList ++ []) h' b post px) (fun _ _ => False)) := ip_ck_iff (x := ip_cl 93 [some (.ref s0), some (.ref s1), none] [] (0, 0) b) ((ip_st_of f155_66).trans rfl) (ip_cl_iff)
theorem f155_69 : ip_fetch 155 69 = some (.aload_n 0, 1) := by decide +kernel
theorem s155_69 {x0 : Nat} {x1 : Int32} : ip_WP 155 69 [some (.ref x0), some (.int x1)] [] (G, F, I, J) b post px ↔ ip_WP 155 70 [some (.ref x0), some (.int x1)] [.ref x0] (G, F, I, J) b post px := ip_nx_iff ((ip_st_of f155_69).trans rfl)
theorem f155_70 : ip_fetch 155 70 = some (.aload_n 0, 1) := by decide +kernel
theorem s155_70 {x0 : Nat} {x1 : Int32} {s0 : Nat} : ip_WP 155 70 [some (.ref x0), some (.int x1)] [.ref s0] (G, F, I, J) b post px ↔ ip_WP 155 71 [some (.ref x0), some (.int x1)] [.ref x0, .ref s0] (G, F, I, J) b post px := ip_nx_iff ((ip_st_of f155_70).trans rfl)
theorem f155_71 : ip_fetch 155 71 = some (.getfield 9, 3) := by decide +kernel
set_option maxRecDepth 100000 in
theorem s155_71 {x0 : Nat} {x1 : Int32} {s0 : Nat} {s1 : Nat} : ip_WP 155 71 [some (.ref x0), some (.int x1)] [.ref s1, .ref s0] (G, F, I, J) b post px ↔ (ip_isO G s1 7 = true ∧ ip_WP 155 74 [some (.ref x0), some (.int x1)] [F s1 0, .ref s0] (G, F, I, J) b post px) := ip_s_getf f155_71 (by decide +kernel)
theorem f155_74 : ip_fetch 155 74 = some (.getfield 27, 3) := by decide +kernel
set_option maxRecDepth 100000 in
theorem s155_74 {x0 : Nat} {x1 : Int32} {s0 : Nat} {s1 : Nat} : ip_WP 155 74 [some (.ref x0), some (.int x1)] [.ref s1, .ref s0] (G, F, I, J) b post px ↔ (ip_isO G s1 3 = true ∧ ip_WP 155 77 [some (.ref x0), some (.int x1)] [F s1 1, .ref s0] (G, F, I, J) b post px) := ip_s_getf f155_74 (by decide +kernel)
theorem f155_77 : ip_fetch 155 77 = some (.aload_n 0, 1) := by decide +kernel
theorem s155_77 {x0 : Nat} {x1 : Int32} {s0 : Nat} {s1 : Nat} : ip_WP 155 77 [some (.ref x0), some (.int x1)] [.ref s1, .ref s0] (G, F, I, J) b post px ↔ ip_WP 155 78 [some (.ref x0), some (.int x1)] [.ref x0, .ref s1, .ref s0] (G, F, I, J) b post px := ip_nx_iff ((ip_st_of f155_77).trans rfl)
theorem f155_78 : ip_fetch 155 78 = some (.getfield 9, 3) := by decide +kernel
set_option maxRecDepth 100000 in
theorem s155_78 {x0 : Nat} {x1 : Int32} {s0 : Nat} {s1 : Nat} {s2 : Nat} : ip_WP 155 78 [some (.ref x0), some (.int x1)] [.ref s2, .ref s1, .ref s0] (G, F, I, J) b post px ↔ (ip_isO G s2 7 = true ∧ ip_WP 155 81 [some (.ref x0), some (.int x1)] [F s2 0, .ref s1, .ref s0] (G, F, I, J) b post px) := ip_s_getf f155_78 (by decide +kernel)
theorem f155_81 : ip_fetch 155 81 = some (.getfield 139, 3) := by decide +kernel
set_option maxRecDepth 100000 in
theorem s155_81 {x0 : Nat} {x1 : Int32} {s0 : Nat} {s1 : Nat} {s2 : Nat} : ip_WP 155 81 [some (.ref x0), some (.int x1)] [.ref s2, .ref s1, .ref s0] (G, F, I, J) b post px ↔ (ip_isO G s2 3 = true ∧ ip_WP 155 84 [some (.ref x0), some (.int x1)] [F s2 11, .ref s1, .ref s0] (G, F, I, J) b post px) := ip_s_getf f155_81 (by decide +kernel)
theorem f155_84 : ip_fetch 155 84 = some (.iload_n 1, 1) := by decide +kernel
theorem s155_84 {x0 : Nat} {x1 : Int32} {s0 : Nat} {s1 : Nat} {s2 : Nat} : ip_WP 155 84 [some (.ref x0), some (.int x1)] [.ref s2, .ref s1, .ref s0] (G, F, I, J) b post px ↔ ip_WP 155 85 [some (.ref x0), some (.int x1)] [.int x1, .ref s2, .ref s1, .ref s0] (G, F, I, J) b post px := ip_nx_iff ((ip_st_of f155_84).trans rfl)
theorem f155_85 : ip_fetch 155 85 = some (.invokevirtual 111, 3) := by decide +kernel
set_option maxRecDepth 100000 in
theorem s155_85 {x0 : Nat} {x1 : Int32} {s0 : Nat} {s1 : Nat} {s2 : Nat} {s3 : Int32} : ip_WP 155 85 [some (.ref x0), some (.int x1)] [.int s3, .ref s2, .ref s1, .ref s0] (G, F, I, J) b post px ↔ (ip_isO G s2 9 = true ∧ ip_WP 191 0 [some (.ref s2), some (.int s3)] [] (G, F, I, J) (0, 0) (fun r h' => ip_WP 155 88 [some (.ref x0), some (.int x1)] (r.toList ++ [.ref s1, .ref s0]) h' b post px) (fun _ _ => False)) := ip_ck_iff (x := ip_cl 191 [some (.ref s2), some (.int s3)] [.ref s1, .ref s0] (0, 0) b) ((ip_st_of f155_85).trans rfl) (ip_cl_iff)
theorem f155_88 : ip_fetch 155 88 = some (.invokevirtual 75, 3) := by decide +kernel
set_option maxRecDepth 100000 in
theorem s155_88 {x0 : Nat} {x1 : Int32} {s0 : Nat} {s1 : Nat} {s2 : Int32} : ip_WP 155 88 [some (.ref x0), some (.int x1)] [.int s2, .ref s1, .ref s0] (G, F, I, J) b post px ↔ (ip_isO G s0 7 = true ∧ ip_WP 157 0 [some (.ref s0), some (.ref s1), some (.int s2), none, none, none, none] [] (G, F, I, J) (0, 0) (fun r h' => ip_WP 155 91 [some (.ref x0), some (.int x1)] (r.toList ++ []) h' b post px) (fun _ _ => False)) := ip_ck_iff (x := ip_cl 157 [some (.ref s0), some (.ref s1), some (.int s2), none, none, none, none] [] (0, 0) b) ((ip_st_of f155_88).trans rfl) (ip_cl_iff)
theorem f155_91 : ip_fetch 155 91 = some (.aload_n 0, 1) := by decide +kernel
theorem s155_91 {x0 : Nat} {x1 : Int32} : ip_WP 155 91 [some (.ref x0), some (.int x1)] [] (G, F, I, J) b post px ↔ ip_WP 155 92 [some (.ref x0), some (.int x1)] [.ref x0] (G, F, I, J) b post px := ip_nx_iff ((ip_st_of f155_91).trans rfl)
theorem f155_92 : ip_fetch 155 92 = some (.invokevirtual 79, 3) := by decide +kernel
set_option maxRecDepth 100000 in
theorem s155_92 {x0 : Nat} {x1 : Int32} {s0 : Nat} : ip_WP 155 92 [some (.ref x0), some (.int x1)] [.ref s0] (G, F, I, J) b post px ↔ (ip_isO G s0 7 = true ∧ ip_WP 159 0 [some (.ref s0)] [] (G, F, I, J) (0, 0) (fun r h' => ip_WP 155 95 [some (.ref x0), some (.int x1)] (r.toList ++ []) h' b post px) (fun _ _ => False)) := ip_ck_iff (x := ip_cl 159 [some (.ref s0)] [] (0, 0) b) ((ip_st_of f155_92).trans rfl) (ip_cl_iff)
theorem f155_95 : ip_fetch 155 95 = some (.return_, 1) := by decide +kernel
theorem s155_95 {x0 : Nat} {x1 : Int32} : ip_WP 155 95 [some (.ref x0), some (.int x1)] [] (G, F, I, J) b post px ↔ post none (G, F, I, J) := ip_rt_iff ((ip_st_of f155_95).trans rfl)
theorem f156_0 : ip_fetch 156 0 = some (.aload_n 0, 1) := by decide +kernel
theorem s156_0 {x0 : Nat} {x1 : Int32} {x2 : Option Value} {x3 : Option Value} : ip_WP 156 0 [some (.ref x0), some (.int x1), x2, x3] [] (G, F, I, J) b post px ↔ ip_WP 156 1 [some (.ref x0), some (.int x1), x2, x3] [.ref x0] (G, F, I, J) b post px := ip_nx_iff ((ip_st_of f156_0).trans rfl)
theorem f156_1 : ip_fetch 156 1 = some (.getfield 15, 3) := by decide +kernel
set_option maxRecDepth 100000 in
theorem s156_1 {x0 : Nat} {x1 : Int32} {x2 : Option Value} {x3 : Option Value} {s0 : Nat} : ip_WP 156 1 [some (.ref x0), some (.int x1), x2, x3] [.ref s0] (G, F, I, J) b post px ↔ (ip_isO G s0 7 = true ∧ ip_WP 156 4 [some (.ref x0), some (.int x1), x2, x3] [F s0 1] (G, F, I, J) b post px) := ip_s_getf f156_1 (by decide +kernel)
theorem f156_4 : ip_fetch 156 4 = some (.ldc 144, 2) := by decide +kernel
set_option maxRecDepth 100000 in
theorem s156_4 {x0 : Nat} {x1 : Int32} {x2 : Option Value} {x3 : Option Value} {s0 : Nat} : ip_WP 156 4 [some (.ref x0), some (.int x1), x2, x3] [.ref s0] (G, F, I, J) b post px ↔ ip_WP 156 6 [some (.ref x0), some (.int x1), x2, x3] [.ref 1000019, .ref s0] (G, F, I, J) b post px := ip_nx_iff ((ip_st_of f156_4).trans rfl)
theorem f156_6 : ip_fetch 156 6 = some (.invokevirtual 71, 3) := by decide +kernel
set_option maxRecDepth 100000 in
theorem s156_6 {x0 : Nat} {x1 : Int32} {x2 : Option Value} {x3 : Option Value} {s0 : Nat} {s1 : Nat} : ip_WP 156 6 [some (.ref x0), some (.int x1), x2, x3] [.ref s1, .ref s0] (G, F, I, J) b post px ↔ (ip_isO G s0 2 = true ∧ ip_WP 93 0 [some (.ref s0), some (.ref s1), none] [] (G, F, I, J) (0, 0) (fun r h' => ip_WP 156 9 [some (.ref x0), some (.int x1), x2, x3] (r.toList ++ []) h' b post px) (fun _ _ => False)) := ip_ck_iff (x := ip_cl 93 [some (.ref s0), some (.ref s1), none] [] (0, 0) b) ((ip_st_of f156_6).trans rfl) (ip_cl_iff)
theorem f156_9 : ip_fetch 156 9 = some (.aload_n 0, 1) := by decide +kernel
theorem s156_9 {x0 : Nat} {x1 : Int32} {x2 : Option Value} {x3 : Option Value} : ip_WP 156 9 [some (.ref x0), some (.int x1), x2, x3] [] (G, F, I, J) b post px ↔ ip_WP 156 10 [some (.ref x0), some (.int x1), x2, x3] [.ref x0] (G, F, I, J) b post px := ip_nx_iff ((ip_st_of f156_9).trans rfl)
theorem f156_10 : ip_fetch 156 10 = some (.aload_n 0, 1) := by decide +kernel
theorem s156_10 {x0 : Nat} {x1 : Int32} {x2 : Option Value} {x3 : Option Value} {s0 : Nat} : ip_WP 156 10 [some (.ref x0), some (.int x1), x2, x3] [.ref s0] (G, F, I, J) b post px ↔ ip_WP 156 11 [some (.ref x0), some (.int x1), x2, x3] [.ref x0, .ref s0] (G, F, I, J) b post px := ip_nx_iff ((ip_st_of f156_10).trans rfl)
theorem f156_11 : ip_fetch 156 11 = some (.getfield 9, 3) := by decide +kernel
set_option maxRecDepth 100000 in
theorem s156_11 {x0 : Nat} {x1 : Int32} {x2 : Option Value} {x3 : Option Value} {s0 : Nat} {s1 : Nat} : ip_WP 156 11 [some (.ref x0), some (.int x1), x2, x3] [.ref s1, .ref s0] (G, F, I, J) b post px ↔ (ip_isO G s1 7 = true ∧ ip_WP 156 14 [some (.ref x0), some (.int x1), x2, x3] [F s1 0, .ref s0] (G, F, I, J) b post px) := ip_s_getf f156_11 (by decide +kernel)
theorem f156_14 : ip_fetch 156 14 = some (.getfield 61, 3) := by decide +kernel
set_option maxRecDepth 100000 in
theorem s156_14 {x0 : Nat} {x1 : Int32} {x2 : Option Value} {x3 : Option Value} {s0 : Nat} {s1 : Nat} : ip_WP 156 14 [some (.ref x0), some (.int x1), x2, x3] [.ref s1, .ref s0] (G, F, I, J) b post px ↔ (ip_isO G s1 3 = true ∧ ip_WP 156 17 [some (.ref x0), some (.int x1), x2, x3] [F s1 3, .ref s0] (G, F, I, J) b post px) := ip_s_getf f156_14 (by decide +kernel)
theorem f156_17 : ip_fetch 156 17 = some (.iload_n 1, 1) := by decide +kernel
theorem s156_17 {x0 : Nat} {x1 : Int32} {x2 : Option Value} {x3 : Option Value} {s0 : Nat} {s1 : Nat} : ip_WP 156 17 [some (.ref x0), some (.int x1), x2, x3] [.ref s1, .ref s0] (G, F, I, J) b post px ↔ ip_WP 156 18 [some (.ref x0), some (.int x1), x2, x3] [.int x1, .ref s1, .ref s0] (G, F, I, J) b post px := ip_nx_iff ((ip_st_of f156_17).trans rfl)
theorem f156_18 : ip_fetch 156 18 = some (.invokevirtual 75, 3) := by decide +kernel
set_option maxRecDepth 100000 in
theorem s156_18 {x0 : Nat} {x1 : Int32} {x2 : Option Value} {x3 : Option Value} {s0 : Nat} {s1 : Nat} {s2 : Int32} : ip_WP 156 18 [some (.ref x0), some (.int x1), x2, x3] [.int s2, .ref s1, .ref s0] (G, F, I, J) b post px ↔ (ip_isO G s0 7 = true ∧ ip_WP 157 0 [some (.ref s0), some (.ref s1), some (.int s2), none, none, none, none] [] (G, F, I, J) (0, 0) (fun r h' => ip_WP 156 21 [some (.ref x0), some (.int x1), x2, x3] (r.toList ++ []) h' b post px) (fun _ _ => False)) := ip_ck_iff (x := ip_cl 157 [some (.ref s0), some (.ref s1), some (.int s2), none, none, none, none] [] (0, 0) b) ((ip_st_of f156_18).trans rfl) (ip_cl_iff)
theorem f156_21 : ip_fetch 156 21 = some (.iconst 1, 1) := by decide +kernel
theorem s156_21 {x0 : Nat} {x1 : Int32} {x2 : Option Value} {x3 : Option Value} : ip_WP 156 21 [some (.ref x0), some (.int x1), x2, x3] [] (G, F, I, J) b post px ↔ ip_WP 156 22 [some (.ref x0), some (.int x1), x2, x3] [.int 1] (G, F, I, J) b post px := ip_s_iconst f156_21 (by decide)
theorem f156_22 : ip_fetch 156 22 = some (.istore_n 2, 1) := by decide +kernel
theorem s156_22 {x0 : Nat} {x1 : Int32} {x2 : Option Value} {x3 : Option Value} {s0 : Int32} : ip_WP 156 22 [some (.ref x0), some (.int x1), x2, x3] [.int s0] (G, F, I, J) b post px ↔ ip_WP 156 23 [some (.ref x0), some (.int x1), some (.int s0), x3] [] (G, F, I, J) b post px := ip_nx_iff ((ip_st_of f156_22).trans rfl)
theorem f156_23 : ip_fetch 156 23 = some (.iconst 0, 1) := by decide +kernel
theorem s156_23 {x0 : Nat} {x1 : Int32} {x2 : Int32} {x3 : Option Value} : ip_WP 156 23 [some (.ref x0), some (.int x1), some (.int x2), x3] [] (G, F, I, J) b post px ↔ ip_WP 156 24 [some (.ref x0), some (.int x1), some (.int x2), x3] [.int 0] (G, F, I, J) b post px := ip_s_iconst f156_23 (by decide)
theorem f156_24 : ip_fetch 156 24 = some (.istore_n 3, 1) := by decide +kernel
theorem s156_24 {x0 : Nat} {x1 : Int32} {x2 : Int32} {x3 : Option Value} {s0 : Int32} : ip_WP 156 24 [some (.ref x0), some (.int x1), some (.int x2), x3] [.int s0] (G, F, I, J) b post px ↔ ip_WP 156 25 [some (.ref x0), some (.int x1), some (.int x2), some (.int s0)] [] (G, F, I, J) b post px := ip_nx_iff ((ip_st_of f156_24).trans rfl)
theorem f156_25 : ip_fetch 156 25 = some (.iload_n 3, 1) := by decide +kernel
theorem s156_25 {x0 : Nat} {x1 : Int32} {x2 : Int32} {x3 : Int32} : ip_WP 156 25 [some (.ref x0), some (.int x1), some (.int x2), some (.int x3)] [] (G, F, I, J) b post px ↔ ip_WP 156 26 [some (.ref x0), some (.int x1), some (.int x2), some (.int x3)] [.int x3] (G, F, I, J) b post px := ip_nx_iff ((ip_st_of f156_25).trans rfl)
theorem f156_26 : ip_fetch 156 26 = some (.aload_n 0, 1) := by decide +kernel
theorem s156_26 {x0 : Nat} {x1 : Int32} {x2 : Int32} {x3 : Int32} {s0 : Int32} : ip_WP 156 26 [some (.ref x0), some (.int x1), some (.int x2), some (.int x3)] [.int s0] (G, F, I, J) b post px ↔ ip_WP 156 27 [some (.ref x0), some (.int x1), some (.int x2), some (.int x3)] [.ref x0, .int s0] (G, F, I, J) b post px := ip_nx_iff ((ip_st_of f156_26).trans rfl)
theorem f156_27 : ip_fetch 156 27 = some (.getfield 9, 3) := by decide +kernel
set_option maxRecDepth 100000 in
theorem s156_27 {x0 : Nat} {x1 : Int32} {x2 : Int32} {x3 : Int32} {s0 : Int32} {s1 : Nat} : ip_WP 156 27 [some (.ref x0), some (.int x1), some (.int x2), some (.int x3)] [.ref s1, .int s0] (G, F, I, J) b post px ↔ (ip_isO G s1 7 = true ∧ ip_WP 156 30 [some (.ref x0), some (.int x1), some (.int x2), some (.int x3)] [F s1 0, .int s0] (G, F, I, J) b post px) := ip_s_getf f156_27 (by decide +kernel)
theorem f156_30 : ip_fetch 156 30 = some (.getfield 43, 3) := by decide +kernel
set_option maxRecDepth 100000 in
theorem s156_30 {x0 : Nat} {x1 : Int32} {x2 : Int32} {x3 : Int32} {s0 : Int32} {s1 : Nat} : ip_WP 156 30 [some (.ref x0), some (.int x1), some (.int x2), some (.int x3)] [.ref s1, .int s0] (G, F, I, J) b post px ↔ (ip_isO G s1 3 = true ∧ ip_WP 156 33 [some (.ref x0), some (.int x1), some (.int x2), some (.int x3)] [F s1 0, .int s0] (G, F, I, J) b post px) := ip_s_getf f156_30 (by decide +kernel)
theorem f156_33 : ip_fetch 156 33 = some (.invokevirtual 33, 3) := by decide +kernel
set_option maxRecDepth 100000 in
theorem s156_33 {x0 : Nat} {x1 : Int32} {x2 : Int32} {x3 : Int32} {s0 : Int32} {s1 : Nat} : ip_WP 156 33 [some (.ref x0), some (.int x1), some (.int x2), some (.int x3)] [.ref s1, .int s0] (G, F, I, J) b post px ↔ (ip_isO G s1 6 = true ∧ ip_WP 143 0 [some (.ref s1)] [] (G, F, I, J) (0, 0) (fun r h' => ip_WP 156 36 [some (.ref x0), some (.int x1), some (.int x2), some (.int x3)] (r.toList ++ [.int s0]) h' b post px) (fun _ _ => False)) := ip_ck_iff (x := ip_cl 143 [some (.ref s1)] [.int s0] (0, 0) b) ((ip_st_of f156_33).trans rfl) (ip_cl_iff)
theorem f156_36 : ip_fetch 156 36 = some (.if_icmp .ge 53, 3) := by decide +kernel
theorem s156_36 {x0 : Nat} {x1 : Int32} {x2 : Int32} {x3 : Int32} {s0 : Int32} {s1 : Int32} : ip_WP 156 36 [some (.ref x0), some (.int x1), some (.int x2), some (.int x3)] [.int s1, .int s0] (G, F, I, J) b post px ↔ if s1 ≤ s0 then ip_WP 156 89 [some (.ref x0), some (.int x1), some (.int x2), some (.int x3)] [] (G, F, I, J) b post px else ip_WP 156 39 [some (.ref x0), some (.int x1), some (.int x2), some (.int x3)] [] (G, F, I, J) b post px := ip_s_ic_ge f156_36 rfl
theorem f156_39 : ip_fetch 156 39 = some (.aload_n 0, 1) := by decide +kernel
theorem s156_39 {x0 : Nat} {x1 : Int32} {x2 : Int32} {x3 : Int32} : ip_WP 156 39 [some (.ref x0), some (.int x1), some (.int x2), some (.int x3)] [] (G, F, I, J) b post px ↔ ip_WP 156 40 [some (.ref x0), some (.int x1), some (.int x2), some (.int x3)] [.ref x0] (G, F, I, J) b post px := ip_nx_iff ((ip_st_of f156_39).trans rfl)
theorem f156_40 : ip_fetch 156 40 = some (.getfield 9, 3) := by decide +kernel
set_option maxRecDepth 100000 in
theorem s156_40 {x0 : Nat} {x1 : Int32} {x2 : Int32} {x3 : Int32} {s0 : Nat} : ip_WP 156 40 [some (.ref x0), some (.int x1), some (.int x2), some (.int x3)] [.ref s0] (G, F, I, J) b post px ↔ (ip_isO G s0 7 = true ∧ ip_WP 156 43 [some (.ref x0), some (.int x1), some (.int x2), some (.int x3)] [F s0 0] (G, F, I, J) b post px) := ip_s_getf f156_40 (by decide +kernel)
theorem f156_43 : ip_fetch 156 43 = some (.iload_n 1, 1) := by decide +kernel
theorem s156_43 {x0 : Nat} {x1 : Int32} {x2 : Int32} {x3 : Int32} {s0 : Nat} : ip_WP 156 43 [some (.ref x0), some (.int x1), some (.int x2), some (.int x3)] [.ref s0] (G, F, I, J) b post px ↔ ip_WP 156 44 [some (.ref x0), some (.int x1), some (.int x2), some (.int x3)] [.int x1, .ref s0] (G, F, I, J) b post px := ip_nx_iff ((ip_st_of f156_43).trans rfl)
theorem f156_44 : ip_fetch 156 44 = some (.iload_n 3, 1) := by decide +kernel
theorem s156_44 {x0 : Nat} {x1 : Int32} {x2 : Int32} {x3 : Int32} {s0 : Nat} {s1 : Int32} : ip_WP 156 44 [some (.ref x0), some (.int x1), some (.int x2), some (.int x3)] [.int s1, .ref s0] (G, F, I, J) b post px ↔ ip_WP 156 45 [some (.ref x0), some (.int x1), some (.int x2), some (.int x3)] [.int x3, .int s1, .ref s0] (G, F, I, J) b post px := ip_nx_iff ((ip_st_of f156_44).trans rfl)
theorem f156_45 : ip_fetch 156 45 = some (.invokevirtual 146, 3) := by decide +kernel
set_option maxRecDepth 100000 in
theorem s156_45 {x0 : Nat} {x1 : Int32} {x2 : Int32} {x3 : Int32} {s0 : Nat} {s1 : Int32} {s2 : Int32} : ip_WP 156 45 [some (.ref x0), some (.int x1), some (.int x2), some (.int x3)] [.int s2, .int s1, .ref s0] (G, F, I, J) b post px ↔ (ip_isO G s0 3 = true ∧ ip_WP 114 0 [some (.ref s0), some (.int s1), some (.int s2)] [] (G, F, I, J) (0, 0) (fun r h' => ip_WP 156 48 [some (.ref x0), some (.int x1), some (.int x2), some (.int x3)] (r.toList ++ []) h' b post px) (fun _ _ => False)) := ip_ck_iff (x := ip_cl 114 [some (.ref s0), some (.int s1), some (.int s2)] [] (0, 0) b) ((ip_st_of f156_45).trans rfl) (ip_cl_iff)
theorem f156_48 : ip_fetch 156 48 = some (.ifCond .eq 35, 3) := by decide +kernel
theorem s156_48 {x0 : Nat} {x1 : Int32} {x2 : Int32} {x3 : Int32} {s0 : Int32} : ip_WP 156 48 [some (.ref x0), some (.int x1), some (.int x2), some (.int x3)] [.int s0] (G, F, I, J) b post px ↔ if s0 = 0 then ip_WP 156 83 [some (.ref x0), some (.int x1), some (.int x2), some (.int x3)] [] (G, F, I, J) b post px else ip_WP 156 51 [some (.ref x0), some (.int x1), some (.int x2), some (.int x3)] [] (G, F, I, J) b post px := ip_s_if_eq f156_48 rfl
theorem f156_51 : ip_fetch 156 51 = some (.aload_n 0, 1) := by decide +kernel
theorem s156_51 {x0 : Nat} {x1 : Int32} {x2 : Int32} {x3 : Int32} : ip_WP 156 51 [some (.ref x0), some (.int x1), some (.int x2), some (.int x3)] [] (G, F, I, J) b post px ↔ ip_WP 156 52 [some (.ref x0), some (.int x1), some (.int x2), some (.int x3)] [.ref x0] (G, F, I, J) b post px := ip_nx_iff ((ip_st_of f156_51).trans rfl)
theorem f156_52 : ip_fetch 156 52 = some (.getfield 15, 3) := by decide +kernel
set_option maxRecDepth 100000 in
theorem s156_52 {x0 : Nat} {x1 : Int32} {x2 : Int32} {x3 : Int32} {s0 : Nat} : ip_WP 156 52 [some (.ref x0), some (.int x1), some (.int x2), some (.int x3)] [.ref s0] (G, F, I, J) b post px ↔ (ip_isO G s0 7 = true ∧ ip_WP 156 55 [some (.ref x0), some (.int x1), some (.int x2), some (.int x3)] [F s0 1] (G, F, I, J) b post px) := ip_s_getf f156_52 (by decide +kernel)
theorem f156_55 : ip_fetch 156 55 = some (.iload_n 2, 1) := by decide +kernel
theorem s156_55 {x0 : Nat} {x1 : Int32} {x2 : Int32} {x3 : Int32} {s0 : Nat} : ip_WP 156 55 [some (.ref x0), some (.int x1), some (.int x2), some (.int x3)] [.ref s0] (G, F, I, J) b post px ↔ ip_WP 156 56 [some (.ref x0), some (.int x1), some (.int x2), some (.int x3)] [.int x2, .ref s0] (G, F, I, J) b post px := ip_nx_iff ((ip_st_of f156_55).trans rfl)
theorem f156_56 : ip_fetch 156 56 = some (.ifCond .eq 8, 3) := by decide +kernel
theorem s156_56 {x0 : Nat} {x1 : Int32} {x2 : Int32} {x3 : Int32} {s0 : Nat} {s1 : Int32} : ip_WP 156 56 [some (.ref x0), some (.int x1), some (.int x2), some (.int x3)] [.int s1, .ref s0] (G, F, I, J) b post px ↔ if s1 = 0 then ip_WP 156 64 [some (.ref x0), some (.int x1), some (.int x2), some (.int x3)] [.ref s0] (G, F, I, J) b post px else ip_WP 156 59 [some (.ref x0), some (.int x1), some (.int x2), some (.int x3)] [.ref s0] (G, F, I, J) b post px := ip_s_if_eq f156_56 rfl
theorem f156_59 : ip_fetch 156 59 = some (.ldc 149, 2) := by decide +kernel
set_option maxRecDepth 100000 in
theorem s156_59 {x0 : Nat} {x1 : Int32} {x2 : Int32} {x3 : Int32} {s0 : Nat} : ip_WP 156 59 [some (.ref x0), some (.int x1), some (.int x2), some (.int x3)] [.ref s0] (G, F, I, J) b post px ↔ ip_WP 156 61 [some (.ref x0), some (.int x1), some (.int x2), some (.int x3)] [.ref 1000020, .ref s0] (G, F, I, J) b post px := ip_nx_iff ((ip_st_of f156_59).trans rfl)
theorem f156_61 : ip_fetch 156 61 = some (.goto 5, 3) := by decide +kernel
theorem s156_61 {x0 : Nat} {x1 : Int32} {x2 : Int32} {x3 : Int32} {s0 : Nat} {s1 : Nat} : ip_WP 156 61 [some (.ref x0), some (.int x1), some (.int x2), some (.int x3)] [.ref s1, .ref s0] (G, F, I, J) b post px ↔ ip_WP 156 66 [some (.ref x0), some (.int x1), some (.int x2), some (.int x3)] [.ref s1, .ref s0] (G, F, I, J) b post px := ip_nx_iff ((ip_st_of f156_61).trans rfl)
theorem f156_64 : ip_fetch 156 64 = some (.ldc 69, 2) := by decide +kernel
set_option maxRecDepth 100000 in
theorem s156_64 {x0 : Nat} {x1 : Int32} {x2 : Int32} {x3 : Int32} {s0 : Nat} : ip_WP 156 64 [some (.ref x0), some (.int x1), some (.int x2), some (.int x3)] [.ref s0] (G, F, I, J) b post px ↔ ip_WP 156 66 [some (.ref x0), some (.int x1), some (.int x2), some (.int x3)] [.ref 1000008, .ref s0] (G, F, I, J) b post px := ip_nx_iff ((ip_st_of f156_64).trans rfl)
theorem f156_66 : ip_fetch 156 66 = some (.invokevirtual 71, 3) := by decide +kernel
set_option maxRecDepth 100000 in
theorem s156_66 {x0 : Nat} {x1 : Int32} {x2 : Int32} {x3 : Int32} {s0 : Nat} {s1 : Nat} : ip_WP 156 66 [some (.ref x0), some (.int x1), some (.int x2), some (.int x3)] [.ref s1, .ref s0] (G, F, I, J) b post px ↔ (ip_isO G s0 2 = true ∧ ip_WP 93 0 [some (.ref s0), some (.ref s1), none] [] (G, F, I, J) (0, 0) (fun r h' => ip_WP 156 69 [some (.ref x0), some (.int x1), some (.int x2), some (.int x3)] (r.toList ++ []) h' b post px) (fun _ _ => False)) := ip_ck_iff (x := ip_cl 93 [some (.ref s0), some (.ref s1), none] [] (0, 0) b) ((ip_st_of f156_66).trans rfl) (ip_cl_iff)
theorem f156_69 : ip_fetch 156 69 = some (.aload_n 0, 1) := by decide +kernel
theorem s156_69 {x0 : Nat} {x1 : Int32} {x2 : Int32} {x3 : Int32} : ip_WP 156 69 [some (.ref x0), some (.int x1), some (.int x2), some (.int x3)] [] (G, F, I, J) b post px ↔ ip_WP 156 70 [some (.ref x0), some (.int x1), some (.int x2), some (.int x3)] [.ref x0] (G, F, I, J) b post px := ip_nx_iff ((ip_st_of f156_69).trans rfl)
theorem f156_70 : ip_fetch 156 70 = some (.aload_n 0, 1) := by decide +kernel
theorem s156_70 {x0 : Nat} {x1 : Int32} {x2 : Int32} {x3 : Int32} {s0 : Nat} : ip_WP 156 70 [some (.ref x0), some (.int x1), some (.int x2), some (.int x3)] [.ref s0] (G, F, I, J) b post px ↔ ip_WP 156 71 [some (.ref x0), some (.int x1), some (.int x2), some (.int x3)] [.ref x0, .ref s0] (G, F, I, J) b post px := ip_nx_iff ((ip_st_of f156_70).trans rfl)
theorem f156_71 : ip_fetch 156 71 = some (.getfield 9, 3) := by decide +kernel
set_option maxRecDepth 100000 in
theorem s156_71 {x0 : Nat} {x1 : Int32} {x2 : Int32} {x3 : Int32} {s0 : Nat} {s1 : Nat} : ip_WP 156 71 [some (.ref x0), some (.int x1), some (.int x2), some (.int x3)] [.ref s1, .ref s0] (G, F, I, J) b post px ↔ (ip_isO G s1 7 = true ∧ ip_WP 156 74 [some (.ref x0), some (.int x1), some (.int x2), some (.int x3)] [F s1 0, .ref s0] (G, F, I, J) b post px) := ip_s_getf f156_71 (by decide +kernel)
theorem f156_74 : ip_fetch 156 74 = some (.getfield 43, 3) := by decide +kernel
set_option maxRecDepth 100000 in
theorem s156_74 {x0 : Nat} {x1 : Int32} {x2 : Int32} {x3 : Int32} {s0 : Nat} {s1 : Nat} : ip_WP 156 74 [some (.ref x0), some (.int x1), some (.int x2), some (.int x3)] [.ref s1, .ref s0] (G, F, I, J) b post px ↔ (ip_isO G s1 3 = true ∧ ip_WP 156 77 [some (.ref x0), some (.int x1), some (.int x2), some (.int x3)] [F s1 0, .ref s0] (G, F, I, J) b post px) := ip_s_getf f156_74 (by decide +kernel)
theorem f156_77 : ip_fetch 156 77 = some (.iload_n 3, 1) := by decide +kernel
theorem s156_77 {x0 : Nat} {x1 : Int32} {x2 : Int32} {x3 : Int32} {s0 : Nat} {s1 : Nat} : ip_WP 156 77 [some (.ref x0), some (.int x1), some (.int x2), some (.int x3)] [.ref s1, .ref s0] (G, F, I, J) b post px ↔ ip_WP 156 78 [some (.ref x0), some (.int x1), some (.int x2), some (.int x3)] [.int x3, .ref s1, .ref s0] (G, F, I, J) b post px := ip_nx_iff ((ip_st_of f156_77).trans rfl)
theorem f156_78 : ip_fetch 156 78 = some (.invokevirtual 75, 3) := by decide +kernel
set_option maxRecDepth 100000 in
theorem s156_78 {x0 : Nat} {x1 : Int32} {x2 : Int32} {x3 : Int32} {s0 : Nat} {s1 : Nat} {s2 : Int32} : ip_WP 156 78 [some (.ref x0), some (.int x1), some (.int x2), some (.int x3)] [.int s2, .ref s1, .ref s0] (G, F, I, J) b post px ↔ (ip_isO G s0 7 = true ∧ ip_WP 157 0 [some (.ref s0), some (.ref s1), some (.int s2), none, none, none, none] [] (G, F, I, J) (0, 0) (fun r h' => ip_WP 156 81 [some (.ref x0), some (.int x1), some (.int x2), some (.int x3)] (r.toList ++ []) h' b post px) (fun _ _ => False)) := ip_ck_iff (x := ip_cl 157 [some (.ref s0), some (.ref s1), some (.int s2), none, none, none, none] [] (0, 0) b) ((ip_st_of f156_78).trans rfl) (ip_cl_iff)
theorem f156_81 : ip_fetch 156 81 = some (.iconst 0, 1) := by decide +kernel
theorem s156_81 {x0 : Nat} {x1 : Int32} {x2 : Int32} {x3 : Int32} : ip_WP 156 81 [some (.ref x0), some (.int x1), some (.int x2), some (.int x3)] [] (G, F, I, J) b post px ↔ ip_WP 156 82 [some (.ref x0), some (.int x1), some (.int x2), some (.int x3)] [.int 0] (G, F, I, J) b post px := ip_s_iconst f156_81 (by decide)
theorem f156_82 : ip_fetch 156 82 = some (.istore_n 2, 1) := by decide +kernel
theorem s156_82 {x0 : Nat} {x1 : Int32} {x2 : Int32} {x3 : Int32} {s0 : Int32} : ip_WP 156 82 [some (.ref x0), some (.int x1), some (.int x2), some (.int x3)] [.int s0] (G, F, I, J) b post px ↔ ip_WP 156 83 [some (.ref x0), some (.int x1), some (.int s0), some (.int x3)] [] (G, F, I, J) b post px := ip_nx_iff ((ip_st_of f156_82).trans rfl)
theorem f156_83 : ip_fetch 156 83 = some (.iinc 3 1, 3) := by decide +kernel
theorem s156_83 {x0 : Nat} {x1 : Int32} {x2 : Int32} {x3 : Int32} : ip_WP 156 83 [some (.ref x0), some (.int x1), some (.int x2), some (.int x3)] [] (G, F, I, J) b post px ↔ ip_WP 156 86 [some (.ref x0), some (.int x1), some (.int x2), some (.int (x3 + 1))] [] (G, F, I, J) b post px := ip_s_iinc f156_83 rfl (by decide)
theorem f156_86 : ip_fetch 156 86 = some (.goto (-61), 3) := by decide +kernel
theorem s156_86 {x0 : Nat} {x1 : Int32} {x2 : Int32} {x3 : Int32} : ip_WP 156 86 [some (.ref x0), some (.int x1), some (.int x2), some (.int x3)] [] (G, F, I, J) b post px ↔ ip_WP 156 25 [some (.ref x0), some (.int x1), some (.int x2), some (.int x3)] [] (G, F, I, J) b post px := ip_nx_iff ((ip_st_of f156_86).trans rfl)
theorem f156_89 : ip_fetch 156 89 = some (.aload_n 0, 1) := by decide +kernel
theorem s156_89 {x0 : Nat} {x1 : Int32} {x2 : Int32} {x3 : Int32} : ip_WP 156 89 [some (.ref x0), some (.int x1), some (.int x2), some (.int x3)] [] (G, F, I, J) b post px ↔ ip_WP 156 90 [some (.ref x0), some (.int x1), some (.int x2), some (.int x3)] [.ref x0] (G, F, I, J) b post px := ip_nx_iff ((ip_st_of f156_89).trans rfl)
theorem f156_90 : ip_fetch 156 90 = some (.invokevirtual 79, 3) := by decide +kernel
set_option maxRecDepth 100000 in
theorem s156_90 {x0 : Nat} {x1 : Int32} {x2 : Int32} {x3 : Int32} {s0 : Nat} : ip_WP 156 90 [some (.ref x0), some (.int x1), some (.int x2), some (.int x3)] [.ref s0] (G, F, I, J) b post px ↔ (ip_isO G s0 7 = true ∧ ip_WP 159 0 [some (.ref s0)] [] (G, F, I, J) (0, 0) (fun r h' => ip_WP 156 93 [some (.ref x0), some (.int x1), some (.int x2), some (.int x3)] (r.toList ++ []) h' b post px) (fun _ _ => False)) := ip_ck_iff (x := ip_cl 159 [some (.ref s0)] [] (0, 0) b) ((ip_st_of f156_90).trans rfl) (ip_cl_iff)
theorem f156_93 : ip_fetch 156 93 = some (.return_, 1) := by decide +kernel
theorem s156_93 {x0 : Nat} {x1 : Int32} {x2 : Int32} {x3 : Int32} : ip_WP 156 93 [some (.ref x0), some (.int x1), some (.int x2), some (.int x3)] [] (G, F, I, J) b post px ↔ post none (G, F, I, J) := ip_rt_iff ((ip_st_of f156_93).trans rfl)
theorem f157_0 : ip_fetch 157 0 = some (.aload_n 1, 1) := by decide +kernel
theorem s157_0 {x0 : Nat} {x1 : Nat} {x2 : Int32} {x3 : Option Value} {x4 : Option Value} {x5 : Option Value} {x6 : Option Value} : ip_WP 157 0 [some (.ref x0), some (.ref x1), some (.int x2), x3, x4, x5, x6] [] (G, F, I, J) b post px ↔ ip_WP 157 1 [some (.ref x0), some (.ref x1), some (.int x2), x3, x4, x5, x6] [.ref x1] (G, F, I, J) b post px := ip_nx_iff ((ip_st_of f157_0).trans rfl)
theorem f157_1 : ip_fetch 157 1 = some (.iload_n 2, 1) := by decide +kernel
theorem s157_1 {x0 : Nat} {x1 : Nat} {x2 : Int32} {x3 : Option Value} {x4 : Option Value} {x5 : Option Value} {x6 : Option Value} {s0 : Nat} : ip_WP 157 1 [some (.ref x0), some (.ref x1), some (.int x2), x3, x4, x5, x6] [.ref s0] (G, F, I, J) b post px ↔ ip_WP 157 2 [some (.ref x0), some (.ref x1), some (.int x2), x3, x4, x5, x6] [.int x2, .ref s0] (G, F, I, J) b post px := ip_nx_iff ((ip_st_of f157_1).trans rfl)
theorem f157_2 : ip_fetch 157 2 = some (.invokevirtual 151, 3) := by decide +kernel
set_option maxRecDepth 100000 in
theorem s157_2 {x0 : Nat} {x1 : Nat} {x2 : Int32} {x3 : Option Value} {x4 : Option Value} {x5 : Option Value} {x6 : Option Value} {s0 : Nat} {s1 : Int32} : ip_WP 157 2 [some (.ref x0), some (.ref x1), some (.int x2), x3, x4, x5, x6] [.int s1, .ref s0] (G, F, I, J) b post px ↔ (ip_isO G s0 6 = true ∧ ip_WP 147 0 [some (.ref s0), some (.int s1)] [] (G, F, I, J) (0, 0) (fun r h' => ip_WP 157 5 [some (.ref x0), some (.ref x1), some (.int x2), x3, x4, x5, x6] (r.toList ++ []) h' b post px) (fun _ _ => False)) := ip_ck_iff (x := ip_cl 147 [some (.ref s0), some (.int s1)] [] (0, 0) b) ((ip_st_of f157_2).trans rfl) (ip_cl_iff)
theorem f157_5 : ip_fetch 157 5 = some (.lstore_n 3, 1) := by decide +kernel
theorem s157_5 {x0 : Nat} {x1 : Nat} {x2 : Int32} {x3 : Option Value} {x4 : Option Value} {x5 : Option Value} {x6 : Option Value} {s0 : Int64} : ip_WP 157 5 [some (.ref x0), some (.ref x1), some (.int x2), x3, x4, x5, x6] [.long s0] (G, F, I, J) b post px ↔ ip_WP 157 6 [some (.ref x0), some (.ref x1), some (.int x2), some (.long s0), none, x5, x6] [] (G, F, I, J) b post px := ip_nx_iff ((ip_st_of f157_5).trans rfl)
theorem f157_6 : ip_fetch 157 6 = some (.iconst 0, 1) := by decide +kernel
theorem s157_6 {x0 : Nat} {x1 : Nat} {x2 : Int32} {x3 : Int64} {x5 : Option Value} {x6 : Option Value} : ip_WP 157 6 [some (.ref x0), some (.ref x1), some (.int x2), some (.long x3), none, x5, x6] [] (G, F, I, J) b post px ↔ ip_WP 157 7 [some (.ref x0), some (.ref x1), some (.int x2), some (.long x3), none, x5, x6] [.int 0] (G, F, I, J) b post px := ip_s_iconst f157_6 (by decide)
theorem f157_7 : ip_fetch 157 7 = some (.istore 5, 2) := by decide +kernel
theorem s157_7 {x0 : Nat} {x1 : Nat} {x2 : Int32} {x3 : Int64} {x5 : Option Value} {x6 : Option Value} {s0 : Int32} : ip_WP 157 7 [some (.ref x0), some (.ref x1), some (.int x2), some (.long x3), none, x5, x6] [.int s0] (G, F, I, J) b post px ↔ ip_WP 157 9 [some (.ref x0), some (.ref x1), some (.int x2), some (.long x3), none, some (.int s0), x6] [] (G, F, I, J) b post px := ip_nx_iff ((ip_st_of f157_7).trans rfl)
theorem f157_9 : ip_fetch 157 9 = some (.iload 5, 2) := by decide +kernel
theorem s157_9 {x0 : Nat} {x1 : Nat} {x2 : Int32} {x3 : Int64} {x5 : Int32} {x6 : Option Value} : ip_WP 157 9 [some (.ref x0), some (.ref x1), some (.int x2), some (.long x3), none, some (.int x5), x6] [] (G, F, I, J) b post px ↔ ip_WP 157 11 [some (.ref x0), some (.ref x1), some (.int x2), some (.long x3), none, some (.int x5), x6] [.int x5] (G, F, I, J) b post px := ip_nx_iff ((ip_st_of f157_9).trans rfl)
theorem f157_11 : ip_fetch 157 11 = some (.bipush 12, 2) := by decide +kernel
theorem s157_11 {x0 : Nat} {x1 : Nat} {x2 : Int32} {x3 : Int64} {x5 : Int32} {x6 : Option Value} {s0 : Int32} : ip_WP 157 11 [some (.ref x0), some (.ref x1), some (.int x2), some (.long x3), none, some (.int x5), x6] [.int s0] (G, F, I, J) b post px ↔ ip_WP 157 13 [some (.ref x0), some (.ref x1), some (.int x2), some (.long x3), none, some (.int x5), x6] [.int 12, .int s0] (G, F, I, J) b post px := ip_s_bipush f157_11 (by decide)
theorem f157_13 : ip_fetch 157 13 = some (.if_icmp .ge 44, 3) := by decide +kernel
theorem s157_13 {x0 : Nat} {x1 : Nat} {x2 : Int32} {x3 : Int64} {x5 : Int32} {x6 : Option Value} {s0 : Int32} {s1 : Int32} : ip_WP 157 13 [some (.ref x0), some (.ref x1), some (.int x2), some (.long x3), none, some (.int x5), x6] [.int s1, .int s0] (G, F, I, J) b post px ↔ if s1 ≤ s0 then ip_WP 157 57 [some (.ref x0), some (.ref x1), some (.int x2), some (.long x3), none, some (.int x5), x6] [] (G, F, I, J) b post px else ip_WP 157 16 [some (.ref x0), some (.ref x1), some (.int x2), some (.long x3), none, some (.int x5), x6] [] (G, F, I, J) b post px := ip_s_ic_ge f157_13 rfl
theorem f157_16 : ip_fetch 157 16 = some (.lload_n 3, 1) := by decide +kernel
theorem s157_16 {x0 : Nat} {x1 : Nat} {x2 : Int32} {x3 : Int64} {x5 : Int32} {x6 : Option Value} : ip_WP 157 16 [some (.ref x0), some (.ref x1), some (.int x2), some (.long x3), none, some (.int x5), x6] [] (G, F, I, J) b post px ↔ ip_WP 157 17 [some (.ref x0), some (.ref x1), some (.int x2), some (.long x3), none, some (.int x5), x6] [.long x3] (G, F, I, J) b post px := ip_nx_iff ((ip_st_of f157_16).trans rfl)
theorem f157_17 : ip_fetch 157 17 = some (.ldc2_w 155, 3) := by decide +kernel
set_option maxRecDepth 100000 in
theorem s157_17 {x0 : Nat} {x1 : Nat} {x2 : Int32} {x3 : Int64} {x5 : Int32} {x6 : Option Value} {s0 : Int64} : ip_WP 157 17 [some (.ref x0), some (.ref x1), some (.int x2), some (.long x3), none, some (.int x5), x6] [.long s0] (G, F, I, J) b post px ↔ ip_WP 157 20 [some (.ref x0), some (.ref x1), some (.int x2), some (.long x3), none, some (.int x5), x6] [.long 177917621779460413, .long s0] (G, F, I, J) b post px := ip_nx_iff ((ip_st_of f157_17).trans rfl)
theorem f157_20 : ip_fetch 157 20 = some (.ldiv, 1) := by decide +kernel
theorem s157_20 {x0 : Nat} {x1 : Nat} {x2 : Int32} {x3 : Int64} {x5 : Int32} {x6 : Option Value} {s0 : Int64} {s1 : Int64} : ip_WP 157 20 [some (.ref x0), some (.ref x1), some (.int x2), some (.long x3), none, some (.int x5), x6] [.long s1, .long s0] (G, F, I, J) b post px ↔ (¬ s1 = 0 ∧ ip_WP 157 21 [some (.ref x0), some (.ref x1), some (.int x2), some (.long x3), none, some (.int x5), x6] [.long (s0 / s1)] (G, F, I, J) b post px) := ip_s_div ((ip_st_of f157_20).trans rfl)
theorem f157_21 : ip_fetch 157 21 = some (.l2i, 1) := by decide +kernel
theorem s157_21 {x0 : Nat} {x1 : Nat} {x2 : Int32} {x3 : Int64} {x5 : Int32} {x6 : Option Value} {s0 : Int64} : ip_WP 157 21 [some (.ref x0), some (.ref x1), some (.int x2), some (.long x3), none, some (.int x5), x6] [.long s0] (G, F, I, J) b post px ↔ ip_WP 157 22 [some (.ref x0), some (.ref x1), some (.int x2), some (.long x3), none, some (.int x5), x6] [.int s0.toInt32] (G, F, I, J) b post px := ip_nx_iff ((ip_st_of f157_21).trans rfl)
theorem f157_22 : ip_fetch 157 22 = some (.istore 6, 2) := by decide +kernel
theorem s157_22 {x0 : Nat} {x1 : Nat} {x2 : Int32} {x3 : Int64} {x5 : Int32} {x6 : Option Value} {s0 : Int32} : ip_WP 157 22 [some (.ref x0), some (.ref x1), some (.int x2), some (.long x3), none, some (.int x5), x6] [.int s0] (G, F, I, J) b post px ↔ ip_WP 157 24 [some (.ref x0), some (.ref x1), some (.int x2), some (.long x3), none, some (.int x5), some (.int s0)] [] (G, F, I, J) b post px := ip_nx_iff ((ip_st_of f157_22).trans rfl)
theorem f157_24 : ip_fetch 157 24 = some (.iload 6, 2) := by decide +kernel
theorem s157_24 {x0 : Nat} {x1 : Nat} {x2 : Int32} {x3 : Int64} {x5 : Int32} {x6 : Int32} : ip_WP 157 24 [some (.ref x0), some (.ref x1), some (.int x2), some (.long x3), none, some (.int x5), some (.int x6)] [] (G, F, I, J) b post px ↔ ip_WP 157 26 [some (.ref x0), some (.ref x1), some (.int x2), some (.long x3), none, some (.int x5), some (.int x6)] [.int x6] (G, F, I, J) b post px := ip_nx_iff ((ip_st_of f157_24).trans rfl)
theorem f157_26 : ip_fetch 157 26 = some (.ifCond .le 15, 3) := by decide +kernel
theorem s157_26 {x0 : Nat} {x1 : Nat} {x2 : Int32} {x3 : Int64} {x5 : Int32} {x6 : Int32} {s0 : Int32} : ip_WP 157 26 [some (.ref x0), some (.ref x1), some (.int x2), some (.long x3), none, some (.int x5), some (.int x6)] [.int s0] (G, F, I, J) b post px ↔ if s0 ≤ 0 then ip_WP 157 41 [some (.ref x0), some (.ref x1), some (.int x2), some (.long x3), none, some (.int x5), some (.int x6)] [] (G, F, I, J) b post px else ip_WP 157 29 [some (.ref x0), some (.ref x1), some (.int x2), some (.long x3), none, some (.int x5), some (.int x6)] [] (G, F, I, J) b post px := ip_s_if_le f157_26 rfl
theorem f157_29 : ip_fetch 157 29 = some (.aload_n 0, 1) := by decide +kernel
theorem s157_29 {x0 : Nat} {x1 : Nat} {x2 : Int32} {x3 : Int64} {x5 : Int32} {x6 : Int32} : ip_WP 157 29 [some (.ref x0), some (.ref x1), some (.int x2), some (.long x3), none, some (.int x5), some (.int x6)] [] (G, F, I, J) b post px ↔ ip_WP 157 30 [some (.ref x0), some (.ref x1), some (.int x2), some (.long x3), none, some (.int x5), some (.int x6)] [.ref x0] (G, F, I, J) b post px := ip_nx_iff ((ip_st_of f157_29).trans rfl)
theorem f157_30 : ip_fetch 157 30 = some (.getfield 15, 3) := by decide +kernel
set_option maxRecDepth 100000 in
theorem s157_30 {x0 : Nat} {x1 : Nat} {x2 : Int32} {x3 : Int64} {x5 : Int32} {x6 : Int32} {s0 : Nat} : ip_WP 157 30 [some (.ref x0), some (.ref x1), some (.int x2), some (.long x3), none, some (.int x5), some (.int x6)] [.ref s0] (G, F, I, J) b post px ↔ (ip_isO G s0 7 = true ∧ ip_WP 157 33 [some (.ref x0), some (.ref x1), some (.int x2), some (.long x3), none, some (.int x5), some (.int x6)] [F s0 1] (G, F, I, J) b post px) := ip_s_getf f157_30 (by decide +kernel)
theorem f157_33 : ip_fetch 157 33 = some (.iload 6, 2) := by decide +kernel
theorem s157_33 {x0 : Nat} {x1 : Nat} {x2 : Int32} {x3 : Int64} {x5 : Int32} {x6 : Int32} {s0 : Nat} : ip_WP 157 33 [some (.ref x0), some (.ref x1), some (.int x2), some (.long x3), none, some (.int x5), some (.int x6)] [.ref s0] (G, F, I, J) b post px ↔ ip_WP 157 35 [some (.ref x0), some (.ref x1), some (.int x2), some (.long x3), none, some (.int x5), some (.int x6)] [.int x6, .ref s0] (G, F, I, J) b post px := ip_nx_iff ((ip_st_of f157_33).trans rfl)
theorem f157_35 : ip_fetch 157 35 = some (.invokestatic 157, 3) := by decide +kernel
set_option maxRecDepth 100000 in
theorem s157_35 {x0 : Nat} {x1 : Nat} {x2 : Int32} {x3 : Int64} {x5 : Int32} {x6 : Int32} {s0 : Nat} {s1 : Int32} : ip_WP 157 35 [some (.ref x0), some (.ref x1), some (.int x2), some (.long x3), none, some (.int x5), some (.int x6)] [.int s1, .ref s0] (G, F, I, J) b post px ↔ ip_WP 139 0 [some (.int s1)] [] (G, F, I, J) (0, 0) (fun r h' => ip_WP 157 38 [some (.ref x0), some (.ref x1), some (.int x2), some (.long x3), none, some (.int x5), some (.int x6)] (r.toList ++ [.ref s0]) h' b post px) (fun _ _ => False) := ip_cl_iff ((ip_st_of f157_35).trans (rfl : _ = ip_cl 139 [some (.int s1)] [.ref s0] (0, 0) b))
theorem f157_38 : ip_fetch 157 38 = some (.invokevirtual 160, 3) := by decide +kernel
set_option maxRecDepth 100000 in
theorem s157_38 {x0 : Nat} {x1 : Nat} {x2 : Int32} {x3 : Int64} {x5 : Int32} {x6 : Int32} {s0 : Nat} {s1 : Int32} : ip_WP 157 38 [some (.ref x0), some (.ref x1), some (.int x2), some (.long x3), none, some (.int x5), some (.int x6)] [.int s1, .ref s0] (G, F, I, J) b post px ↔ (ip_isO G s0 2 = true ∧ ip_WP 91 0 [some (.ref s0), some (.int s1)] [] (G, F, I, J) (0, 0) (fun r h' => ip_WP 157 41 [some (.ref x0), some (.ref x1), some (.int x2), some (.long x3), none, some (.int x5), some (.int x6)] (r.toList ++ []) h' b post px) (fun _ _ => False)) := ip_ck_iff (x := ip_cl 91 [some (.ref s0), some (.int s1)] [] (0, 0) b) ((ip_st_of f157_38).trans rfl) (ip_cl_iff)
theorem f157_41 : ip_fetch 157 41 = some (.lload_n 3, 1) := by decide +kernel
theorem s157_41 {x0 : Nat} {x1 : Nat} {x2 : Int32} {x3 : Int64} {x5 : Int32} {x6 : Int32} : ip_WP 157 41 [some (.ref x0), some (.ref x1), some (.int x2), some (.long x3), none, some (.int x5), some (.int x6)] [] (G, F, I, J) b post px ↔ ip_WP 157 42 [some (.ref x0), some (.ref x1), some (.int x2), some (.long x3), none, some (.int x5), some (.int x6)] [.long x3] (G, F, I, J) b post px := ip_nx_iff ((ip_st_of f157_41).trans rfl)
theorem f157_42 : ip_fetch 157 42 = some (.ldc2_w 155, 3) := by decide +kernel
set_option maxRecDepth 100000 in
theorem s157_42 {x0 : Nat} {x1 : Nat} {x2 : Int32} {x3 : Int64} {x5 : Int32} {x6 : Int32} {s0 : Int64} : ip_WP 157 42 [some (.ref x0), some (.ref x1), some (.int x2), some (.long x3), none, some (.int x5), some (.int x6)] [.long s0] (G, F, I, J) b post px ↔ ip_WP 157 45 [some (.ref x0), some (.ref x1), some (.int x2), some (.long x3), none, some (.int x5), some (.int x6)] [.long 177917621779460413, .long s0] (G, F, I, J) b post px := ip_nx_iff ((ip_st_of f157_42).trans rfl)
theorem f157_45 : ip_fetch 157 45 = some (.lrem, 1) := by decide +kernel
theorem s157_45 {x0 : Nat} {x1 : Nat} {x2 : Int32} {x3 : Int64} {x5 : Int32} {x6 : Int32} {s0 : Int64} {s1 : Int64} : ip_WP 157 45 [some (.ref x0), some (.ref x1), some (.int x2), some (.long x3), none, some (.int x5), some (.int x6)] [.long s1, .long s0] (G, F, I, J) b post px ↔ (¬ s1 = 0 ∧ ip_WP 157 46 [some (.ref x0), some (.ref x1), some (.int x2), some (.long x3), none, some (.int x5), some (.int x6)] [.long (s0 - s0 / s1 * s1)] (G, F, I, J) b post px) := ip_s_div ((ip_st_of f157_45).trans rfl)
theorem f157_46 : ip_fetch 157 46 = some (.ldc2_w 163, 3) := by decide +kernel
set_option maxRecDepth 100000 in
theorem s157_46 {x0 : Nat} {x1 : Nat} {x2 : Int32} {x3 : Int64} {x5 : Int32} {x6 : Int32} {s0 : Int64} : ip_WP 157 46 [some (.ref x0), some (.ref x1), some (.int x2), some (.long x3), none, some (.int x5), some (.int x6)] [.long s0] (G, F, I, J) b post px ↔ ip_WP 157 49 [some (.ref x0), some (.ref x1), some (.int x2), some (.long x3), none, some (.int x5), some (.int x6)] [.long 37, .long s0] (G, F, I, J) b post px := ip_nx_iff ((ip_st_of f157_46).trans rfl)
theorem f157_49 : ip_fetch 157 49 = some (.lmul, 1) := by decide +kernel
theorem s157_49 {x0 : Nat} {x1 : Nat} {x2 : Int32} {x3 : Int64} {x5 : Int32} {x6 : Int32} {s0 : Int64} {s1 : Int64} : ip_WP 157 49 [some (.ref x0), some (.ref x1), some (.int x2), some (.long x3), none, some (.int x5), some (.int x6)] [.long s1, .long s0] (G, F, I, J) b post px ↔ ip_WP 157 50 [some (.ref x0), some (.ref x1), some (.int x2), some (.long x3), none, some (.int x5), some (.int x6)] [.long (s0 * s1)] (G, F, I, J) b post px := ip_nx_iff ((ip_st_of f157_49).trans rfl)
theorem f157_50 : ip_fetch 157 50 = some (.lstore_n 3, 1) := by decide +kernel
theorem s157_50 {x0 : Nat} {x1 : Nat} {x2 : Int32} {x3 : Int64} {x5 : Int32} {x6 : Int32} {s0 : Int64} : ip_WP 157 50 [some (.ref x0), some (.ref x1), some (.int x2), some (.long x3), none, some (.int x5), some (.int x6)] [.long s0] (G, F, I, J) b post px ↔ ip_WP 157 51 [some (.ref x0), some (.ref x1), some (.int x2), some (.long s0), none, some (.int x5), some (.int x6)] [] (G, F, I, J) b post px := ip_nx_iff ((ip_st_of f157_50).trans rfl)
theorem f157_51 : ip_fetch 157 51 = some (.iinc 5 1, 3) := by decide +kernel
theorem s157_51 {x0 : Nat} {x1 : Nat} {x2 : Int32} {x3 : Int64} {x5 : Int32} {x6 : Int32} : ip_WP 157 51 [some (.ref x0), some (.ref x1), some (.int x2), some (.long x3), none, some (.int x5), some (.int x6)] [] (G, F, I, J) b post px ↔ ip_WP 157 54 [some (.ref x0), some (.ref x1), some (.int x2), some (.long x3), none, some (.int (x5 + 1)), some (.int x6)] [] (G, F, I, J) b post px := ip_s_iinc f157_51 rfl (by decide)
theorem f157_54 : ip_fetch 157 54 = some (.goto (-45), 3) := by decide +kernel
theorem s157_54 {x0 : Nat} {x1 : Nat} {x2 : Int32} {x3 : Int64} {x5 : Int32} {x6 : Int32} : ip_WP 157 54 [some (.ref x0), some (.ref x1), some (.int x2), some (.long x3), none, some (.int x5), some (.int x6)] [] (G, F, I, J) b post px ↔ ip_WP 157 9 [some (.ref x0), some (.ref x1), some (.int x2), some (.long x3), none, some (.int x5), some (.int x6)] [] (G, F, I, J) b post px := ip_nx_iff ((ip_st_of f157_54).trans rfl)
theorem f157_57 : ip_fetch 157 57 = some (.return_, 1) := by decide +kernel
theorem s157_57 {x0 : Nat} {x1 : Nat} {x2 : Int32} {x3 : Int64} {x5 : Int32} {x6 : Option Value} : ip_WP 157 57 [some (.ref x0), some (.ref x1), some (.int x2), some (.long x3), none, some (.int x5), x6] [] (G, F, I, J) b post px ↔ post none (G, F, I, J) := ip_rt_iff ((ip_st_of f157_57).trans rfl)
theorem f158_0 : ip_fetch 158 0 = some (.iload_n 1, 1) := by decide +kernel
theorem s158_0 {x0 : Nat} {x1 : Int32} : ip_WP 158 0 [some (.ref x0), some (.int x1)] [] (G, F, I, J) b post px ↔ ip_WP 158 1 [some (.ref x0), some (.int x1)] [.int x1] (G, F, I, J) b post px := ip_nx_iff ((ip_st_of f158_0).trans rfl)
theorem f158_1 : ip_fetch 158 1 = some (.bipush 100, 2) := by decide +kernel
theorem s158_1 {x0 : Nat} {x1 : Int32} {s0 : Int32} : ip_WP 158 1 [some (.ref x0), some (.int x1)] [.int s0] (G, F, I, J) b post px ↔ ip_WP 158 3 [some (.ref x0), some (.int x1)] [.int 100, .int s0] (G, F, I, J) b post px := ip_s_bipush f158_1 (by decide)
theorem f158_3 : ip_fetch 158 3 = some (.if_icmp .lt 17, 3) := by decide +kernel
theorem s158_3 {x0 : Nat} {x1 : Int32} {s0 : Int32} {s1 : Int32} : ip_WP 158 3 [some (.ref x0), some (.int x1)] [.int s1, .int s0] (G, F, I, J) b post px ↔ if s0 < s1 then ip_WP 158 20 [some (.ref x0), some (.int x1)] [] (G, F, I, J) b post px else ip_WP 158 6 [some (.ref x0), some (.int x1)] [] (G, F, I, J) b post px := ip_s_ic_lt f158_3 rfl
theorem f158_6 : ip_fetch 158 6 = some (.aload_n 0, 1) := by decide +kernel
theorem s158_6 {x0 : Nat} {x1 : Int32} : ip_WP 158 6 [some (.ref x0), some (.int x1)] [] (G, F, I, J) b post px ↔ ip_WP 158 7 [some (.ref x0), some (.int x1)] [.ref x0] (G, F, I, J) b post px := ip_nx_iff ((ip_st_of f158_6).trans rfl)
theorem f158_7 : ip_fetch 158 7 = some (.getfield 15, 3) := by decide +kernel
set_option maxRecDepth 100000 in
theorem s158_7 {x0 : Nat} {x1 : Int32} {s0 : Nat} : ip_WP 158 7 [some (.ref x0), some (.int x1)] [.ref s0] (G, F, I, J) b post px ↔ (ip_isO G s0 7 = true ∧ ip_WP 158 10 [some (.ref x0), some (.int x1)] [F s0 1] (G, F, I, J) b post px) := ip_s_getf f158_7 (by decide +kernel)
theorem f158_10 : ip_fetch 158 10 = some (.bipush 48, 2) := by decide +kernel
theorem s158_10 {x0 : Nat} {x1 : Int32} {s0 : Nat} : ip_WP 158 10 [some (.ref x0), some (.int x1)] [.ref s0] (G, F, I, J) b post px ↔ ip_WP 158 12 [some (.ref x0), some (.int x1)] [.int 48, .ref s0] (G, F, I, J) b post px := ip_s_bipush f158_10 (by decide)
theorem f158_12 : ip_fetch 158 12 = some (.iload_n 1, 1) := by decide +kernel
theorem s158_12 {x0 : Nat} {x1 : Int32} {s0 : Nat} {s1 : Int32} : ip_WP 158 12 [some (.ref x0), some (.int x1)] [.int s1, .ref s0] (G, F, I, J) b post px ↔ ip_WP 158 13 [some (.ref x0), some (.int x1)] [.int x1, .int s1, .ref s0] (G, F, I, J) b post px := ip_nx_iff ((ip_st_of f158_12).trans rfl)
theorem f158_13 : ip_fetch 158 13 = some (.bipush 100, 2) := by decide +kernel
theorem s158_13 {x0 : Nat} {x1 : Int32} {s0 : Nat} {s1 : Int32} {s2 : Int32} : ip_WP 158 13 [some (.ref x0), some (.int x1)] [.int s2, .int s1, .ref s0] (G, F, I, J) b post px ↔ ip_WP 158 15 [some (.ref x0), some (.int x1)] [.int 100, .int s2, .int s1, .ref s0] (G, F, I, J) b post px := ip_s_bipush f158_13 (by decide)
theorem f158_15 : ip_fetch 158 15 = some (.idiv, 1) := by decide +kernel
theorem s158_15 {x0 : Nat} {x1 : Int32} {s0 : Nat} {s1 : Int32} {s2 : Int32} {s3 : Int32} : ip_WP 158 15 [some (.ref x0), some (.int x1)] [.int s3, .int s2, .int s1, .ref s0] (G, F, I, J) b post px ↔ (¬ s3 = 0 ∧ ip_WP 158 16 [some (.ref x0), some (.int x1)] [.int (s2 / s3), .int s1, .ref s0] (G, F, I, J) b post px) := ip_s_div ((ip_st_of f158_15).trans rfl)
theorem f158_16 : ip_fetch 158 16 = some (.iadd, 1) := by decide +kernel
theorem s158_16 {x0 : Nat} {x1 : Int32} {s0 : Nat} {s1 : Int32} {s2 : Int32} : ip_WP 158 16 [some (.ref x0), some (.int x1)] [.int s2, .int s1, .ref s0] (G, F, I, J) b post px ↔ ip_WP 158 17 [some (.ref x0), some (.int x1)] [.int (s1 + s2), .ref s0] (G, F, I, J) b post px := ip_nx_iff ((ip_st_of f158_16).trans rfl)
theorem f158_17 : ip_fetch 158 17 = some (.invokevirtual 160, 3) := by decide +kernel
set_option maxRecDepth 100000 in
theorem s158_17 {x0 : Nat} {x1 : Int32} {s0 : Nat} {s1 : Int32} : ip_WP 158 17 [some (.ref x0), some (.int x1)] [.int s1, .ref s0] (G, F, I, J) b post px ↔ (ip_isO G s0 2 = true ∧ ip_WP 91 0 [some (.ref s0), some (.int s1)] [] (G, F, I, J) (0, 0) (fun r h' => ip_WP 158 20 [some (.ref x0), some (.int x1)] (r.toList ++ []) h' b post px) (fun _ _ => False)) := ip_ck_iff (x := ip_cl 91 [some (.ref s0), some (.int s1)] [] (0, 0) b) ((ip_st_of f158_17).trans rfl) (ip_cl_iff)
theorem f158_20 : ip_fetch 158 20 = some (.iload_n 1, 1) := by decide +kernel
theorem s158_20 {x0 : Nat} {x1 : Int32} : ip_WP 158 20 [some (.ref x0), some (.int x1)] [] (G, F, I, J) b post px ↔ ip_WP 158 21 [some (.ref x0), some (.int x1)] [.int x1] (G, F, I, J) b post px := ip_nx_iff ((ip_st_of f158_20).trans rfl)
theorem f158_21 : ip_fetch 158 21 = some (.bipush 10, 2) := by decide +kernel
theorem s158_21 {x0 : Nat} {x1 : Int32} {s0 : Int32} : ip_WP 158 21 [some (.ref x0), some (.int x1)] [.int s0] (G, F, I, J) b post px ↔ ip_WP 158 23 [some (.ref x0), some (.int x1)] [.int 10, .int s0] (G, F, I, J) b post px := ip_s_bipush f158_21 (by decide)
theorem f158_23 : ip_fetch 158 23 = some (.if_icmp .lt 20, 3) := by decide +kernel
theorem s158_23 {x0 : Nat} {x1 : Int32} {s0 : Int32} {s1 : Int32} : ip_WP 158 23 [some (.ref x0), some (.int x1)] [.int s1, .int s0] (G, F, I, J) b post px ↔ if s0 < s1 then ip_WP 158 43 [some (.ref x0), some (.int x1)] [] (G, F, I, J) b post px else ip_WP 158 26 [some (.ref x0), some (.int x1)] [] (G, F, I, J) b post px := ip_s_ic_lt f158_23 rfl
theorem f158_26 : ip_fetch 158 26 = some (.aload_n 0, 1) := by decide +kernel
theorem s158_26 {x0 : Nat} {x1 : Int32} : ip_WP 158 26 [some (.ref x0), some (.int x1)] [] (G, F, I, J) b post px ↔ ip_WP 158 27 [some (.ref x0), some (.int x1)] [.ref x0] (G, F, I, J) b post px := ip_nx_iff ((ip_st_of f158_26).trans rfl)
theorem f158_27 : ip_fetch 158 27 = some (.getfield 15, 3) := by decide +kernel
set_option maxRecDepth 100000 in
theorem s158_27 {x0 : Nat} {x1 : Int32} {s0 : Nat} : ip_WP 158 27 [some (.ref x0), some (.int x1)] [.ref s0] (G, F, I, J) b post px ↔ (ip_isO G s0 7 = true ∧ ip_WP 158 30 [some (.ref x0), some (.int x1)] [F s0 1] (G, F, I, J) b post px) := ip_s_getf f158_27 (by decide +kernel)
theorem f158_30 : ip_fetch 158 30 = some (.bipush 48, 2) := by decide +kernel
theorem s158_30 {x0 : Nat} {x1 : Int32} {s0 : Nat} : ip_WP 158 30 [some (.ref x0), some (.int x1)] [.ref s0] (G, F, I, J) b post px ↔ ip_WP 158 32 [some (.ref x0), some (.int x1)] [.int 48, .ref s0] (G, F, I, J) b post px := ip_s_bipush f158_30 (by decide)
theorem f158_32 : ip_fetch 158 32 = some (.iload_n 1, 1) := by decide +kernel
theorem s158_32 {x0 : Nat} {x1 : Int32} {s0 : Nat} {s1 : Int32} : ip_WP 158 32 [some (.ref x0), some (.int x1)] [.int s1, .ref s0] (G, F, I, J) b post px ↔ ip_WP 158 33 [some (.ref x0), some (.int x1)] [.int x1, .int s1, .ref s0] (G, F, I, J) b post px := ip_nx_iff ((ip_st_of f158_32).trans rfl)
theorem f158_33 : ip_fetch 158 33 = some (.bipush 10, 2) := by decide +kernel
theorem s158_33 {x0 : Nat} {x1 : Int32} {s0 : Nat} {s1 : Int32} {s2 : Int32} : ip_WP 158 33 [some (.ref x0), some (.int x1)] [.int s2, .int s1, .ref s0] (G, F, I, J) b post px ↔ ip_WP 158 35 [some (.ref x0), some (.int x1)] [.int 10, .int s2, .int s1, .ref s0] (G, F, I, J) b post px := ip_s_bipush f158_33 (by decide)
theorem f158_35 : ip_fetch 158 35 = some (.idiv, 1) := by decide +kernel
theorem s158_35 {x0 : Nat} {x1 : Int32} {s0 : Nat} {s1 : Int32} {s2 : Int32} {s3 : Int32} : ip_WP 158 35 [some (.ref x0), some (.int x1)] [.int s3, .int s2, .int s1, .ref s0] (G, F, I, J) b post px ↔ (¬ s3 = 0 ∧ ip_WP 158 36 [some (.ref x0), some (.int x1)] [.int (s2 / s3), .int s1, .ref s0] (G, F, I, J) b post px) := ip_s_div ((ip_st_of f158_35).trans rfl)
theorem f158_36 : ip_fetch 158 36 = some (.bipush 10, 2) := by decide +kernel
theorem s158_36 {x0 : Nat} {x1 : Int32} {s0 : Nat} {s1 : Int32} {s2 : Int32} : ip_WP 158 36 [some (.ref x0), some (.int x1)] [.int s2, .int s1, .ref s0] (G, F, I, J) b post px ↔ ip_WP 158 38 [some (.ref x0), some (.int x1)] [.int 10, .int s2, .int s1, .ref s0] (G, F, I, J) b post px := ip_s_bipush f158_36 (by decide)
theorem f158_38 : ip_fetch 158 38 = some (.irem, 1) := by decide +kernel
theorem s158_38 {x0 : Nat} {x1 : Int32} {s0 : Nat} {s1 : Int32} {s2 : Int32} {s3 : Int32} : ip_WP 158 38 [some (.ref x0), some (.int x1)] [.int s3, .int s2, .int s1, .ref s0] (G, F, I, J) b post px ↔ (¬ s3 = 0 ∧ ip_WP 158 39 [some (.ref x0), some (.int x1)] [.int (s2 - s2 / s3 * s3), .int s1, .ref s0] (G, F, I, J) b post px) := ip_s_div ((ip_st_of f158_38).trans rfl)
theorem f158_39 : ip_fetch 158 39 = some (.iadd, 1) := by decide +kernel
theorem s158_39 {x0 : Nat} {x1 : Int32} {s0 : Nat} {s1 : Int32} {s2 : Int32} : ip_WP 158 39 [some (.ref x0), some (.int x1)] [.int s2, .int s1, .ref s0] (G, F, I, J) b post px ↔ ip_WP 158 40 [some (.ref x0), some (.int x1)] [.int (s1 + s2), .ref s0] (G, F, I, J) b post px := ip_nx_iff ((ip_st_of f158_39).trans rfl)
theorem f158_40 : ip_fetch 158 40 = some (.invokevirtual 160, 3) := by decide +kernel
set_option maxRecDepth 100000 in
theorem s158_40 {x0 : Nat} {x1 : Int32} {s0 : Nat} {s1 : Int32} : ip_WP 158 40 [some (.ref x0), some (.int x1)] [.int s1, .ref s0] (G, F, I, J) b post px ↔ (ip_isO G s0 2 = true ∧ ip_WP 91 0 [some (.ref s0), some (.int s1)] [] (G, F, I, J) (0, 0) (fun r h' => ip_WP 158 43 [some (.ref x0), some (.int x1)] (r.toList ++ []) h' b post px) (fun _ _ => False)) := ip_ck_iff (x := ip_cl 91 [some (.ref s0), some (.int s1)] [] (0, 0) b) ((ip_st_of f158_40).trans rfl) (ip_cl_iff)
theorem f158_43 : ip_fetch 158 43 = some (.aload_n 0, 1) := by decide +kernel
theorem s158_43 {x0 : Nat} {x1 : Int32} : ip_WP 158 43 [some (.ref x0), some (.int x1)] [] (G, F, I, J) b post px ↔ ip_WP 158 44 [some (.ref x0), some (.int x1)] [.ref x0] (G, F, I, J) b post px := ip_nx_iff ((ip_st_of f158_43).trans rfl)
theorem f158_44 : ip_fetch 158 44 = some (.getfield 15, 3) := by decide +kernel
set_option maxRecDepth 100000 in
theorem s158_44 {x0 : Nat} {x1 : Int32} {s0 : Nat} : ip_WP 158 44 [some (.ref x0), some (.int x1)] [.ref s0] (G, F, I, J) b post px ↔ (ip_isO G s0 7 = true ∧ ip_WP 158 47 [some (.ref x0), some (.int x1)] [F s0 1] (G, F, I, J) b post px) := ip_s_getf f158_44 (by decide +kernel)
theorem f158_47 : ip_fetch 158 47 = some (.bipush 48, 2) := by decide +kernel
theorem s158_47 {x0 : Nat} {x1 : Int32} {s0 : Nat} : ip_WP 158 47 [some (.ref x0), some (.int x1)] [.ref s0] (G, F, I, J) b post px ↔ ip_WP 158 49 [some (.ref x0), some (.int x1)] [.int 48, .ref s0] (G, F, I, J) b post px := ip_s_bipush f158_47 (by decide)
theorem f158_49 : ip_fetch 158 49 = some (.iload_n 1, 1) := by decide +kernel
theorem s158_49 {x0 : Nat} {x1 : Int32} {s0 : Nat} {s1 : Int32} : ip_WP 158 49 [some (.ref x0), some (.int x1)] [.int s1, .ref s0] (G, F, I, J) b post px ↔ ip_WP 158 50 [some (.ref x0), some (.int x1)] [.int x1, .int s1, .ref s0] (G, F, I, J) b post px := ip_nx_iff ((ip_st_of f158_49).trans rfl)
theorem f158_50 : ip_fetch 158 50 = some (.bipush 10, 2) := by decide +kernel
theorem s158_50 {x0 : Nat} {x1 : Int32} {s0 : Nat} {s1 : Int32} {s2 : Int32} : ip_WP 158 50 [some (.ref x0), some (.int x1)] [.int s2, .int s1, .ref s0] (G, F, I, J) b post px ↔ ip_WP 158 52 [some (.ref x0), some (.int x1)] [.int 10, .int s2, .int s1, .ref s0] (G, F, I, J) b post px := ip_s_bipush f158_50 (by decide)
theorem f158_52 : ip_fetch 158 52 = some (.irem, 1) := by decide +kernel
theorem s158_52 {x0 : Nat} {x1 : Int32} {s0 : Nat} {s1 : Int32} {s2 : Int32} {s3 : Int32} : ip_WP 158 52 [some (.ref x0), some (.int x1)] [.int s3, .int s2, .int s1, .ref s0] (G, F, I, J) b post px ↔ (¬ s3 = 0 ∧ ip_WP 158 53 [some (.ref x0), some (.int x1)] [.int (s2 - s2 / s3 * s3), .int s1, .ref s0] (G, F, I, J) b post px) := ip_s_div ((ip_st_of f158_52).trans rfl)
theorem f158_53 : ip_fetch 158 53 = some (.iadd, 1) := by decide +kernel
theorem s158_53 {x0 : Nat} {x1 : Int32} {s0 : Nat} {s1 : Int32} {s2 : Int32} : ip_WP 158 53 [some (.ref x0), some (.int x1)] [.int s2, .int s1, .ref s0] (G, F, I, J) b post px ↔ ip_WP 158 54 [some (.ref x0), some (.int x1)] [.int (s1 + s2), .ref s0] (G, F, I, J) b post px := ip_nx_iff ((ip_st_of f158_53).trans rfl)
theorem f158_54 : ip_fetch 158 54 = some (.invokevirtual 160, 3) := by decide +kernel
set_option maxRecDepth 100000 in
theorem s158_54 {x0 : Nat} {x1 : Int32} {s0 : Nat} {s1 : Int32} : ip_WP 158 54 [some (.ref x0), some (.int x1)] [.int s1, .ref s0] (G, F, I, J) b post px ↔ (ip_isO G s0 2 = true ∧ ip_WP 91 0 [some (.ref s0), some (.int s1)] [] (G, F, I, J) (0, 0) (fun r h' => ip_WP 158 57 [some (.ref x0), some (.int x1)] (r.toList ++ []) h' b post px) (fun _ _ => False)) := ip_ck_iff (x := ip_cl 91 [some (.ref s0), some (.int s1)] [] (0, 0) b) ((ip_st_of f158_54).trans rfl) (ip_cl_iff)
theorem f158_57 : ip_fetch 158 57 = some (.return_, 1) := by decide +kernel
theorem s158_57 {x0 : Nat} {x1 : Int32} : ip_WP 158 57 [some (.ref x0), some (.int x1)] [] (G, F, I, J) b post px ↔ post none (G, F, I, J) := ip_rt_iff ((ip_st_of f158_57).trans rfl)
theorem f159_0 : ip_fetch 159 0 = some (.aload_n 0, 1) := by decide +kernel
theorem s159_0 {x0 : Nat} : ip_WP 159 0 [some (.ref x0)] [] (G, F, I, J) b post px ↔ ip_WP 159 1 [some (.ref x0)] [.ref x0] (G, F, I, J) b post px := ip_nx_iff ((ip_st_of f159_0).trans rfl)
theorem f159_1 : ip_fetch 159 1 = some (.getfield 15, 3) := by decide +kernel
set_option maxRecDepth 100000 in
theorem s159_1 {x0 : Nat} {s0 : Nat} : ip_WP 159 1 [some (.ref x0)] [.ref s0] (G, F, I, J) b post px ↔ (ip_isO G s0 7 = true ∧ ip_WP 159 4 [some (.ref x0)] [F s0 1] (G, F, I, J) b post px) := ip_s_getf f159_1 (by decide +kernel)
theorem f159_4 : ip_fetch 159 4 = some (.ldc 165, 2) := by decide +kernel
set_option maxRecDepth 100000 in
theorem s159_4 {x0 : Nat} {s0 : Nat} : ip_WP 159 4 [some (.ref x0)] [.ref s0] (G, F, I, J) b post px ↔ ip_WP 159 6 [some (.ref x0)] [.ref 1000021, .ref s0] (G, F, I, J) b post px := ip_nx_iff ((ip_st_of f159_4).trans rfl)
theorem f159_6 : ip_fetch 159 6 = some (.invokevirtual 71, 3) := by decide +kernel
set_option maxRecDepth 100000 in
theorem s159_6 {x0 : Nat} {s0 : Nat} {s1 : Nat} : ip_WP 159 6 [some (.ref x0)] [.ref s1, .ref s0] (G, F, I, J) b post px ↔ (ip_isO G s0 2 = true ∧ ip_WP 93 0 [some (.ref s0), some (.ref s1), none] [] (G, F, I, J) (0, 0) (fun r h' => ip_WP 159 9 [some (.ref x0)] (r.toList ++ []) h' b post px) (fun _ _ => False)) := ip_ck_iff (x := ip_cl 93 [some (.ref s0), some (.ref s1), none] [] (0, 0) b) ((ip_st_of f159_6).trans rfl) (ip_cl_iff)
theorem f159_9 : ip_fetch 159 9 = some (.return_, 1) := by decide +kernel
theorem s159_9 {x0 : Nat} : ip_WP 159 9 [some (.ref x0)] [] (G, F, I, J) b post px ↔ post none (G, F, I, J) := ip_rt_iff ((ip_st_of f159_9).trans rfl)
theorem f160_0 : ip_fetch 160 0 = some (.aload_n 0, 1) := by decide +kernel
theorem s160_0 {x0 : Nat} {x1 : Nat} {x2 : Nat} : ip_WP 160 0 [some (.ref x0), some (.ref x1), some (.ref x2)] [] (G, F, I, J) b post px ↔ ip_WP 160 1 [some (.ref x0), some (.ref x1), some (.ref x2)] [.ref x0] (G, F, I, J) b post px := ip_nx_iff ((ip_st_of f160_0).trans rfl)
theorem f160_1 : ip_fetch 160 1 = some (.invokespecial 3, 3) := by decide +kernel
set_option maxRecDepth 100000 in
theorem s160_1 {x0 : Nat} {x1 : Nat} {x2 : Nat} {s0 : Nat} : ip_WP 160 1 [some (.ref x0), some (.ref x1), some (.ref x2)] [.ref s0] (G, F, I, J) b post px ↔ ip_WP 160 4 [some (.ref x0), some (.ref x1), some (.ref x2)] [] (G, F, I, J) b post px := ip_s_obj f160_1 rfl (Nat.le_of_ble_eq_true rfl)
theorem f160_4 : ip_fetch 160 4 = some (.aload_n 0, 1) := by decide +kernel
theorem s160_4 {x0 : Nat} {x1 : Nat} {x2 : Nat} : ip_WP 160 4 [some (.ref x0), some (.ref x1), some (.ref x2)] [] (G, F, I, J) b post px ↔ ip_WP 160 5 [some (.ref x0), some (.ref x1), some (.ref x2)] [.ref x0] (G, F, I, J) b post px := ip_nx_iff ((ip_st_of f160_4).trans rfl)
theorem f160_5 : ip_fetch 160 5 = some (.aload_n 1, 1) := by decide +kernel
theorem s160_5 {x0 : Nat} {x1 : Nat} {x2 : Nat} {s0 : Nat} : ip_WP 160 5 [some (.ref x0), some (.ref x1), some (.ref x2)] [.ref s0] (G, F, I, J) b post px ↔ ip_WP 160 6 [some (.ref x0), some (.ref x1), some (.ref x2)] [.ref x1, .ref s0] (G, F, I, J) b post px := ip_nx_iff ((ip_st_of f160_5).trans rfl)
theorem f160_6 : ip_fetch 160 6 = some (.putfield 9, 3) := by decide +kernel
set_option maxRecDepth 100000 in
theorem s160_6 {x0 : Nat} {x1 : Nat} {x2 : Nat} {s0 : Nat} {s1 : Nat} : ip_WP 160 6 [some (.ref x0), some (.ref x1), some (.ref x2)] [.ref s1, .ref s0] (G, F, I, J) b post px ↔ (ip_isO G s0 8 = true ∧ s1 < G.length ∧ ip_WP 160 9 [some (.ref x0), some (.ref x1), some (.ref x2)] [] (G, ip_up F s0 0 (.ref s1), I, J) b post px) := ip_s_putR f160_6 (by decide +kernel) rfl
theorem f160_9 : ip_fetch 160 9 = some (.aload_n 0, 1) := by decide +kernel
theorem s160_9 {x0 : Nat} {x1 : Nat} {x2 : Nat} : ip_WP 160 9 [some (.ref x0), some (.ref x1), some (.ref x2)] [] (G, F, I, J) b post px ↔ ip_WP 160 10 [some (.ref x0), some (.ref x1), some (.ref x2)] [.ref x0] (G, F, I, J) b post px := ip_nx_iff ((ip_st_of f160_9).trans rfl)
theorem f160_10 : ip_fetch 160 10 = some (.aload_n 2, 1) := by decide +kernel
theorem s160_10 {x0 : Nat} {x1 : Nat} {x2 : Nat} {s0 : Nat} : ip_WP 160 10 [some (.ref x0), some (.ref x1), some (.ref x2)] [.ref s0] (G, F, I, J) b post px ↔ ip_WP 160 11 [some (.ref x0), some (.ref x1), some (.ref x2)] [.ref x2, .ref s0] (G, F, I, J) b post px := ip_nx_iff ((ip_st_of f160_10).trans rfl)
theorem f160_11 : ip_fetch 160 11 = some (.putfield 15, 3) := by decide +kernel
set_option maxRecDepth 100000 in
theorem s160_11 {x0 : Nat} {x1 : Nat} {x2 : Nat} {s0 : Nat} {s1 : Nat} : ip_WP 160 11 [some (.ref x0), some (.ref x1), some (.ref x2)] [.ref s1, .ref s0] (G, F, I, J) b post px ↔ (ip_isO G s0 8 = true ∧ s1 < G.length ∧ ip_WP 160 14 [some (.ref x0), some (.ref x1), some (.ref x2)] [] (G, ip_up F s0 1 (.ref s1), I, J) b post px) := ip_s_putR f160_11 (by decide +kernel) rfl
theorem f160_14 : ip_fetch 160 14 = some (.aload_n 0, 1) := by decide +kernel
theorem s160_14 {x0 : Nat} {x1 : Nat} {x2 : Nat} : ip_WP 160 14 [some (.ref x0), some (.ref x1), some (.ref x2)] [] (G, F, I, J) b post px ↔ ip_WP 160 15 [some (.ref x0), some (.ref x1), some (.ref x2)] [.ref x0] (G, F, I, J) b post px := ip_nx_iff ((ip_st_of f160_14).trans rfl)
theorem f160_15 : ip_fetch 160 15 = some (.new 19, 3) := by decide +kernel
set_option maxRecDepth 100000 in
theorem s160_15 {x0 : Nat} {x1 : Nat} {x2 : Nat} {s0 : Nat} : ip_WP 160 15 [some (.ref x0), some (.ref x1), some (.ref x2)] [.ref s0] (G, F, I, J) b post px ↔ (ip_wfc G.length [some (.ref x0), some (.ref x1), some (.ref x2)] [.ref s0] = true ∧ (1 ≤ b.1 ∧ 7 ≤ b.2 ∧ G.length < ip_SC) ∧ ip_WP 160 18 [some (.ref x0), some (.ref x1), some (.ref x2)] [.ref G.length, .ref s0] (G ++ [.inr (5, 7)], fun a j => if a = G.length then ip_dfl (ip_fty 5 j) else F a j, I, J) (b.1 - 1, b.2 - 7) post px) := ip_s_new f160_15 rfl rfl rfl rfl
theorem f160_18 : ip_fetch 160 18 = some (.dup, 1) := by decide +kernel
theorem s160_18 {x0 : Nat} {x1 : Nat} {x2 : Nat} {s0 : Nat} {s1 : Nat} : ip_WP 160 18 [some (.ref x0), some (.ref x1), some (.ref x2)] [.ref s1, .ref s0] (G, F, I, J) b post px ↔ ip_WP 160 19 [some (.ref x0), some (.ref x1), some (.ref x2)] [.ref s1, .ref s1, .ref s0] (G, F, I, J) b post px := ip_nx_iff ((ip_st_of f160_18).trans rfl)
theorem f160_19 : ip_fetch 160 19 = some (.aload_n 1, 1) := by decide +kernel
theorem s160_19 {x0 : Nat} {x1 : Nat} {x2 : Nat} {s0 : Nat} {s1 : Nat} {s2 : Nat} : ip_WP 160 19 [some (.ref x0), some (.ref x1), some (.ref x2)] [.ref s2, .ref s1, .ref s0] (G, F, I, J) b post px ↔ ip_WP 160 20 [some (.ref x0), some (.ref x1), some (.ref x2)] [.ref x1, .ref s2, .ref s1, .ref s0] (G, F, I, J) b post px := ip_nx_iff ((ip_st_of f160_19).trans rfl)
theorem f160_20 : ip_fetch 160 20 = some (.invokespecial 21, 3) := by decide +kernel
set_option maxRecDepth 100000 in
theorem s160_20 {x0 : Nat} {x1 : Nat} {x2 : Nat} {s0 : Nat} {s1 : Nat} {s2 : Nat} {s3 : Nat} : ip_WP 160 20 [some (.ref x0), some (.ref x1), some (.ref x2)] [.ref s3, .ref s2, .ref s1, .ref s0] (G, F, I, J) b post px ↔ (ip_wfc G.length [some (.ref x0), some (.ref x1), some (.ref x2)] [.ref s1, .ref s0] = true ∧ (ip_bud 125 b = true ∧ ip_WP 125 0 [some (.ref s2), some (.ref s3)] [] (G, F, I, J) (2, 18) (fun r h' => ip_WP 160 23 [some (.ref x0), some (.ref x1), some (.ref x2)] (r.toList ++ [.ref s1, .ref s0]) h' (ip_rst 125 b) post px) (fun _ _ => False))) := ip_ck_iff (x := if ip_bud 125 b = true then ip_cl 125 [some (.ref s2), some (.ref s3)] [.ref s1, .ref s0] (2, 18) (ip_rst 125 b) else none) ((ip_st_of f160_20).trans rfl) (fun hs => ip_ck_iff (x := ip_cl 125 [some (.ref s2), some (.ref s3)] [.ref s1, .ref s0] (2, 18) (ip_rst 125 b)) hs (ip_cl_iff))
theorem f160_23 : ip_fetch 160 23 = some (.putfield 24, 3) := by decide +kernel
set_option maxRecDepth 100000 in
theorem s160_23 {x0 : Nat} {x1 : Nat} {x2 : Nat} {s0 : Nat} {s1 : Nat} : ip_WP 160 23 [some (.ref x0), some (.ref x1), some (.ref x2)] [.ref s1, .ref s0] (G, F, I, J) b post px ↔ (ip_isO G s0 8 = true ∧ s1 < G.length ∧ ip_WP 160 26 [some (.ref x0), some (.ref x1), some (.ref x2)] [] (G, ip_up F s0 2 (.ref s1), I, J) b post px) := ip_s_putR f160_23 (by decide +kernel) rfl
theorem f160_26 : ip_fetch 160 26 = some (.aload_n 0, 1) := by decide +kernel
theorem s160_26 {x0 : Nat} {x1 : Nat} {x2 : Nat} : ip_WP 160 26 [some (.ref x0), some (.ref x1), some (.ref x2)] [] (G, F, I, J) b post px ↔ ip_WP 160 27 [some (.ref x0), some (.ref x1), some (.ref x2)] [.ref x0] (G, F, I, J) b post px := ip_nx_iff ((ip_st_of f160_26).trans rfl)
theorem f160_27 : ip_fetch 160 27 = some (.invokevirtual 28, 3) := by decide +kernel
set_option maxRecDepth 100000 in
theorem s160_27 {x0 : Nat} {x1 : Nat} {x2 : Nat} {s0 : Nat} : ip_WP 160 27 [some (.ref x0), some (.ref x1), some (.ref x2)] [.ref s0] (G, F, I, J) b post px ↔ (ip_isO G s0 8 = true ∧ ip_WP 164 0 [some (.ref s0)] [] (G, F, I, J) (0, 0) (fun r h' => ip_WP 160 30 [some (.ref x0), some (.ref x1), some (.ref x2)] (r.toList ++ []) h' b post px) (fun _ _ => False)) := ip_ck_iff (x := ip_cl 164 [some (.ref s0)] [] (0, 0) b) ((ip_st_of f160_27).trans rfl) (ip_cl_iff)
theorem f160_30 : ip_fetch 160 30 = some (.return_, 1) := by decide +kernel
theorem s160_30 {x0 : Nat} {x1 : Nat} {x2 : Nat} : ip_WP 160 30 [some (.ref x0), some (.ref x1), some (.ref x2)] [] (G, F, I, J) b post px ↔ post none (G, F, I, J) := ip_rt_iff ((ip_st_of f160_30).trans rfl)
theorem f161_0 : ip_fetch 161 0 = some (.aload_n 0, 1) := by decide +kernel
theorem s161_0 {x0 : Nat} : ip_WP 161 0 [some (.ref x0)] [] (G, F, I, J) b post px ↔ ip_WP 161 1 [some (.ref x0)] [.ref x0] (G, F, I, J) b post px := ip_nx_iff ((ip_st_of f161_0).trans rfl)
theorem f161_1 : ip_fetch 161 1 = some (.getfield 31, 3) := by decide +kernel
set_option maxRecDepth 100000 in
theorem s161_1 {x0 : Nat} {s0 : Nat} : ip_WP 161 1 [some (.ref x0)] [.ref s0] (G, F, I, J) b post px ↔ (ip_isO G s0 8 = true ∧ ip_WP 161 4 [some (.ref x0)] [F s0 3] (G, F, I, J) b post px) := ip_s_getf f161_1 (by decide +kernel)
theorem f161_4 : ip_fetch 161 4 = some (.ireturn, 1) := by decide +kernel
theorem s161_4 {x0 : Nat} {s0 : Int32} : ip_WP 161 4 [some (.ref x0)] [.int s0] (G, F, I, J) b post px ↔ post (some (.int s0)) (G, F, I, J) := ip_rt_iff ((ip_st_of f161_4).trans rfl)
theorem f162_0 : ip_fetch 162 0 = some (.aload_n 0, 1) := by decide +kernel
theorem s162_0 {x0 : Nat} : ip_WP 162 0 [some (.ref x0)] [] (G, F, I, J) b post px ↔ ip_WP 162 1 [some (.ref x0)] [.ref x0] (G, F, I, J) b post px := ip_nx_iff ((ip_st_of f162_0).trans rfl)
theorem f162_1 : ip_fetch 162 1 = some (.getfield 35, 3) := by decide +kernel
set_option maxRecDepth 100000 in
theorem s162_1 {x0 : Nat} {s0 : Nat} : ip_WP 162 1 [some (.ref x0)] [.ref s0] (G, F, I, J) b post px ↔ (ip_isO G s0 8 = true ∧ ip_WP 162 4 [some (.ref x0)] [F s0 4] (G, F, I, J) b post px) := ip_s_getf f162_1 (by decide +kernel)
theorem f162_4 : ip_fetch 162 4 = some (.ireturn, 1) := by decide +kernel
theorem s162_4 {x0 : Nat} {s0 : Int32} : ip_WP 162 4 [some (.ref x0)] [.int s0] (G, F, I, J) b post px ↔ post (some (.int s0)) (G, F, I, J) := ip_rt_iff ((ip_st_of f162_4).trans rfl)
theorem f163_0 : ip_fetch 163 0 = some (.aload_n 0, 1) := by decide +kernel
theorem s163_0 {x0 : Nat} {x1 : Option Value} {x2 : Option Value} : ip_WP 163 0 [some (.ref x0), x1, x2] [] (G, F, I, J) b post px ↔ ip_WP 163 1 [some (.ref x0), x1, x2] [.ref x0] (G, F, I, J) b post px := ip_nx_iff ((ip_st_of f163_0).trans rfl)
theorem f163_1 : ip_fetch 163 1 = some (.getfield 15, 3) := by decide +kernel
set_option maxRecDepth 100000 in
theorem s163_1 {x0 : Nat} {x1 : Option Value} {x2 : Option Value} {s0 : Nat} : ip_WP 163 1 [some (.ref x0), x1, x2] [.ref s0] (G, F, I, J) b post px ↔ (ip_isO G s0 8 = true ∧ ip_WP 163 4 [some (.ref x0), x1, x2] [F s0 1] (G, F, I, J) b post px) := ip_s_getf f163_1 (by decide +kernel)
theorem f163_4 : ip_fetch 163 4 = some (.invokevirtual 38, 3) := by decide +kernel
set_option maxRecDepth 100000 in
theorem s163_4 {x0 : Nat} {x1 : Option Value} {x2 : Option Value} {s0 : Nat} : ip_WP 163 4 [some (.ref x0), x1, x2] [.ref s0] (G, F, I, J) b post px ↔ (ip_isO G s0 3 = true ∧ ip_WP 103 0 [some (.ref s0)] [] (G, F, I, J) (0, 0) (fun r h' => ip_WP 163 7 [some (.ref x0), x1, x2] (r.toList ++ []) h' b post px) (fun _ _ => False)) := ip_ck_iff (x := ip_cl 103 [some (.ref s0)] [] (0, 0) b) ((ip_st_of f163_4).trans rfl) (ip_cl_iff)
theorem f163_7 : ip_fetch 163 7 = some (.aload_n 0, 1) := by decide +kernel
theorem s163_7 {x0 : Nat} {x1 : Option Value} {x2 : Option Value} : ip_WP 163 7 [some (.ref x0), x1, x2] [] (G, F, I, J) b post px ↔ ip_WP 163 8 [some (.ref x0), x1, x2] [.ref x0] (G, F, I, J) b post px := ip_nx_iff ((ip_st_of f163_7).trans rfl)
theorem f163_8 : ip_fetch 163 8 = some (.invokevirtual 28, 3) := by decide +kernel
set_option maxRecDepth 100000 in
theorem s163_8 {x0 : Nat} {x1 : Option Value} {x2 : Option Value} {s0 : Nat} : ip_WP 163 8 [some (.ref x0), x1, x2] [.ref s0] (G, F, I, J) b post px ↔ (ip_isO G s0 8 = true ∧ ip_WP 164 0 [some (.ref s0)] [] (G, F, I, J) (0, 0) (fun r h' => ip_WP 163 11 [some (.ref x0), x1, x2] (r.toList ++ []) h' b post px) (fun _ _ => False)) := ip_ck_iff (x := ip_cl 164 [some (.ref s0)] [] (0, 0) b) ((ip_st_of f163_8).trans rfl) (ip_cl_iff)
theorem f163_11 : ip_fetch 163 11 = some (.iconst 0, 1) := by decide +kernel
theorem s163_11 {x0 : Nat} {x1 : Option Value} {x2 : Option Value} : ip_WP 163 11 [some (.ref x0), x1, x2] [] (G, F, I, J) b post px ↔ ip_WP 163 12 [some (.ref x0), x1, x2] [.int 0] (G, F, I, J) b post px := ip_s_iconst f163_11 (by decide)
theorem f163_12 : ip_fetch 163 12 = some (.istore_n 1, 1) := by decide +kernel
theorem s163_12 {x0 : Nat} {x1 : Option Value} {x2 : Option Value} {s0 : Int32} : ip_WP 163 12 [some (.ref x0), x1, x2] [.int s0] (G, F, I, J) b post px ↔ ip_WP 163 13 [some (.ref x0), some (.int s0), x2] [] (G, F, I, J) b post px := ip_nx_iff ((ip_st_of f163_12).trans rfl)
theorem f163_13 : ip_fetch 163 13 = some (.iload_n 1, 1) := by decide +kernel
theorem s163_13 {x0 : Nat} {x1 : Int32} {x2 : Option Value} : ip_WP 163 13 [some (.ref x0), some (.int x1), x2] [] (G, F, I, J) b post px ↔ ip_WP 163 14 [some (.ref x0), some (.int x1), x2] [.int x1] (G, F, I, J) b post px := ip_nx_iff ((ip_st_of f163_13).trans rfl)
theorem f163_14 : ip_fetch 163 14 = some (.aload_n 0, 1) := by decide +kernel
theorem s163_14 {x0 : Nat} {x1 : Int32} {x2 : Option Value} {s0 : Int32} : ip_WP 163 14 [some (.ref x0), some (.int x1), x2] [.int s0] (G, F, I, J) b post px ↔ ip_WP 163 15 [some (.ref x0), some (.int x1), x2] [.ref x0, .int s0] (G, F, I, J) b post px := ip_nx_iff ((ip_st_of f163_14).trans rfl)
theorem f163_15 : ip_fetch 163 15 = some (.getfield 9, 3) := by decide +kernel
set_option maxRecDepth 100000 in
theorem s163_15 {x0 : Nat} {x1 : Int32} {x2 : Option Value} {s0 : Int32} {s1 : Nat} : ip_WP 163 15 [some (.ref x0), some (.int x1), x2] [.ref s1, .int s0] (G, F, I, J) b post px ↔ (ip_isO G s1 8 = true ∧ ip_WP 163 18 [some (.ref x0), some (.int x1), x2] [F s1 0, .int s0] (G, F, I, J) b post px) := ip_s_getf f163_15 (by decide +kernel)
theorem f163_18 : ip_fetch 163 18 = some (.invokevirtual 43, 3) := by decide +kernel
set_option maxRecDepth 100000 in
theorem s163_18 {x0 : Nat} {x1 : Int32} {x2 : Option Value} {s0 : Int32} {s1 : Nat} : ip_WP 163 18 [some (.ref x0), some (.int x1), x2] [.ref s1, .int s0] (G, F, I, J) b post px ↔ (ip_isO G s1 2 = true ∧ ip_WP 88 0 [some (.ref s1)] [] (G, F, I, J) (0, 0) (fun r h' => ip_WP 163 21 [some (.ref x0), some (.int x1), x2] (r.toList ++ [.int s0]) h' b post px) (fun _ _ => False)) := ip_ck_iff (x := ip_cl 88 [some (.ref s1)] [.int s0] (0, 0) b) ((ip_st_of f163_18).trans rfl) (ip_cl_iff)
theorem f163_21 : ip_fetch 163 21 = some (.if_icmp .gt 69, 3) := by decide +kernel
theorem s163_21 {x0 : Nat} {x1 : Int32} {x2 : Option Value} {s0 : Int32} {s1 : Int32} : ip_WP 163 21 [some (.ref x0), some (.int x1), x2] [.int s1, .int s0] (G, F, I, J) b post px ↔ if s1 < s0 then ip_WP 163 90 [some (.ref x0), some (.int x1), x2] [] (G, F, I, J) b post px else ip_WP 163 24 [some (.ref x0), some (.int x1), x2] [] (G, F, I, J) b post px := ip_s_ic_gt f163_21 rfl
theorem f163_24 : ip_fetch 163 24 = some (.aload_n 0, 1) := by decide +kernel
theorem s163_24 {x0 : Nat} {x1 : Int32} {x2 : Option Value} : ip_WP 163 24 [some (.ref x0), some (.int x1), x2] [] (G, F, I, J) b post px ↔ ip_WP 163 25 [some (.ref x0), some (.int x1), x2] [.ref x0] (G, F, I, J) b post px := ip_nx_iff ((ip_st_of f163_24).trans rfl)
theorem f163_25 : ip_fetch 163 25 = some (.getfield 24, 3) := by decide +kernel
set_option maxRecDepth 100000 in
theorem s163_25 {x0 : Nat} {x1 : Int32} {x2 : Option Value} {s0 : Nat} : ip_WP 163 25 [some (.ref x0), some (.int x1), x2] [.ref s0] (G, F, I, J) b post px ↔ (ip_isO G s0 8 = true ∧ ip_WP 163 28 [some (.ref x0), some (.int x1), x2] [F s0 2] (G, F, I, J) b post px) := ip_s_getf f163_25 (by decide +kernel)
theorem f163_28 : ip_fetch 163 28 = some (.invokevirtual 49, 3) := by decide +kernel
set_option maxRecDepth 100000 in
theorem s163_28 {x0 : Nat} {x1 : Int32} {x2 : Option Value} {s0 : Nat} : ip_WP 163 28 [some (.ref x0), some (.int x1), x2] [.ref s0] (G, F, I, J) b post px ↔ (ip_isO G s0 5 = true ∧ ip_WP 131 0 [some (.ref s0), none] [] (G, F, I, J) (0, 0) (fun r h' => ip_WP 163 31 [some (.ref x0), some (.int x1), x2] (r.toList ++ []) h' b post px) (fun _ _ => False)) := ip_ck_iff (x := ip_cl 131 [some (.ref s0), none] [] (0, 0) b) ((ip_st_of f163_28).trans rfl) (ip_cl_iff)
theorem f163_31 : ip_fetch 163 31 = some (.aload_n 0, 1) := by decide +kernel
theorem s163_31 {x0 : Nat} {x1 : Int32} {x2 : Option Value} : ip_WP 163 31 [some (.ref x0), some (.int x1), x2] [] (G, F, I, J) b post px ↔ ip_WP 163 32 [some (.ref x0), some (.int x1), x2] [.ref x0] (G, F, I, J) b post px := ip_nx_iff ((ip_st_of f163_31).trans rfl)
theorem f163_32 : ip_fetch 163 32 = some (.getfield 24, 3) := by decide +kernel
set_option maxRecDepth 100000 in
theorem s163_32 {x0 : Nat} {x1 : Int32} {x2 : Option Value} {s0 : Nat} : ip_WP 163 32 [some (.ref x0), some (.int x1), x2] [.ref s0] (G, F, I, J) b post px ↔ (ip_isO G s0 8 = true ∧ ip_WP 163 35 [some (.ref x0), some (.int x1), x2] [F s0 2] (G, F, I, J) b post px) := ip_s_getf f163_32 (by decide +kernel)
theorem f163_35 : ip_fetch 163 35 = some (.invokevirtual 52, 3) := by decide +kernel
set_option maxRecDepth 100000 in
theorem s163_35 {x0 : Nat} {x1 : Int32} {x2 : Option Value} {s0 : Nat} : ip_WP 163 35 [some (.ref x0), some (.int x1), x2] [.ref s0] (G, F, I, J) b post px ↔ (ip_isO G s0 5 = true ∧ ip_WP 127 0 [some (.ref s0)] [] (G, F, I, J) (0, 0) (fun r h' => ip_WP 163 38 [some (.ref x0), some (.int x1), x2] (r.toList ++ []) h' b post px) (fun _ _ => False)) := ip_ck_iff (x := ip_cl 127 [some (.ref s0)] [] (0, 0) b) ((ip_st_of f163_35).trans rfl) (ip_cl_iff)
theorem f163_38 : ip_fetch 163 38 = some (.iconst 1, 1) := by decide +kernel
theorem s163_38 {x0 : Nat} {x1 : Int32} {x2 : Option Value} {s0 : Int32} : ip_WP 163 38 [some (.ref x0), some (.int x1), x2] [.int s0] (G, F, I, J) b post px ↔ ip_WP 163 39 [some (.ref x0), some (.int x1), x2] [.int 1, .int s0] (G, F, I, J) b post px := ip_s_iconst f163_38 (by decide)
theorem f163_39 : ip_fetch 163 39 = some (.if_icmp .ne 12, 3) := by decide +kernel
theorem s163_39 {x0 : Nat} {x1 : Int32} {x2 : Option Value} {s0 : Int32} {s1 : Int32} : ip_WP 163 39 [some (.ref x0), some (.int x1), x2] [.int s1, .int s0] (G, F, I, J) b post px ↔ if ¬ s0 = s1 then ip_WP 163 51 [some (.ref x0), some (.int x1), x2] [] (G, F, I, J) b post px else ip_WP 163 42 [some (.ref x0), some (.int x1), x2] [] (G, F, I, J) b post px := ip_s_ic_ne f163_39 rfl
theorem f163_42 : ip_fetch 163 42 = some (.aload_n 0, 1) := by decide +kernel
theorem s163_42 {x0 : Nat} {x1 : Int32} {x2 : Option Value} : ip_WP 163 42 [some (.ref x0), some (.int x1), x2] [] (G, F, I, J) b post px ↔ ip_WP 163 43 [some (.ref x0), some (.int x1), x2] [.ref x0] (G, F, I, J) b post px := ip_nx_iff ((ip_st_of f163_42).trans rfl)
theorem f163_43 : ip_fetch 163 43 = some (.getfield 55, 3) := by decide +kernel
set_option maxRecDepth 100000 in
theorem s163_43 {x0 : Nat} {x1 : Int32} {x2 : Option Value} {s0 : Nat} : ip_WP 163 43 [some (.ref x0), some (.int x1), x2] [.ref s0] (G, F, I, J) b post px ↔ (ip_isO G s0 8 = true ∧ ip_WP 163 46 [some (.ref x0), some (.int x1), x2] [F s0 5] (G, F, I, J) b post px) := ip_s_getf f163_43 (by decide +kernel)
theorem f163_46 : ip_fetch 163 46 = some (.iconst (-1), 1) := by decide +kernel
theorem s163_46 {x0 : Nat} {x1 : Int32} {x2 : Option Value} {s0 : Int32} : ip_WP 163 46 [some (.ref x0), some (.int x1), x2] [.int s0] (G, F, I, J) b post px ↔ ip_WP 163 47 [some (.ref x0), some (.int x1), x2] [.int (-1), .int s0] (G, F, I, J) b post px := ip_s_iconst f163_46 (by decide)
theorem f163_47 : ip_fetch 163 47 = some (.if_icmp .ne 4, 3) := by decide +kernel
theorem s163_47 {x0 : Nat} {x1 : Int32} {x2 : Option Value} {s0 : Int32} {s1 : Int32} : ip_WP 163 47 [some (.ref x0), some (.int x1), x2] [.int s1, .int s0] (G, F, I, J) b post px ↔ if ¬ s0 = s1 then ip_WP 163 51 [some (.ref x0), some (.int x1), x2] [] (G, F, I, J) b post px else ip_WP 163 50 [some (.ref x0), some (.int x1), x2] [] (G, F, I, J) b post px := ip_s_ic_ne f163_47 rfl
theorem f163_50 : ip_fetch 163 50 = some (.return_, 1) := by decide +kernel
theorem s163_50 {x0 : Nat} {x1 : Int32} {x2 : Option Value} : ip_WP 163 50 [some (.ref x0), some (.int x1), x2] [] (G, F, I, J) b post px ↔ post none (G, F, I, J) := ip_rt_iff ((ip_st_of f163_50).trans rfl)
theorem f163_51 : ip_fetch 163 51 = some (.aload_n 0, 1) := by decide +kernel
theorem s163_51 {x0 : Nat} {x1 : Int32} {x2 : Option Value} : ip_WP 163 51 [some (.ref x0), some (.int x1), x2] [] (G, F, I, J) b post px ↔ ip_WP 163 52 [some (.ref x0), some (.int x1), x2] [.ref x0] (G, F, I, J) b post px := ip_nx_iff ((ip_st_of f163_51).trans rfl)
theorem f163_52 : ip_fetch 163 52 = some (.invokevirtual 58, 3) := by decide +kernel
set_option maxRecDepth 100000 in
theorem s163_52 {x0 : Nat} {x1 : Int32} {x2 : Option Value} {s0 : Nat} : ip_WP 163 52 [some (.ref x0), some (.int x1), x2] [.ref s0] (G, F, I, J) b post px ↔ (ip_isO G s0 8 = true ∧ ip_WP 165 0 [some (.ref s0), none] [] (G, F, I, J) (0, 0) (fun r h' => ip_WP 163 55 [some (.ref x0), some (.int x1), x2] (r.toList ++ []) h' b post px) (fun _ _ => False)) := ip_ck_iff (x := ip_cl 165 [some (.ref s0), none] [] (0, 0) b) ((ip_st_of f163_52).trans rfl) (ip_cl_iff)
theorem f163_55 : ip_fetch 163 55 = some (.istore_n 2, 1) := by decide +kernel
theorem s163_55 {x0 : Nat} {x1 : Int32} {x2 : Option Value} {s0 : Int32} : ip_WP 163 55 [some (.ref x0), some (.int x1), x2] [.int s0] (G, F, I, J) b post px ↔ ip_WP 163 56 [some (.ref x0), some (.int x1), some (.int s0)] [] (G, F, I, J) b post px := ip_nx_iff ((ip_st_of f163_55).trans rfl)
theorem f163_56 : ip_fetch 163 56 = some (.iload_n 2, 1) := by decide +kernel
theorem s163_56 {x0 : Nat} {x1 : Int32} {x2 : Int32} : ip_WP 163 56 [some (.ref x0), some (.int x1), some (.int x2)] [] (G, F, I, J) b post px ↔ ip_WP 163 57 [some (.ref x0), some (.int x1), some (.int x2)] [.int x2] (G, F, I, J) b post px := ip_nx_iff ((ip_st_of f163_56).trans rfl)
theorem f163_57 : ip_fetch 163 57 = some (.ifCond .eq 27, 3) := by decide +kernel
theorem s163_57 {x0 : Nat} {x1 : Int32} {x2 : Int32} {s0 : Int32} : ip_WP 163 57 [some (.ref x0), some (.int x1), some (.int x2)] [.int s0] (G, F, I, J) b post px ↔ if s0 = 0 then ip_WP 163 84 [some (.ref x0), some (.int x1), some (.int x2)] [] (G, F, I, J) b post px else ip_WP 163 60 [some (.ref x0), some (.int x1), some (.int x2)] [] (G, F, I, J) b post px := ip_s_if_eq f163_57 rfl
theorem f163_60 : ip_fetch 163 60 = some (.aload_n 0, 1) := by decide +kernel
theorem s163_60 {x0 : Nat} {x1 : Int32} {x2 : Int32} : ip_WP 163 60 [some (.ref x0), some (.int x1), some (.int x2)] [] (G, F, I, J) b post px ↔ ip_WP 163 61 [some (.ref x0), some (.int x1), some (.int x2)] [.ref x0] (G, F, I, J) b post px := ip_nx_iff ((ip_st_of f163_60).trans rfl)
theorem f163_61 : ip_fetch 163 61 = some (.iload_n 2, 1) := by decide +kernel
theorem s163_61 {x0 : Nat} {x1 : Int32} {x2 : Int32} {s0 : Nat} : ip_WP 163 61 [some (.ref x0), some (.int x1), some (.int x2)] [.ref s0] (G, F, I, J) b post px ↔ ip_WP 163 62 [some (.ref x0), some (.int x1), some (.int x2)] [.int x2, .ref s0] (G, F, I, J) b post px := ip_nx_iff ((ip_st_of f163_61).trans rfl)
theorem f163_62 : ip_fetch 163 62 = some (.putfield 31, 3) := by decide +kernel
set_option maxRecDepth 100000 in
theorem s163_62 {x0 : Nat} {x1 : Int32} {x2 : Int32} {s0 : Nat} {s1 : Int32} : ip_WP 163 62 [some (.ref x0), some (.int x1), some (.int x2)] [.int s1, .ref s0] (G, F, I, J) b post px ↔ (ip_isO G s0 8 = true ∧ ip_WP 163 65 [some (.ref x0), some (.int x1), some (.int x2)] [] (G, ip_up F s0 3 (.int s1), I, J) b post px) := ip_s_put f163_62 (by decide +kernel) rfl
theorem f163_65 : ip_fetch 163 65 = some (.aload_n 0, 1) := by decide +kernel
theorem s163_65 {x0 : Nat} {x1 : Int32} {x2 : Int32} : ip_WP 163 65 [some (.ref x0), some (.int x1), some (.int x2)] [] (G, F, I, J) b post px ↔ ip_WP 163 66 [some (.ref x0), some (.int x1), some (.int x2)] [.ref x0] (G, F, I, J) b post px := ip_nx_iff ((ip_st_of f163_65).trans rfl)
theorem f163_66 : ip_fetch 163 66 = some (.aload_n 0, 1) := by decide +kernel
theorem s163_66 {x0 : Nat} {x1 : Int32} {x2 : Int32} {s0 : Nat} : ip_WP 163 66 [some (.ref x0), some (.int x1), some (.int x2)] [.ref s0] (G, F, I, J) b post px ↔ ip_WP 163 67 [some (.ref x0), some (.int x1), some (.int x2)] [.ref x0, .ref s0] (G, F, I, J) b post px := ip_nx_iff ((ip_st_of f163_66).trans rfl)
theorem f163_67 : ip_fetch 163 67 = some (.getfield 24, 3) := by decide +kernel
set_option maxRecDepth 100000 in
theorem s163_67 {x0 : Nat} {x1 : Int32} {x2 : Int32} {s0 : Nat} {s1 : Nat} : ip_WP 163 67 [some (.ref x0), some (.int x1), some (.int x2)] [.ref s1, .ref s0] (G, F, I, J) b post px ↔ (ip_isO G s1 8 = true ∧ ip_WP 163 70 [some (.ref x0), some (.int x1), some (.int x2)] [F s1 2, .ref s0] (G, F, I, J) b post px) := ip_s_getf f163_67 (by decide +kernel)
theorem f163_70 : ip_fetch 163 70 = some (.invokevirtual 61, 3) := by decide +kernel
set_option maxRecDepth 100000 in
theorem s163_70 {x0 : Nat} {x1 : Int32} {x2 : Int32} {s0 : Nat} {s1 : Nat} : ip_WP 163 70 [some (.ref x0), some (.int x1), some (.int x2)] [.ref s1, .ref s0] (G, F, I, J) b post px ↔ (ip_isO G s1 5 = true ∧ ip_WP 128 0 [some (.ref s1)] [] (G, F, I, J) (0, 0) (fun r h' => ip_WP 163 73 [some (.ref x0), some (.int x1), some (.int x2)] (r.toList ++ [.ref s0]) h' b post px) (fun _ _ => False)) := ip_ck_iff (x := ip_cl 128 [some (.ref s1)] [.ref s0] (0, 0) b) ((ip_st_of f163_70).trans rfl) (ip_cl_iff)
theorem f163_73 : ip_fetch 163 73 = some (.putfield 35, 3) := by decide +kernel
set_option maxRecDepth 100000 in
theorem s163_73 {x0 : Nat} {x1 : Int32} {x2 : Int32} {s0 : Nat} {s1 : Int32} : ip_WP 163 73 [some (.ref x0), some (.int x1), some (.int x2)] [.int s1, .ref s0] (G, F, I, J) b post px ↔ (ip_isO G s0 8 = true ∧ ip_WP 163 76 [some (.ref x0), some (.int x1), some (.int x2)] [] (G, ip_up F s0 4 (.int s1), I, J) b post px) := ip_s_put f163_73 (by decide +kernel) rfl
theorem f163_76 : ip_fetch 163 76 = some (.aload_n 0, 1) := by decide +kernel
theorem s163_76 {x0 : Nat} {x1 : Int32} {x2 : Int32} : ip_WP 163 76 [some (.ref x0), some (.int x1), some (.int x2)] [] (G, F, I, J) b post px ↔ ip_WP 163 77 [some (.ref x0), some (.int x1), some (.int x2)] [.ref x0] (G, F, I, J) b post px := ip_nx_iff ((ip_st_of f163_76).trans rfl)
theorem f163_77 : ip_fetch 163 77 = some (.getfield 15, 3) := by decide +kernel
set_option maxRecDepth 100000 in
theorem s163_77 {x0 : Nat} {x1 : Int32} {x2 : Int32} {s0 : Nat} : ip_WP 163 77 [some (.ref x0), some (.int x1), some (.int x2)] [.ref s0] (G, F, I, J) b post px ↔ (ip_isO G s0 8 = true ∧ ip_WP 163 80 [some (.ref x0), some (.int x1), some (.int x2)] [F s0 1] (G, F, I, J) b post px) := ip_s_getf f163_77 (by decide +kernel)
theorem f163_80 : ip_fetch 163 80 = some (.invokevirtual 38, 3) := by decide +kernel
set_option maxRecDepth 100000 in
theorem s163_80 {x0 : Nat} {x1 : Int32} {x2 : Int32} {s0 : Nat} : ip_WP 163 80 [some (.ref x0), some (.int x1), some (.int x2)] [.ref s0] (G, F, I, J) b post px ↔ (ip_isO G s0 3 = true ∧ ip_WP 103 0 [some (.ref s0)] [] (G, F, I, J) (0, 0) (fun r h' => ip_WP 163 83 [some (.ref x0), some (.int x1), some (.int x2)] (r.toList ++ []) h' b post px) (fun _ _ => False)) := ip_ck_iff (x := ip_cl 103 [some (.ref s0)] [] (0, 0) b) ((ip_st_of f163_80).trans rfl) (ip_cl_iff)
theorem f163_83 : ip_fetch 163 83 = some (.return_, 1) := by decide +kernel
theorem s163_83 {x0 : Nat} {x1 : Int32} {x2 : Int32} : ip_WP 163 83 [some (.ref x0), some (.int x1), some (.int x2)] [] (G, F, I, J) b post px ↔ post none (G, F, I, J) := ip_rt_iff ((ip_st_of f163_83).trans rfl)
theorem f163_84 : ip_fetch 163 84 = some (.iinc 1 1, 3) := by decide +kernel
theorem s163_84 {x0 : Nat} {x1 : Int32} {x2 : Int32} : ip_WP 163 84 [some (.ref x0), some (.int x1), some (.int x2)] [] (G, F, I, J) b post px ↔ ip_WP 163 87 [some (.ref x0), some (.int (x1 + 1)), some (.int x2)] [] (G, F, I, J) b post px := ip_s_iinc f163_84 rfl (by decide)
theorem f163_87 : ip_fetch 163 87 = some (.goto (-74), 3) := by decide +kernel
theorem s163_87 {x0 : Nat} {x1 : Int32} {x2 : Int32} : ip_WP 163 87 [some (.ref x0), some (.int x1), some (.int x2)] [] (G, F, I, J) b post px ↔ ip_WP 163 13 [some (.ref x0), some (.int x1), some (.int x2)] [] (G, F, I, J) b post px := ip_nx_iff ((ip_st_of f163_87).trans rfl)
theorem f163_90 : ip_fetch 163 90 = some (.return_, 1) := by decide +kernel
theorem s163_90 {x0 : Nat} {x1 : Int32} {x2 : Option Value} : ip_WP 163 90 [some (.ref x0), some (.int x1), x2] [] (G, F, I, J) b post px ↔ post none (G, F, I, J) := ip_rt_iff ((ip_st_of f163_90).trans rfl)
theorem f164_0 : ip_fetch 164 0 = some (.aload_n 0, 1) := by decide +kernel
theorem s164_0 {x0 : Nat} : ip_WP 164 0 [some (.ref x0)] [] (G, F, I, J) b post px ↔ ip_WP 164 1 [some (.ref x0)] [.ref x0] (G, F, I, J) b post px := ip_nx_iff ((ip_st_of f164_0).trans rfl)
theorem f164_1 : ip_fetch 164 1 = some (.getfield 24, 3) := by decide +kernel
set_option maxRecDepth 100000 in
theorem s164_1 {x0 : Nat} {s0 : Nat} : ip_WP 164 1 [some (.ref x0)] [.ref s0] (G, F, I, J) b post px ↔ (ip_isO G s0 8 = true ∧ ip_WP 164 4 [some (.ref x0)] [F s0 2] (G, F, I, J) b post px) := ip_s_getf f164_1 (by decide +kernel)
theorem f164_4 : ip_fetch 164 4 = some (.invokevirtual 64, 3) := by decide +kernel
set_option maxRecDepth 100000 in
theorem s164_4 {x0 : Nat} {s0 : Nat} : ip_WP 164 4 [some (.ref x0)] [.ref s0] (G, F, I, J) b post px ↔ (ip_isO G s0 5 = true ∧ ip_WP 126 0 [some (.ref s0)] [] (G, F, I, J) (0, 0) (fun r h' => ip_WP 164 7 [some (.ref x0)] (r.toList ++ []) h' b post px) (fun _ _ => False)) := ip_ck_iff (x := ip_cl 126 [some (.ref s0)] [] (0, 0) b) ((ip_st_of f164_4).trans rfl) (ip_cl_iff)
theorem f164_7 : ip_fetch 164 7 = some (.aload_n 0, 1) := by decide +kernel
theorem s164_7 {x0 : Nat} : ip_WP 164 7 [some (.ref x0)] [] (G, F, I, J) b post px ↔ ip_WP 164 8 [some (.ref x0)] [.ref x0] (G, F, I, J) b post px := ip_nx_iff ((ip_st_of f164_7).trans rfl)
theorem f164_8 : ip_fetch 164 8 = some (.iconst 0, 1) := by decide +kernel
theorem s164_8 {x0 : Nat} {s0 : Nat} : ip_WP 164 8 [some (.ref x0)] [.ref s0] (G, F, I, J) b post px ↔ ip_WP 164 9 [some (.ref x0)] [.int 0, .ref s0] (G, F, I, J) b post px := ip_s_iconst f164_8 (by decide)
theorem f164_9 : ip_fetch 164 9 = some (.putfield 31, 3) := by decide +kernel
set_option maxRecDepth 100000 in
theorem s164_9 {x0 : Nat} {s0 : Nat} {s1 : Int32} : ip_WP 164 9 [some (.ref x0)] [.int s1, .ref s0] (G, F, I, J) b post px ↔ (ip_isO G s0 8 = true ∧ ip_WP 164 12 [some (.ref x0)] [] (G, ip_up F s0 3 (.int s1), I, J) b post px) := ip_s_put f164_9 (by decide +kernel) rfl
theorem f164_12 : ip_fetch 164 12 = some (.aload_n 0, 1) := by decide +kernel
theorem s164_12 {x0 : Nat} : ip_WP 164 12 [some (.ref x0)] [] (G, F, I, J) b post px ↔ ip_WP 164 13 [some (.ref x0)] [.ref x0] (G, F, I, J) b post px := ip_nx_iff ((ip_st_of f164_12).trans rfl)
theorem f164_13 : ip_fetch 164 13 = some (.iconst 0, 1) := by decide +kernel
theorem s164_13 {x0 : Nat} {s0 : Nat} : ip_WP 164 13 [some (.ref x0)] [.ref s0] (G, F, I, J) b post px ↔ ip_WP 164 14 [some (.ref x0)] [.int 0, .ref s0] (G, F, I, J) b post px := ip_s_iconst f164_13 (by decide)
theorem f164_14 : ip_fetch 164 14 = some (.putfield 35, 3) := by decide +kernel
set_option maxRecDepth 100000 in
theorem s164_14 {x0 : Nat} {s0 : Nat} {s1 : Int32} : ip_WP 164 14 [some (.ref x0)] [.int s1, .ref s0] (G, F, I, J) b post px ↔ (ip_isO G s0 8 = true ∧ ip_WP 164 17 [some (.ref x0)] [] (G, ip_up F s0 4 (.int s1), I, J) b post px) := ip_s_put f164_14 (by decide +kernel) rfl
theorem f164_17 : ip_fetch 164 17 = some (.aload_n 0, 1) := by decide +kernel
theorem s164_17 {x0 : Nat} : ip_WP 164 17 [some (.ref x0)] [] (G, F, I, J) b post px ↔ ip_WP 164 18 [some (.ref x0)] [.ref x0] (G, F, I, J) b post px := ip_nx_iff ((ip_st_of f164_17).trans rfl)
theorem f164_18 : ip_fetch 164 18 = some (.iconst (-1), 1) := by decide +kernel
theorem s164_18 {x0 : Nat} {s0 : Nat} : ip_WP 164 18 [some (.ref x0)] [.ref s0] (G, F, I, J) b post px ↔ ip_WP 164 19 [some (.ref x0)] [.int (-1), .ref s0] (G, F, I, J) b post px := ip_s_iconst f164_18 (by decide)
theorem f164_19 : ip_fetch 164 19 = some (.putfield 55, 3) := by decide +kernel
set_option maxRecDepth 100000 in
theorem s164_19 {x0 : Nat} {s0 : Nat} {s1 : Int32} : ip_WP 164 19 [some (.ref x0)] [.int s1, .ref s0] (G, F, I, J) b post px ↔ (ip_isO G s0 8 = true ∧ ip_WP 164 22 [some (.ref x0)] [] (G, ip_up F s0 5 (.int s1), I, J) b post px) := ip_s_put f164_19 (by decide +kernel) rfl
theorem f164_22 : ip_fetch 164 22 = some (.aload_n 0, 1) := by decide +kernel
theorem s164_22 {x0 : Nat} : ip_WP 164 22 [some (.ref x0)] [] (G, F, I, J) b post px ↔ ip_WP 164 23 [some (.ref x0)] [.ref x0] (G, F, I, J) b post px := ip_nx_iff ((ip_st_of f164_22).trans rfl)
theorem f164_23 : ip_fetch 164 23 = some (.iconst 0, 1) := by decide +kernel
theorem s164_23 {x0 : Nat} {s0 : Nat} : ip_WP 164 23 [some (.ref x0)] [.ref s0] (G, F, I, J) b post px ↔ ip_WP 164 24 [some (.ref x0)] [.int 0, .ref s0] (G, F, I, J) b post px := ip_s_iconst f164_23 (by decide)
theorem f164_24 : ip_fetch 164 24 = some (.putfield 65, 3) := by decide +kernel
set_option maxRecDepth 100000 in
theorem s164_24 {x0 : Nat} {s0 : Nat} {s1 : Int32} : ip_WP 164 24 [some (.ref x0)] [.int s1, .ref s0] (G, F, I, J) b post px ↔ (ip_isO G s0 8 = true ∧ ip_WP 164 27 [some (.ref x0)] [] (G, ip_up F s0 6 (.int s1), I, J) b post px) := ip_s_put f164_24 (by decide +kernel) rfl
theorem f164_27 : ip_fetch 164 27 = some (.aload_n 0, 1) := by decide +kernel
theorem s164_27 {x0 : Nat} : ip_WP 164 27 [some (.ref x0)] [] (G, F, I, J) b post px ↔ ip_WP 164 28 [some (.ref x0)] [.ref x0] (G, F, I, J) b post px := ip_nx_iff ((ip_st_of f164_27).trans rfl)
theorem f164_28 : ip_fetch 164 28 = some (.iconst (-1), 1) := by decide +kernel
theorem s164_28 {x0 : Nat} {s0 : Nat} : ip_WP 164 28 [some (.ref x0)] [.ref s0] (G, F, I, J) b post px ↔ ip_WP 164 29 [some (.ref x0)] [.int (-1), .ref s0] (G, F, I, J) b post px := ip_s_iconst f164_28 (by decide)
theorem f164_29 : ip_fetch 164 29 = some (.putfield 68, 3) := by decide +kernel
set_option maxRecDepth 100000 in
theorem s164_29 {x0 : Nat} {s0 : Nat} {s1 : Int32} : ip_WP 164 29 [some (.ref x0)] [.int s1, .ref s0] (G, F, I, J) b post px ↔ (ip_isO G s0 8 = true ∧ ip_WP 164 32 [some (.ref x0)] [] (G, ip_up F s0 7 (.int s1), I, J) b post px) := ip_s_put f164_29 (by decide +kernel) rfl
theorem f164_32 : ip_fetch 164 32 = some (.aload_n 0, 1) := by decide +kernel
theorem s164_32 {x0 : Nat} : ip_WP 164 32 [some (.ref x0)] [] (G, F, I, J) b post px ↔ ip_WP 164 33 [some (.ref x0)] [.ref x0] (G, F, I, J) b post px := ip_nx_iff ((ip_st_of f164_32).trans rfl)
theorem f164_33 : ip_fetch 164 33 = some (.iconst (-1), 1) := by decide +kernel
theorem s164_33 {x0 : Nat} {s0 : Nat} : ip_WP 164 33 [some (.ref x0)] [.ref s0] (G, F, I, J) b post px ↔ ip_WP 164 34 [some (.ref x0)] [.int (-1), .ref s0] (G, F, I, J) b post px := ip_s_iconst f164_33 (by decide)
theorem f164_34 : ip_fetch 164 34 = some (.putfield 71, 3) := by decide +kernel
set_option maxRecDepth 100000 in
theorem s164_34 {x0 : Nat} {s0 : Nat} {s1 : Int32} : ip_WP 164 34 [some (.ref x0)] [.int s1, .ref s0] (G, F, I, J) b post px ↔ (ip_isO G s0 8 = true ∧ ip_WP 164 37 [some (.ref x0)] [] (G, ip_up F s0 8 (.int s1), I, J) b post px) := ip_s_put f164_34 (by decide +kernel) rfl
theorem f164_37 : ip_fetch 164 37 = some (.return_, 1) := by decide +kernel
theorem s164_37 {x0 : Nat} : ip_WP 164 37 [some (.ref x0)] [] (G, F, I, J) b post px ↔ post none (G, F, I, J) := ip_rt_iff ((ip_st_of f164_37).trans rfl)
theorem f165_0 : ip_fetch 165 0 = some (.aload_n 0, 1) := by decide +kernel
theorem s165_0 {x0 : Nat} {x1 : Option Value} : ip_WP 165 0 [some (.ref x0), x1] [] (G, F, I, J) b post px ↔ ip_WP 165 1 [some (.ref x0), x1] [.ref x0] (G, F, I, J) b post px := ip_nx_iff ((ip_st_of f165_0).trans rfl)
theorem f165_1 : ip_fetch 165 1 = some (.getfield 24, 3) := by decide +kernel
set_option maxRecDepth 100000 in
theorem s165_1 {x0 : Nat} {x1 : Option Value} {s0 : Nat} : ip_WP 165 1 [some (.ref x0), x1] [.ref s0] (G, F, I, J) b post px ↔ (ip_isO G s0 8 = true ∧ ip_WP 165 4 [some (.ref x0), x1] [F s0 2] (G, F, I, J) b post px) := ip_s_getf f165_1 (by decide +kernel)
theorem f165_4 : ip_fetch 165 4 = some (.invokevirtual 52, 3) := by decide +kernel
set_option maxRecDepth 100000 in
theorem s165_4 {x0 : Nat} {x1 : Option Value} {s0 : Nat} : ip_WP 165 4 [some (.ref x0), x1] [.ref s0] (G, F, I, J) b post px ↔ (ip_isO G s0 5 = true ∧ ip_WP 127 0 [some (.ref s0)] [] (G, F, I, J) (0, 0) (fun r h' => ip_WP 165 7 [some (.ref x0), x1] (r.toList ++ []) h' b post px) (fun _ _ => False)) := ip_ck_iff (x := ip_cl 127 [some (.ref s0)] [] (0, 0) b) ((ip_st_of f165_4).trans rfl) (ip_cl_iff)
theorem f165_7 : ip_fetch 165 7 = some (.ifCond .ne 5, 3) := by decide +kernel
theorem s165_7 {x0 : Nat} {x1 : Option Value} {s0 : Int32} : ip_WP 165 7 [some (.ref x0), x1] [.int s0] (G, F, I, J) b post px ↔ if ¬ s0 = 0 then ip_WP 165 12 [some (.ref x0), x1] [] (G, F, I, J) b post px else ip_WP 165 10 [some (.ref x0), x1] [] (G, F, I, J) b post px := ip_s_if_ne f165_7 rfl
theorem f165_10 : ip_fetch 165 10 = some (.iconst 1, 1) := by decide +kernel
theorem s165_10 {x0 : Nat} {x1 : Option Value} : ip_WP 165 10 [some (.ref x0), x1] [] (G, F, I, J) b post px ↔ ip_WP 165 11 [some (.ref x0), x1] [.int 1] (G, F, I, J) b post px := ip_s_iconst f165_10 (by decide)
theorem f165_11 : ip_fetch 165 11 = some (.ireturn, 1) := by decide +kernel
theorem s165_11 {x0 : Nat} {x1 : Option Value} {s0 : Int32} : ip_WP 165 11 [some (.ref x0), x1] [.int s0] (G, F, I, J) b post px ↔ post (some (.int s0)) (G, F, I, J) := ip_rt_iff ((ip_st_of f165_11).trans rfl)
theorem f165_12 : ip_fetch 165 12 = some (.aload_n 0, 1) := by decide +kernel
theorem s165_12 {x0 : Nat} {x1 : Option Value} : ip_WP 165 12 [some (.ref x0), x1] [] (G, F, I, J) b post px ↔ ip_WP 165 13 [some (.ref x0), x1] [.ref x0] (G, F, I, J) b post px := ip_nx_iff ((ip_st_of f165_12).trans rfl)
theorem f165_13 : ip_fetch 165 13 = some (.getfield 65, 3) := by decide +kernel
set_option maxRecDepth 100000 in
theorem s165_13 {x0 : Nat} {x1 : Option Value} {s0 : Nat} : ip_WP 165 13 [some (.ref x0), x1] [.ref s0] (G, F, I, J) b post px ↔ (ip_isO G s0 8 = true ∧ ip_WP 165 16 [some (.ref x0), x1] [F s0 6] (G, F, I, J) b post px) := ip_s_getf f165_13 (by decide +kernel)
theorem f165_16 : ip_fetch 165 16 = some (.istore_n 1, 1) := by decide +kernel
theorem s165_16 {x0 : Nat} {x1 : Option Value} {s0 : Int32} : ip_WP 165 16 [some (.ref x0), x1] [.int s0] (G, F, I, J) b post px ↔ ip_WP 165 17 [some (.ref x0), some (.int s0)] [] (G, F, I, J) b post px := ip_nx_iff ((ip_st_of f165_16).trans rfl)
theorem f165_17 : ip_fetch 165 17 = some (.aload_n 0, 1) := by decide +kernel
theorem s165_17 {x0 : Nat} {x1 : Int32} : ip_WP 165 17 [some (.ref x0), some (.int x1)] [] (G, F, I, J) b post px ↔ ip_WP 165 18 [some (.ref x0), some (.int x1)] [.ref x0] (G, F, I, J) b post px := ip_nx_iff ((ip_st_of f165_17).trans rfl)
theorem f165_18 : ip_fetch 165 18 = some (.iload_n 1, 1) := by decide +kernel
theorem s165_18 {x0 : Nat} {x1 : Int32} {s0 : Nat} : ip_WP 165 18 [some (.ref x0), some (.int x1)] [.ref s0] (G, F, I, J) b post px ↔ ip_WP 165 19 [some (.ref x0), some (.int x1)] [.int x1, .ref s0] (G, F, I, J) b post px := ip_nx_iff ((ip_st_of f165_18).trans rfl)
theorem f165_19 : ip_fetch 165 19 = some (.iconst 1, 1) := by decide +kernel
theorem s165_19 {x0 : Nat} {x1 : Int32} {s0 : Nat} {s1 : Int32} : ip_WP 165 19 [some (.ref x0), some (.int x1)] [.int s1, .ref s0] (G, F, I, J) b post px ↔ ip_WP 165 20 [some (.ref x0), some (.int x1)] [.int 1, .int s1, .ref s0] (G, F, I, J) b post px := ip_s_iconst f165_19 (by decide)
theorem f165_20 : ip_fetch 165 20 = some (.iadd, 1) := by decide +kernel
theorem s165_20 {x0 : Nat} {x1 : Int32} {s0 : Nat} {s1 : Int32} {s2 : Int32} : ip_WP 165 20 [some (.ref x0), some (.int x1)] [.int s2, .int s1, .ref s0] (G, F, I, J) b post px ↔ ip_WP 165 21 [some (.ref x0), some (.int x1)] [.int (s1 + s2), .ref s0] (G, F, I, J) b post px := ip_nx_iff ((ip_st_of f165_20).trans rfl)
theorem f165_21 : ip_fetch 165 21 = some (.putfield 65, 3) := by decide +kernel
set_option maxRecDepth 100000 in
theorem s165_21 {x0 : Nat} {x1 : Int32} {s0 : Nat} {s1 : Int32} : ip_WP 165 21 [some (.ref x0), some (.int x1)] [.int s1, .ref s0] (G, F, I, J) b post px ↔ (ip_isO G s0 8 = true ∧ ip_WP 165 24 [some (.ref x0), some (.int x1)] [] (G, ip_up F s0 6 (.int s1), I, J) b post px) := ip_s_put f165_21 (by decide +kernel) rfl
theorem f165_24 : ip_fetch 165 24 = some (.aload_n 0, 1) := by decide +kernel
theorem s165_24 {x0 : Nat} {x1 : Int32} : ip_WP 165 24 [some (.ref x0), some (.int x1)] [] (G, F, I, J) b post px ↔ ip_WP 165 25 [some (.ref x0), some (.int x1)] [.ref x0] (G, F, I, J) b post px := ip_nx_iff ((ip_st_of f165_24).trans rfl)
theorem f165_25 : ip_fetch 165 25 = some (.getfield 55, 3) := by decide +kernel
set_option maxRecDepth 100000 in
theorem s165_25 {x0 : Nat} {x1 : Int32} {s0 : Nat} : ip_WP 165 25 [some (.ref x0), some (.int x1)] [.ref s0] (G, F, I, J) b post px ↔ (ip_isO G s0 8 = true ∧ ip_WP 165 28 [some (.ref x0), some (.int x1)] [F s0 5] (G, F, I, J) b post px) := ip_s_getf f165_25 (by decide +kernel)
-- switch 165 28
theorem f165_28 : ip_fetch 165 28 = some (.tableswitch 104 256 265 #[56, 62, 104, 68, 74, 80, 86, 92, 104, 98], 56) := by decide +kernel
theorem s165_28 {x0 : Nat} {x1 : Int32} {s0 : Int32} : ip_WP 165 28 [some (.ref x0), some (.int x1)] [.int s0] (G, F, I, J) b post px ↔ if s0 = 256 then ip_WP 165 84 [some (.ref x0), some (.int x1)] [] (G, F, I, J) b post px else if s0 = 257 then ip_WP 165 90 [some (.ref x0), some (.int x1)] [] (G, F, I, J) b post px else if s0 = 258 then ip_WP 165 132 [some (.ref x0), some (.int x1)] [] (G, F, I, J) b post px else if s0 = 259 then ip_WP 165 96 [some (.ref x0), some (.int x1)] [] (G, F, I, J) b post px else if s0 = 260 then ip_WP 165 102 [some (.ref x0), some (.int x1)] [] (G, F, I, J) b post px else if s0 = 261 then ip_WP 165 108 [some (.ref x0), some (.int x1)] [] (G, F, I, J) b post px else if s0 = 262 then ip_WP 165 114 [some (.ref x0), some (.int x1)] [] (G, F, I, J) b post px else if s0 = 263 then ip_WP 165 120 [some (.ref x0), some (.int x1)] [] (G, F, I, J) b post px else if s0 = 264 then ip_WP 165 132 [some (.ref x0), some (.int x1)] [] (G, F, I, J) b post px else if s0 = 265 then ip_WP 165 126 [some (.ref x0), some (.int x1)] [] (G, F, I, J) b post px else ip_WP 165 132 [some (.ref x0), some (.int x1)] [] (G, F, I, J) b post px := by
  by_cases h0 : s0 = 256
  · subst h0
    rw [if_pos rfl]
    exact ip_nx_iff ((ip_st_of f165_28).trans rfl)
  rw [if_neg h0]
  by_cases h1 : s0 = 257
  · subst h1
    rw [if_pos rfl]
    exact ip_nx_iff ((ip_st_of f165_28).trans rfl)
  rw [if_neg h1]
  by_cases h2 : s0 = 258
  · subst h2
    rw [if_pos rfl]
    exact ip_nx_iff ((ip_st_of f165_28).trans rfl)
  rw [if_neg h2]
  by_cases h3 : s0 = 259
  · subst h3
    rw [if_pos rfl]
    exact ip_nx_iff ((ip_st_of f165_28).trans rfl)
  rw [if_neg h3]
  by_cases h4 : s0 = 260
  · subst h4
    rw [if_pos rfl]
    exact ip_nx_iff ((ip_st_of f165_28).trans rfl)
  rw [if_neg h4]
  by_cases h5 : s0 = 261
  · subst h5
    rw [if_pos rfl]
    exact ip_nx_iff ((ip_st_of f165_28).trans rfl)
  rw [if_neg h5]
  by_cases h6 : s0 = 262
  · subst h6
    rw [if_pos rfl]
    exact ip_nx_iff ((ip_st_of f165_28).trans rfl)
  rw [if_neg h6]
  by_cases h7 : s0 = 263
  · subst h7
    rw [if_pos rfl]
    exact ip_nx_iff ((ip_st_of f165_28).trans rfl)
  rw [if_neg h7]
  by_cases h8 : s0 = 264
  · subst h8
    rw [if_pos rfl]
    exact ip_nx_iff ((ip_st_of f165_28).trans rfl)
  rw [if_neg h8]
  by_cases h9 : s0 = 265
  · subst h9
    rw [if_pos rfl]
    exact ip_nx_iff ((ip_st_of f165_28).trans rfl)
  rw [if_neg h9]
  have g0 := lv_neT (a := 256) h0 (by decide)
  have g1 := lv_neT (a := 257) h1 (by decide)
  have g2 := lv_neT (a := 258) h2 (by decide)
  have g3 := lv_neT (a := 259) h3 (by decide)
  have g4 := lv_neT (a := 260) h4 (by decide)
  have g5 := lv_neT (a := 261) h5 (by decide)
  have g6 := lv_neT (a := 262) h6 (by decide)
  have g7 := lv_neT (a := 263) h7 (by decide)
  have g8 := lv_neT (a := 264) h8 (by decide)
  have g9 := lv_neT (a := 265) h9 (by decide)
  exact ip_s_tsd f165_28 (by omega) rfl rfl
theorem f165_84 : ip_fetch 165 84 = some (.aload_n 0, 1) := by decide +kernel
theorem s165_84 {x0 : Nat} {x1 : Int32} : ip_WP 165 84 [some (.ref x0), some (.int x1)] [] (G, F, I, J) b post px ↔ ip_WP 165 85 [some (.ref x0), some (.int x1)] [.ref x0] (G, F, I, J) b post px := ip_nx_iff ((ip_st_of f165_84).trans rfl)
theorem f165_85 : ip_fetch 165 85 = some (.iload_n 1, 1) := by decide +kernel
theorem s165_85 {x0 : Nat} {x1 : Int32} {s0 : Nat} : ip_WP 165 85 [some (.ref x0), some (.int x1)] [.ref s0] (G, F, I, J) b post px ↔ ip_WP 165 86 [some (.ref x0), some (.int x1)] [.int x1, .ref s0] (G, F, I, J) b post px := ip_nx_iff ((ip_st_of f165_85).trans rfl)
theorem f165_86 : ip_fetch 165 86 = some (.invokevirtual 74, 3) := by decide +kernel
set_option maxRecDepth 100000 in
theorem s165_86 {x0 : Nat} {x1 : Int32} {s0 : Nat} {s1 : Int32} : ip_WP 165 86 [some (.ref x0), some (.int x1)] [.int s1, .ref s0] (G, F, I, J) b post px ↔ (ip_isO G s0 8 = true ∧ ip_WP 167 0 [some (.ref s0), some (.int s1)] [] (G, F, I, J) (0, 0) (fun r h' => ip_WP 165 89 [some (.ref x0), some (.int x1)] (r.toList ++ []) h' b post px) (fun _ _ => False)) := ip_ck_iff (x := ip_cl 167 [some (.ref s0), some (.int s1)] [] (0, 0) b) ((ip_st_of f165_86).trans rfl) (ip_cl_iff)
theorem f165_89 : ip_fetch 165 89 = some (.ireturn, 1) := by decide +kernel
theorem s165_89 {x0 : Nat} {x1 : Int32} {s0 : Int32} : ip_WP 165 89 [some (.ref x0), some (.int x1)] [.int s0] (G, F, I, J) b post px ↔ post (some (.int s0)) (G, F, I, J) := ip_rt_iff ((ip_st_of f165_89).trans rfl)
theorem f165_90 : ip_fetch 165 90 = some (.aload_n 0, 1) := by decide +kernel
theorem s165_90 {x0 : Nat} {x1 : Int32} : ip_WP 165 90 [some (.ref x0), some (.int x1)] [] (G, F, I, J) b post px ↔ ip_WP 165 91 [some (.ref x0), some (.int x1)] [.ref x0] (G, F, I, J) b post px := ip_nx_iff ((ip_st_of f165_90).trans rfl)
theorem f165_91 : ip_fetch 165 91 = some (.iload_n 1, 1) := by decide +kernel
theorem s165_91 {x0 : Nat} {x1 : Int32} {s0 : Nat} : ip_WP 165 91 [some (.ref x0), some (.int x1)] [.ref s0] (G, F, I, J) b post px ↔ ip_WP 165 92 [some (.ref x0), some (.int x1)] [.int x1, .ref s0] (G, F, I, J) b post px := ip_nx_iff ((ip_st_of f165_91).trans rfl)
theorem f165_92 : ip_fetch 165 92 = some (.invokevirtual 78, 3) := by decide +kernel
set_option maxRecDepth 100000 in
theorem s165_92 {x0 : Nat} {x1 : Int32} {s0 : Nat} {s1 : Int32} : ip_WP 165 92 [some (.ref x0), some (.int x1)] [.int s1, .ref s0] (G, F, I, J) b post px ↔ (ip_isO G s0 8 = true ∧ ip_WP 168 0 [some (.ref s0), some (.int s1)] [] (G, F, I, J) (0, 0) (fun r h' => ip_WP 165 95 [some (.ref x0), some (.int x1)] (r.toList ++ []) h' b post px) (fun _ _ => False)) := ip_ck_iff (x := ip_cl 168 [some (.ref s0), some (.int s1)] [] (0, 0) b) ((ip_st_of f165_92).trans rfl) (ip_cl_iff)
theorem f165_95 : ip_fetch 165 95 = some (.ireturn, 1) := by decide +kernel
theorem s165_95 {x0 : Nat} {x1 : Int32} {s0 : Int32} : ip_WP 165 95 [some (.ref x0), some (.int x1)] [.int s0] (G, F, I, J) b post px ↔ post (some (.int s0)) (G, F, I, J) := ip_rt_iff ((ip_st_of f165_95).trans rfl)
theorem f165_96 : ip_fetch 165 96 = some (.aload_n 0, 1) := by decide +kernel
theorem s165_96 {x0 : Nat} {x1 : Int32} : ip_WP 165 96 [some (.ref x0), some (.int x1)] [] (G, F, I, J) b post px ↔ ip_WP 165 97 [some (.ref x0), some (.int x1)] [.ref x0] (G, F, I, J) b post px := ip_nx_iff ((ip_st_of f165_96).trans rfl)
theorem f165_97 : ip_fetch 165 97 = some (.iload_n 1, 1) := by decide +kernel
theorem s165_97 {x0 : Nat} {x1 : Int32} {s0 : Nat} : ip_WP 165 97 [some (.ref x0), some (.int x1)] [.ref s0] (G, F, I, J) b post px ↔ ip_WP 165 98 [some (.ref x0), some (.int x1)] [.int x1, .ref s0] (G, F, I, J) b post px := ip_nx_iff ((ip_st_of f165_97).trans rfl)
theorem f165_98 : ip_fetch 165 98 = some (.invokevirtual 81, 3) := by decide +kernel
set_option maxRecDepth 100000 in
theorem s165_98 {x0 : Nat} {x1 : Int32} {s0 : Nat} {s1 : Int32} : ip_WP 165 98 [some (.ref x0), some (.int x1)] [.int s1, .ref s0] (G, F, I, J) b post px ↔ (ip_isO G s0 8 = true ∧ ip_WP 169 0 [some (.ref s0), some (.int s1)] [] (G, F, I, J) (0, 0) (fun r h' => ip_WP 165 101 [some (.ref x0), some (.int x1)] (r.toList ++ []) h' b post px) (fun _ _ => False)) := ip_ck_iff (x := ip_cl 169 [some (.ref s0), some (.int s1)] [] (0, 0) b) ((ip_st_of f165_98).trans rfl) (ip_cl_iff)
theorem f165_101 : ip_fetch 165 101 = some (.ireturn, 1) := by decide +kernel
theorem s165_101 {x0 : Nat} {x1 : Int32} {s0 : Int32} : ip_WP 165 101 [some (.ref x0), some (.int x1)] [.int s0] (G, F, I, J) b post px ↔ post (some (.int s0)) (G, F, I, J) := ip_rt_iff ((ip_st_of f165_101).trans rfl)
theorem f165_102 : ip_fetch 165 102 = some (.aload_n 0, 1) := by decide +kernel
theorem s165_102 {x0 : Nat} {x1 : Int32} : ip_WP 165 102 [some (.ref x0), some (.int x1)] [] (G, F, I, J) b post px ↔ ip_WP 165 103 [some (.ref x0), some (.int x1)] [.ref x0] (G, F, I, J) b post px := ip_nx_iff ((ip_st_of f165_102).trans rfl)
theorem f165_103 : ip_fetch 165 103 = some (.iload_n 1, 1) := by decide +kernel
theorem s165_103 {x0 : Nat} {x1 : Int32} {s0 : Nat} : ip_WP 165 103 [some (.ref x0), some (.int x1)] [.ref s0] (G, F, I, J) b post px ↔ ip_WP 165 104 [some (.ref x0), some (.int x1)] [.int x1, .ref s0] (G, F, I, J) b post px := ip_nx_iff ((ip_st_of f165_103).trans rfl)
theorem f165_104 : ip_fetch 165 104 = some (.invokevirtual 84, 3) := by decide +kernel
set_option maxRecDepth 100000 in
theorem s165_104 {x0 : Nat} {x1 : Int32} {s0 : Nat} {s1 : Int32} : ip_WP 165 104 [some (.ref x0), some (.int x1)] [.int s1, .ref s0] (G, F, I, J) b post px ↔ (ip_isO G s0 8 = true ∧ ip_WP 170 0 [some (.ref s0), some (.int s1)] [] (G, F, I, J) (0, 0) (fun r h' => ip_WP 165 107 [some (.ref x0), some (.int x1)] (r.toList ++ []) h' b post px) (fun _ _ => False)) := ip_ck_iff (x := ip_cl 170 [some (.ref s0), some (.int s1)] [] (0, 0) b) ((ip_st_of f165_104).trans rfl) (ip_cl_iff)
theorem f165_107 : ip_fetch 165 107 = some (.ireturn, 1) := by decide +kernel
theorem s165_107 {x0 : Nat} {x1 : Int32} {s0 : Int32} : ip_WP 165 107 [some (.ref x0), some (.int x1)] [.int s0] (G, F, I, J) b post px ↔ post (some (.int s0)) (G, F, I, J) := ip_rt_iff ((ip_st_of f165_107).trans rfl)
theorem f165_108 : ip_fetch 165 108 = some (.aload_n 0, 1) := by decide +kernel
theorem s165_108 {x0 : Nat} {x1 : Int32} : ip_WP 165 108 [some (.ref x0), some (.int x1)] [] (G, F, I, J) b post px ↔ ip_WP 165 109 [some (.ref x0), some (.int x1)] [.ref x0] (G, F, I, J) b post px := ip_nx_iff ((ip_st_of f165_108).trans rfl)
theorem f165_109 : ip_fetch 165 109 = some (.iload_n 1, 1) := by decide +kernel
theorem s165_109 {x0 : Nat} {x1 : Int32} {s0 : Nat} : ip_WP 165 109 [some (.ref x0), some (.int x1)] [.ref s0] (G, F, I, J) b post px ↔ ip_WP 165 110 [some (.ref x0), some (.int x1)] [.int x1, .ref s0] (G, F, I, J) b post px := ip_nx_iff ((ip_st_of f165_109).trans rfl)
theorem f165_110 : ip_fetch 165 110 = some (.invokevirtual 87, 3) := by decide +kernel
set_option maxRecDepth 100000 in
theorem s165_110 {x0 : Nat} {x1 : Int32} {s0 : Nat} {s1 : Int32} : ip_WP 165 110 [some (.ref x0), some (.int x1)] [.int s1, .ref s0] (G, F, I, J) b post px ↔ (ip_isO G s0 8 = true ∧ ip_WP 171 0 [some (.ref s0), some (.int s1)] [] (G, F, I, J) (0, 0) (fun r h' => ip_WP 165 113 [some (.ref x0), some (.int x1)] (r.toList ++ []) h' b post px) (fun _ _ => False)) := ip_ck_iff (x := ip_cl 171 [some (.ref s0), some (.int s1)] [] (0, 0) b) ((ip_st_of f165_110).trans rfl) (ip_cl_iff)
theorem f165_113 : ip_fetch 165 113 = some (.ireturn, 1) := by decide +kernel
theorem s165_113 {x0 : Nat} {x1 : Int32} {s0 : Int32} : ip_WP 165 113 [some (.ref x0), some (.int x1)] [.int s0] (G, F, I, J) b post px ↔ post (some (.int s0)) (G, F, I, J) := ip_rt_iff ((ip_st_of f165_113).trans rfl)
theorem f165_114 : ip_fetch 165 114 = some (.aload_n 0, 1) := by decide +kernel
theorem s165_114 {x0 : Nat} {x1 : Int32} : ip_WP 165 114 [some (.ref x0), some (.int x1)] [] (G, F, I, J) b post px ↔ ip_WP 165 115 [some (.ref x0), some (.int x1)] [.ref x0] (G, F, I, J) b post px := ip_nx_iff ((ip_st_of f165_114).trans rfl)
theorem f165_115 : ip_fetch 165 115 = some (.iload_n 1, 1) := by decide +kernel
theorem s165_115 {x0 : Nat} {x1 : Int32} {s0 : Nat} : ip_WP 165 115 [some (.ref x0), some (.int x1)] [.ref s0] (G, F, I, J) b post px ↔ ip_WP 165 116 [some (.ref x0), some (.int x1)] [.int x1, .ref s0] (G, F, I, J) b post px := ip_nx_iff ((ip_st_of f165_115).trans rfl)
theorem f165_116 : ip_fetch 165 116 = some (.invokevirtual 90, 3) := by decide +kernel
set_option maxRecDepth 100000 in
theorem s165_116 {x0 : Nat} {x1 : Int32} {s0 : Nat} {s1 : Int32} : ip_WP 165 116 [some (.ref x0), some (.int x1)] [.int s1, .ref s0] (G, F, I, J) b post px ↔ (ip_isO G s0 8 = true ∧ ip_WP 172 0 [some (.ref s0), some (.int s1)] [] (G, F, I, J) (0, 0) (fun r h' => ip_WP 165 119 [some (.ref x0), some (.int x1)] (r.toList ++ []) h' b post px) (fun _ _ => False)) := ip_ck_iff (x := ip_cl 172 [some (.ref s0), some (.int s1)] [] (0, 0) b) ((ip_st_of f165_116).trans rfl) (ip_cl_iff)
theorem f165_119 : ip_fetch 165 119 = some (.ireturn, 1) := by decide +kernel
theorem s165_119 {x0 : Nat} {x1 : Int32} {s0 : Int32} : ip_WP 165 119 [some (.ref x0), some (.int x1)] [.int s0] (G, F, I, J) b post px ↔ post (some (.int s0)) (G, F, I, J) := ip_rt_iff ((ip_st_of f165_119).trans rfl)
theorem f165_120 : ip_fetch 165 120 = some (.aload_n 0, 1) := by decide +kernel
theorem s165_120 {x0 : Nat} {x1 : Int32} : ip_WP 165 120 [some (.ref x0), some (.int x1)] [] (G, F, I, J) b post px ↔ ip_WP 165 121 [some (.ref x0), some (.int x1)] [.ref x0] (G, F, I, J) b post px := ip_nx_iff ((ip_st_of f165_120).trans rfl)
theorem f165_121 : ip_fetch 165 121 = some (.iload_n 1, 1) := by decide +kernel
theorem s165_121 {x0 : Nat} {x1 : Int32} {s0 : Nat} : ip_WP 165 121 [some (.ref x0), some (.int x1)] [.ref s0] (G, F, I, J) b post px ↔ ip_WP 165 122 [some (.ref x0), some (.int x1)] [.int x1, .ref s0] (G, F, I, J) b post px := ip_nx_iff ((ip_st_of f165_121).trans rfl)
theorem f165_122 : ip_fetch 165 122 = some (.invokevirtual 93, 3) := by decide +kernel
set_option maxRecDepth 100000 in
theorem s165_122 {x0 : Nat} {x1 : Int32} {s0 : Nat} {s1 : Int32} : ip_WP 165 122 [some (.ref x0), some (.int x1)] [.int s1, .ref s0] (G, F, I, J) b post px ↔ (ip_isO G s0 8 = true ∧ ip_WP 173 0 [some (.ref s0), some (.int s1)] [] (G, F, I, J) (0, 0) (fun r h' => ip_WP 165 125 [some (.ref x0), some (.int x1)] (r.toList ++ []) h' b post px) (fun _ _ => False)) := ip_ck_iff (x := ip_cl 173 [some (.ref s0), some (.int s1)] [] (0, 0) b) ((ip_st_of f165_122).trans rfl) (ip_cl_iff)
theorem f165_125 : ip_fetch 165 125 = some (.ireturn, 1) := by decide +kernel
theorem s165_125 {x0 : Nat} {x1 : Int32} {s0 : Int32} : ip_WP 165 125 [some (.ref x0), some (.int x1)] [.int s0] (G, F, I, J) b post px ↔ post (some (.int s0)) (G, F, I, J) := ip_rt_iff ((ip_st_of f165_125).trans rfl)
theorem f165_126 : ip_fetch 165 126 = some (.aload_n 0, 1) := by decide +kernel
theorem s165_126 {x0 : Nat} {x1 : Int32} : ip_WP 165 126 [some (.ref x0), some (.int x1)] [] (G, F, I, J) b post px ↔ ip_WP 165 127 [some (.ref x0), some (.int x1)] [.ref x0] (G, F, I, J) b post px := ip_nx_iff ((ip_st_of f165_126).trans rfl)
theorem f165_127 : ip_fetch 165 127 = some (.iload_n 1, 1) := by decide +kernel
theorem s165_127 {x0 : Nat} {x1 : Int32} {s0 : Nat} : ip_WP 165 127 [some (.ref x0), some (.int x1)] [.ref s0] (G, F, I, J) b post px ↔ ip_WP 165 128 [some (.ref x0), some (.int x1)] [.int x1, .ref s0] (G, F, I, J) b post px := ip_nx_iff ((ip_st_of f165_127).trans rfl)
theorem f165_128 : ip_fetch 165 128 = some (.invokevirtual 96, 3) := by decide +kernel
set_option maxRecDepth 100000 in
theorem s165_128 {x0 : Nat} {x1 : Int32} {s0 : Nat} {s1 : Int32} : ip_WP 165 128 [some (.ref x0), some (.int x1)] [.int s1, .ref s0] (G, F, I, J) b post px ↔ (ip_isO G s0 8 = true ∧ ip_WP 174 0 [some (.ref s0), some (.int s1)] [] (G, F, I, J) (0, 0) (fun r h' => ip_WP 165 131 [some (.ref x0), some (.int x1)] (r.toList ++ []) h' b post px) (fun _ _ => False)) := ip_ck_iff (x := ip_cl 174 [some (.ref s0), some (.int s1)] [] (0, 0) b) ((ip_st_of f165_128).trans rfl) (ip_cl_iff)
theorem f165_131 : ip_fetch 165 131 = some (.ireturn, 1) := by decide +kernel
theorem s165_131 {x0 : Nat} {x1 : Int32} {s0 : Int32} : ip_WP 165 131 [some (.ref x0), some (.int x1)] [.int s0] (G, F, I, J) b post px ↔ post (some (.int s0)) (G, F, I, J) := ip_rt_iff ((ip_st_of f165_131).trans rfl)
theorem f165_132 : ip_fetch 165 132 = some (.aload_n 0, 1) := by decide +kernel
theorem s165_132 {x0 : Nat} {x1 : Int32} : ip_WP 165 132 [some (.ref x0), some (.int x1)] [] (G, F, I, J) b post px ↔ ip_WP 165 133 [some (.ref x0), some (.int x1)] [.ref x0] (G, F, I, J) b post px := ip_nx_iff ((ip_st_of f165_132).trans rfl)
theorem f165_133 : ip_fetch 165 133 = some (.invokevirtual 99, 3) := by decide +kernel
set_option maxRecDepth 100000 in
theorem s165_133 {x0 : Nat} {x1 : Int32} {s0 : Nat} : ip_WP 165 133 [some (.ref x0), some (.int x1)] [.ref s0] (G, F, I, J) b post px ↔ (ip_isO G s0 8 = true ∧ ip_WP 166 0 [some (.ref s0)] [] (G, F, I, J) (0, 0) (fun r h' => ip_WP 165 136 [some (.ref x0), some (.int x1)] (r.toList ++ []) h' b post px) (fun _ _ => False)) := ip_ck_iff (x := ip_cl 166 [some (.ref s0)] [] (0, 0) b) ((ip_st_of f165_133).trans rfl) (ip_cl_iff)
theorem f165_136 : ip_fetch 165 136 = some (.ireturn, 1) := by decide +kernel
theorem s165_136 {x0 : Nat} {x1 : Int32} {s0 : Int32} : ip_WP 165 136 [some (.ref x0), some (.int x1)] [.int s0] (G, F, I, J) b post px ↔ post (some (.int s0)) (G, F, I, J) := ip_rt_iff ((ip_st_of f165_136).trans rfl)
theorem f166_0 : ip_fetch 166 0 = some (.aload_n 0, 1) := by decide +kernel
theorem s166_0 {x0 : Nat} : ip_WP 166 0 [some (.ref x0)] [] (G, F, I, J) b post px ↔ ip_WP 166 1 [some (.ref x0)] [.ref x0] (G, F, I, J) b post px := ip_nx_iff ((ip_st_of f166_0).trans rfl)
theorem f166_1 : ip_fetch 166 1 = some (.getfield 24, 3) := by decide +kernel
set_option maxRecDepth 100000 in
theorem s166_1 {x0 : Nat} {s0 : Nat} : ip_WP 166 1 [some (.ref x0)] [.ref s0] (G, F, I, J) b post px ↔ (ip_isO G s0 8 = true ∧ ip_WP 166 4 [some (.ref x0)] [F s0 2] (G, F, I, J) b post px) := ip_s_getf f166_1 (by decide +kernel)
theorem f166_4 : ip_fetch 166 4 = some (.invokevirtual 52, 3) := by decide +kernel
set_option maxRecDepth 100000 in
theorem s166_4 {x0 : Nat} {s0 : Nat} : ip_WP 166 4 [some (.ref x0)] [.ref s0] (G, F, I, J) b post px ↔ (ip_isO G s0 5 = true ∧ ip_WP 127 0 [some (.ref s0)] [] (G, F, I, J) (0, 0) (fun r h' => ip_WP 166 7 [some (.ref x0)] (r.toList ++ []) h' b post px) (fun _ _ => False)) := ip_ck_iff (x := ip_cl 127 [some (.ref s0)] [] (0, 0) b) ((ip_st_of f166_4).trans rfl) (ip_cl_iff)
-- switch 166 7
theorem f166_7 : ip_fetch 166 7 = some (.tableswitch 71 256 265 #[53, 53, 71, 53, 53, 53, 53, 53, 71, 53], 53) := by decide +kernel
theorem s166_7 {x0 : Nat} {s0 : Int32} : ip_WP 166 7 [some (.ref x0)] [.int s0] (G, F, I, J) b post px ↔ if s0 = 256 then ip_WP 166 60 [some (.ref x0)] [] (G, F, I, J) b post px else if s0 = 257 then ip_WP 166 60 [some (.ref x0)] [] (G, F, I, J) b post px else if s0 = 258 then ip_WP 166 78 [some (.ref x0)] [] (G, F, I, J) b post px else if s0 = 259 then ip_WP 166 60 [some (.ref x0)] [] (G, F, I, J) b post px else if s0 = 260 then ip_WP 166 60 [some (.ref x0)] [] (G, F, I, J) b post px else if s0 = 261 then ip_WP 166 60 [some (.ref x0)] [] (G, F, I, J) b post px else if s0 = 262 then ip_WP 166 60 [some (.ref x0)] [] (G, F, I, J) b post px else if s0 = 263 then ip_WP 166 60 [some (.ref x0)] [] (G, F, I, J) b post px else if s0 = 264 then ip_WP 166 78 [some (.ref x0)] [] (G, F, I, J) b post px else if s0 = 265 then ip_WP 166 60 [some (.ref x0)] [] (G, F, I, J) b post px else ip_WP 166 78 [some (.ref x0)] [] (G, F, I, J) b post px := by
  by_cases h0 : s0 = 256
  · subst h0
    rw [if_pos rfl]
    exact ip_nx_iff ((ip_st_of f166_7).trans rfl)
  rw [if_neg h0]
  by_cases h1 : s0 = 257
  · subst h1
    rw [if_pos rfl]
    exact ip_nx_iff ((ip_st_of f166_7).trans rfl)
  rw [if_neg h1]
  by_cases h2 : s0 = 258
  · subst h2
    rw [if_pos rfl]
    exact ip_nx_iff ((ip_st_of f166_7).trans rfl)
  rw [if_neg h2]
  by_cases h3 : s0 = 259
  · subst h3
    rw [if_pos rfl]
    exact ip_nx_iff ((ip_st_of f166_7).trans rfl)
  rw [if_neg h3]
  by_cases h4 : s0 = 260
  · subst h4
    rw [if_pos rfl]
    exact ip_nx_iff ((ip_st_of f166_7).trans rfl)
  rw [if_neg h4]
  by_cases h5 : s0 = 261
  · subst h5
    rw [if_pos rfl]
    exact ip_nx_iff ((ip_st_of f166_7).trans rfl)
  rw [if_neg h5]
  by_cases h6 : s0 = 262
  · subst h6
    rw [if_pos rfl]
    exact ip_nx_iff ((ip_st_of f166_7).trans rfl)
  rw [if_neg h6]
  by_cases h7 : s0 = 263
  · subst h7
    rw [if_pos rfl]
    exact ip_nx_iff ((ip_st_of f166_7).trans rfl)
  rw [if_neg h7]
  by_cases h8 : s0 = 264
  · subst h8
    rw [if_pos rfl]
    exact ip_nx_iff ((ip_st_of f166_7).trans rfl)
  rw [if_neg h8]
  by_cases h9 : s0 = 265
  · subst h9
    rw [if_pos rfl]
    exact ip_nx_iff ((ip_st_of f166_7).trans rfl)
  rw [if_neg h9]
  have g0 := lv_neT (a := 256) h0 (by decide)
  have g1 := lv_neT (a := 257) h1 (by decide)
  have g2 := lv_neT (a := 258) h2 (by decide)
  have g3 := lv_neT (a := 259) h3 (by decide)
  have g4 := lv_neT (a := 260) h4 (by decide)
  have g5 := lv_neT (a := 261) h5 (by decide)
  have g6 := lv_neT (a := 262) h6 (by decide)
  have g7 := lv_neT (a := 263) h7 (by decide)
  have g8 := lv_neT (a := 264) h8 (by decide)
  have g9 := lv_neT (a := 265) h9 (by decide)
  exact ip_s_tsd f166_7 (by omega) rfl rfl
theorem f166_60 : ip_fetch 166 60 = some (.aload_n 0, 1) := by decide +kernel
theorem s166_60 {x0 : Nat} : ip_WP 166 60 [some (.ref x0)] [] (G, F, I, J) b post px ↔ ip_WP 166 61 [some (.ref x0)] [.ref x0] (G, F, I, J) b post px := ip_nx_iff ((ip_st_of f166_60).trans rfl)
theorem f166_61 : ip_fetch 166 61 = some (.aload_n 0, 1) := by decide +kernel
theorem s166_61 {x0 : Nat} {s0 : Nat} : ip_WP 166 61 [some (.ref x0)] [.ref s0] (G, F, I, J) b post px ↔ ip_WP 166 62 [some (.ref x0)] [.ref x0, .ref s0] (G, F, I, J) b post px := ip_nx_iff ((ip_st_of f166_61).trans rfl)
theorem f166_62 : ip_fetch 166 62 = some (.getfield 24, 3) := by decide +kernel
set_option maxRecDepth 100000 in
theorem s166_62 {x0 : Nat} {s0 : Nat} {s1 : Nat} : ip_WP 166 62 [some (.ref x0)] [.ref s1, .ref s0] (G, F, I, J) b post px ↔ (ip_isO G s1 8 = true ∧ ip_WP 166 65 [some (.ref x0)] [F s1 2, .ref s0] (G, F, I, J) b post px) := ip_s_getf f166_62 (by decide +kernel)
theorem f166_65 : ip_fetch 166 65 = some (.invokevirtual 52, 3) := by decide +kernel
set_option maxRecDepth 100000 in
theorem s166_65 {x0 : Nat} {s0 : Nat} {s1 : Nat} : ip_WP 166 65 [some (.ref x0)] [.ref s1, .ref s0] (G, F, I, J) b post px ↔ (ip_isO G s1 5 = true ∧ ip_WP 127 0 [some (.ref s1)] [] (G, F, I, J) (0, 0) (fun r h' => ip_WP 166 68 [some (.ref x0)] (r.toList ++ [.ref s0]) h' b post px) (fun _ _ => False)) := ip_ck_iff (x := ip_cl 127 [some (.ref s1)] [.ref s0] (0, 0) b) ((ip_st_of f166_65).trans rfl) (ip_cl_iff)
theorem f166_68 : ip_fetch 166 68 = some (.putfield 55, 3) := by decide +kernel
set_option maxRecDepth 100000 in
theorem s166_68 {x0 : Nat} {s0 : Nat} {s1 : Int32} : ip_WP 166 68 [some (.ref x0)] [.int s1, .ref s0] (G, F, I, J) b post px ↔ (ip_isO G s0 8 = true ∧ ip_WP 166 71 [some (.ref x0)] [] (G, ip_up F s0 5 (.int s1), I, J) b post px) := ip_s_put f166_68 (by decide +kernel) rfl
theorem f166_71 : ip_fetch 166 71 = some (.aload_n 0, 1) := by decide +kernel
theorem s166_71 {x0 : Nat} : ip_WP 166 71 [some (.ref x0)] [] (G, F, I, J) b post px ↔ ip_WP 166 72 [some (.ref x0)] [.ref x0] (G, F, I, J) b post px := ip_nx_iff ((ip_st_of f166_71).trans rfl)
theorem f166_72 : ip_fetch 166 72 = some (.iconst 0, 1) := by decide +kernel
theorem s166_72 {x0 : Nat} {s0 : Nat} : ip_WP 166 72 [some (.ref x0)] [.ref s0] (G, F, I, J) b post px ↔ ip_WP 166 73 [some (.ref x0)] [.int 0, .ref s0] (G, F, I, J) b post px := ip_s_iconst f166_72 (by decide)
theorem f166_73 : ip_fetch 166 73 = some (.putfield 65, 3) := by decide +kernel
set_option maxRecDepth 100000 in
theorem s166_73 {x0 : Nat} {s0 : Nat} {s1 : Int32} : ip_WP 166 73 [some (.ref x0)] [.int s1, .ref s0] (G, F, I, J) b post px ↔ (ip_isO G s0 8 = true ∧ ip_WP 166 76 [some (.ref x0)] [] (G, ip_up F s0 6 (.int s1), I, J) b post px) := ip_s_put f166_73 (by decide +kernel) rfl
theorem f166_76 : ip_fetch 166 76 = some (.iconst 0, 1) := by decide +kernel
theorem s166_76 {x0 : Nat} : ip_WP 166 76 [some (.ref x0)] [] (G, F, I, J) b post px ↔ ip_WP 166 77 [some (.ref x0)] [.int 0] (G, F, I, J) b post px := ip_s_iconst f166_76 (by decide)
theorem f166_77 : ip_fetch 166 77 = some (.ireturn, 1) := by decide +kernel
theorem s166_77 {x0 : Nat} {s0 : Int32} : ip_WP 166 77 [some (.ref x0)] [.int s0] (G, F, I, J) b post px ↔ post (some (.int s0)) (G, F, I, J) := ip_rt_iff ((ip_st_of f166_77).trans rfl)
theorem f166_78 : ip_fetch 166 78 = some (.iconst 2, 1) := by decide +kernel
theorem s166_78 {x0 : Nat} : ip_WP 166 78 [some (.ref x0)] [] (G, F, I, J) b post px ↔ ip_WP 166 79 [some (.ref x0)] [.int 2] (G, F, I, J) b post px := ip_s_iconst f166_78 (by decide)
theorem f166_79 : ip_fetch 166 79 = some (.ireturn, 1) := by decide +kernel
theorem s166_79 {x0 : Nat} {s0 : Int32} : ip_WP 166 79 [some (.ref x0)] [.int s0] (G, F, I, J) b post px ↔ post (some (.int s0)) (G, F, I, J) := ip_rt_iff ((ip_st_of f166_79).trans rfl)
theorem f167_0 : ip_fetch 167 0 = some (.iload_n 1, 1) := by decide +kernel
theorem s167_0 {x0 : Nat} {x1 : Int32} : ip_WP 167 0 [some (.ref x0), some (.int x1)] [] (G, F, I, J) b post px ↔ ip_WP 167 1 [some (.ref x0), some (.int x1)] [.int x1] (G, F, I, J) b post px := ip_nx_iff ((ip_st_of f167_0).trans rfl)
theorem f167_1 : ip_fetch 167 1 = some (.ifCond .ne 17, 3) := by decide +kernel
theorem s167_1 {x0 : Nat} {x1 : Int32} {s0 : Int32} : ip_WP 167 1 [some (.ref x0), some (.int x1)] [.int s0] (G, F, I, J) b post px ↔ if ¬ s0 = 0 then ip_WP 167 18 [some (.ref x0), some (.int x1)] [] (G, F, I, J) b post px else ip_WP 167 4 [some (.ref x0), some (.int x1)] [] (G, F, I, J) b post px := ip_s_if_ne f167_1 rfl
theorem f167_4 : ip_fetch 167 4 = some (.aload_n 0, 1) := by decide +kernel
theorem s167_4 {x0 : Nat} {x1 : Int32} : ip_WP 167 4 [some (.ref x0), some (.int x1)] [] (G, F, I, J) b post px ↔ ip_WP 167 5 [some (.ref x0), some (.int x1)] [.ref x0] (G, F, I, J) b post px := ip_nx_iff ((ip_st_of f167_4).trans rfl)
theorem f167_5 : ip_fetch 167 5 = some (.aload_n 0, 1) := by decide +kernel
theorem s167_5 {x0 : Nat} {x1 : Int32} {s0 : Nat} : ip_WP 167 5 [some (.ref x0), some (.int x1)] [.ref s0] (G, F, I, J) b post px ↔ ip_WP 167 6 [some (.ref x0), some (.int x1)] [.ref x0, .ref s0] (G, F, I, J) b post px := ip_nx_iff ((ip_st_of f167_5).trans rfl)
theorem f167_6 : ip_fetch 167 6 = some (.getfield 15, 3) := by decide +kernel
set_option maxRecDepth 100000 in
theorem s167_6 {x0 : Nat} {x1 : Int32} {s0 : Nat} {s1 : Nat} : ip_WP 167 6 [some (.ref x0), some (.int x1)] [.ref s1, .ref s0] (G, F, I, J) b post px ↔ (ip_isO G s1 8 = true ∧ ip_WP 167 9 [some (.ref x0), some (.int x1)] [F s1 1, .ref s0] (G, F, I, J) b post px) := ip_s_getf f167_6 (by decide +kernel)
theorem f167_9 : ip_fetch 167 9 = some (.getfield 102, 3) := by decide +kernel
set_option maxRecDepth 100000 in
theorem s167_9 {x0 : Nat} {x1 : Int32} {s0 : Nat} {s1 : Nat} : ip_WP 167 9 [some (.ref x0), some (.int x1)] [.ref s1, .ref s0] (G, F, I, J) b post px ↔ (ip_isO G s1 3 = true ∧ ip_WP 167 12 [some (.ref x0), some (.int x1)] [F s1 0, .ref s0] (G, F, I, J) b post px) := ip_s_getf f167_9 (by decide +kernel)
theorem f167_12 : ip_fetch 167 12 = some (.invokevirtual 106, 3) := by decide +kernel
set_option maxRecDepth 100000 in
theorem s167_12 {x0 : Nat} {x1 : Int32} {s0 : Nat} {s1 : Nat} : ip_WP 167 12 [some (.ref x0), some (.int x1)] [.ref s1, .ref s0] (G, F, I, J) b post px ↔ (ip_isO G s0 8 = true ∧ ip_WP 179 0 [some (.ref s0), some (.ref s1)] [] (G, F, I, J) (0, 0) (fun r h' => ip_WP 167 15 [some (.ref x0), some (.int x1)] (r.toList ++ []) h' b post px) (fun _ _ => False)) := ip_ck_iff (x := ip_cl 179 [some (.ref s0), some (.ref s1)] [] (0, 0) b) ((ip_st_of f167_12).trans rfl) (ip_cl_iff)
theorem f167_15 : ip_fetch 167 15 = some (.goto 8, 3) := by decide +kernel
theorem s167_15 {x0 : Nat} {x1 : Int32} {s0 : Int32} : ip_WP 167 15 [some (.ref x0), some (.int x1)] [.int s0] (G, F, I, J) b post px ↔ ip_WP 167 23 [some (.ref x0), some (.int x1)] [.int s0] (G, F, I, J) b post px := ip_nx_iff ((ip_st_of f167_15).trans rfl)
theorem f167_18 : ip_fetch 167 18 = some (.aload_n 0, 1) := by decide +kernel
theorem s167_18 {x0 : Nat} {x1 : Int32} : ip_WP 167 18 [some (.ref x0), some (.int x1)] [] (G, F, I, J) b post px ↔ ip_WP 167 19 [some (.ref x0), some (.int x1)] [.ref x0] (G, F, I, J) b post px := ip_nx_iff ((ip_st_of f167_18).trans rfl)
theorem f167_19 : ip_fetch 167 19 = some (.iconst 0, 1) := by decide +kernel
theorem s167_19 {x0 : Nat} {x1 : Int32} {s0 : Nat} : ip_WP 167 19 [some (.ref x0), some (.int x1)] [.ref s0] (G, F, I, J) b post px ↔ ip_WP 167 20 [some (.ref x0), some (.int x1)] [.int 0, .ref s0] (G, F, I, J) b post px := ip_s_iconst f167_19 (by decide)
theorem f167_20 : ip_fetch 167 20 = some (.invokevirtual 110, 3) := by decide +kernel
set_option maxRecDepth 100000 in
theorem s167_20 {x0 : Nat} {x1 : Int32} {s0 : Nat} {s1 : Int32} : ip_WP 167 20 [some (.ref x0), some (.int x1)] [.int s1, .ref s0] (G, F, I, J) b post px ↔ (ip_isO G s0 8 = true ∧ ip_WP 177 0 [some (.ref s0), some (.int s1)] [] (G, F, I, J) (0, 0) (fun r h' => ip_WP 167 23 [some (.ref x0), some (.int x1)] (r.toList ++ []) h' b post px) (fun _ _ => False)) := ip_ck_iff (x := ip_cl 177 [some (.ref s0), some (.int s1)] [] (0, 0) b) ((ip_st_of f167_20).trans rfl) (ip_cl_iff)
theorem f167_23 : ip_fetch 167 23 = some (.ireturn, 1) := by decide +kernel
theorem s167_23 {x0 : Nat} {x1 : Int32} {s0 : Int32} : ip_WP 167 23 [some (.ref x0), some (.int x1)] [.int s0] (G, F, I, J) b post px ↔ post (some (.int s0)) (G, F, I, J) := ip_rt_iff ((ip_st_of f167_23).trans rfl)
theorem f168_0 : ip_fetch 168 0 = some (.iload_n 1, 1) := by decide +kernel
theorem s168_0 {x0 : Nat} {x1 : Int32} : ip_WP 168 0 [some (.ref x0), some (.int x1)] [] (G, F, I, J) b post px ↔ ip_WP 168 1 [some (.ref x0), some (.int x1)] [.int x1] (G, F, I, J) b post px := ip_nx_iff ((ip_st_of f168_0).trans rfl)
-- switch 168 1
theorem f168_1 : ip_fetch 168 1 = some (.tableswitch 52 0 2 #[27, 39, 47], 27) := by decide +kernel
theorem s168_1 {x0 : Nat} {x1 : Int32} {s0 : Int32} : ip_WP 168 1 [some (.ref x0), some (.int x1)] [.int s0] (G, F, I, J) b post px ↔ if s0 = 0 then ip_WP 168 28 [some (.ref x0), some (.int x1)] [] (G, F, I, J) b post px else if s0 = 1 then ip_WP 168 40 [some (.ref x0), some (.int x1)] [] (G, F, I, J) b post px else if s0 = 2 then ip_WP 168 48 [some (.ref x0), some (.int x1)] [] (G, F, I, J) b post px else ip_WP 168 53 [some (.ref x0), some (.int x1)] [] (G, F, I, J) b post px := by
  by_cases h0 : s0 = 0
  · subst h0
    rw [if_pos rfl]
    exact ip_nx_iff ((ip_st_of f168_1).trans rfl)
  rw [if_neg h0]
  by_cases h1 : s0 = 1
  · subst h1
    rw [if_pos rfl]
    exact ip_nx_iff ((ip_st_of f168_1).trans rfl)
  rw [if_neg h1]
  by_cases h2 : s0 = 2
  · subst h2
    rw [if_pos rfl]
    exact ip_nx_iff ((ip_st_of f168_1).trans rfl)
  rw [if_neg h2]
  have g0 := lv_neT (a := 0) h0 (by decide)
  have g1 := lv_neT (a := 1) h1 (by decide)
  have g2 := lv_neT (a := 2) h2 (by decide)
  exact ip_s_tsd f168_1 (by omega) rfl rfl
theorem f168_28 : ip_fetch 168 28 = some (.aload_n 0, 1) := by decide +kernel
theorem s168_28 {x0 : Nat} {x1 : Int32} : ip_WP 168 28 [some (.ref x0), some (.int x1)] [] (G, F, I, J) b post px ↔ ip_WP 168 29 [some (.ref x0), some (.int x1)] [.ref x0] (G, F, I, J) b post px := ip_nx_iff ((ip_st_of f168_28).trans rfl)
theorem f168_29 : ip_fetch 168 29 = some (.aload_n 0, 1) := by decide +kernel
theorem s168_29 {x0 : Nat} {x1 : Int32} {s0 : Nat} : ip_WP 168 29 [some (.ref x0), some (.int x1)] [.ref s0] (G, F, I, J) b post px ↔ ip_WP 168 30 [some (.ref x0), some (.int x1)] [.ref x0, .ref s0] (G, F, I, J) b post px := ip_nx_iff ((ip_st_of f168_29).trans rfl)
theorem f168_30 : ip_fetch 168 30 = some (.getfield 15, 3) := by decide +kernel
set_option maxRecDepth 100000 in
theorem s168_30 {x0 : Nat} {x1 : Int32} {s0 : Nat} {s1 : Nat} : ip_WP 168 30 [some (.ref x0), some (.int x1)] [.ref s1, .ref s0] (G, F, I, J) b post px ↔ (ip_isO G s1 8 = true ∧ ip_WP 168 33 [some (.ref x0), some (.int x1)] [F s1 1, .ref s0] (G, F, I, J) b post px) := ip_s_getf f168_30 (by decide +kernel)
theorem f168_33 : ip_fetch 168 33 = some (.getfield 113, 3) := by decide +kernel
set_option maxRecDepth 100000 in
theorem s168_33 {x0 : Nat} {x1 : Int32} {s0 : Nat} {s1 : Nat} : ip_WP 168 33 [some (.ref x0), some (.int x1)] [.ref s1, .ref s0] (G, F, I, J) b post px ↔ (ip_isO G s1 3 = true ∧ ip_WP 168 36 [some (.ref x0), some (.int x1)] [F s1 1, .ref s0] (G, F, I, J) b post px) := ip_s_getf f168_33 (by decide +kernel)
theorem f168_36 : ip_fetch 168 36 = some (.invokevirtual 106, 3) := by decide +kernel
set_option maxRecDepth 100000 in
theorem s168_36 {x0 : Nat} {x1 : Int32} {s0 : Nat} {s1 : Nat} : ip_WP 168 36 [some (.ref x0), some (.int x1)] [.ref s1, .ref s0] (G, F, I, J) b post px ↔ (ip_isO G s0 8 = true ∧ ip_WP 179 0 [some (.ref s0), some (.ref s1)] [] (G, F, I, J) (0, 0) (fun r h' => ip_WP 168 39 [some (.ref x0), some (.int x1)] (r.toList ++ []) h' b post px) (fun _ _ => False)) := ip_ck_iff (x := ip_cl 179 [some (.ref s0), some (.ref s1)] [] (0, 0) b) ((ip_st_of f168_36).trans rfl) (ip_cl_iff)
theorem f168_39 : ip_fetch 168 39 = some (.ireturn, 1) := by decide +kernel
theorem s168_39 {x0 : Nat} {x1 : Int32} {s0 : Int32} : ip_WP 168 39 [some (.ref x0), some (.int x1)] [.int s0] (G, F, I, J) b post px ↔ post (some (.int s0)) (G, F, I, J) := ip_rt_iff ((ip_st_of f168_39).trans rfl)
theorem f168_40 : ip_fetch 168 40 = some (.aload_n 0, 1) := by decide +kernel
theorem s168_40 {x0 : Nat} {x1 : Int32} : ip_WP 168 40 [some (.ref x0), some (.int x1)] [] (G, F, I, J) b post px ↔ ip_WP 168 41 [some (.ref x0), some (.int x1)] [.ref x0] (G, F, I, J) b post px := ip_nx_iff ((ip_st_of f168_40).trans rfl)
theorem f168_41 : ip_fetch 168 41 = some (.sipush 258, 3) := by decide +kernel
theorem s168_41 {x0 : Nat} {x1 : Int32} {s0 : Nat} : ip_WP 168 41 [some (.ref x0), some (.int x1)] [.ref s0] (G, F, I, J) b post px ↔ ip_WP 168 44 [some (.ref x0), some (.int x1)] [.int 258, .ref s0] (G, F, I, J) b post px := ip_s_sipush f168_41 (by decide)
theorem f168_44 : ip_fetch 168 44 = some (.invokevirtual 118, 3) := by decide +kernel
set_option maxRecDepth 100000 in
theorem s168_44 {x0 : Nat} {x1 : Int32} {s0 : Nat} {s1 : Int32} : ip_WP 168 44 [some (.ref x0), some (.int x1)] [.int s1, .ref s0] (G, F, I, J) b post px ↔ (ip_isO G s0 8 = true ∧ ip_WP 178 0 [some (.ref s0), some (.int s1)] [] (G, F, I, J) (0, 0) (fun r h' => ip_WP 168 47 [some (.ref x0), some (.int x1)] (r.toList ++ []) h' b post px) (fun _ _ => False)) := ip_ck_iff (x := ip_cl 178 [some (.ref s0), some (.int s1)] [] (0, 0) b) ((ip_st_of f168_44).trans rfl) (ip_cl_iff)
theorem f168_47 : ip_fetch 168 47 = some (.ireturn, 1) := by decide +kernel
theorem s168_47 {x0 : Nat} {x1 : Int32} {s0 : Int32} : ip_WP 168 47 [some (.ref x0), some (.int x1)] [.int s0] (G, F, I, J) b post px ↔ post (some (.int s0)) (G, F, I, J) := ip_rt_iff ((ip_st_of f168_47).trans rfl)
theorem f168_48 : ip_fetch 168 48 = some (.aload_n 0, 1) := by decide +kernel
theorem s168_48 {x0 : Nat} {x1 : Int32} : ip_WP 168 48 [some (.ref x0), some (.int x1)] [] (G, F, I, J) b post px ↔ ip_WP 168 49 [some (.ref x0), some (.int x1)] [.ref x0] (G, F, I, J) b post px := ip_nx_iff ((ip_st_of f168_48).trans rfl)
theorem f168_49 : ip_fetch 168 49 = some (.invokevirtual 121, 3) := by decide +kernel
set_option maxRecDepth 100000 in
theorem s168_49 {x0 : Nat} {x1 : Int32} {s0 : Nat} : ip_WP 168 49 [some (.ref x0), some (.int x1)] [.ref s0] (G, F, I, J) b post px ↔ (ip_isO G s0 8 = true ∧ ip_WP 181 0 [some (.ref s0), none] [] (G, F, I, J) (0, 0) (fun r h' => ip_WP 168 52 [some (.ref x0), some (.int x1)] (r.toList ++ []) h' b post px) (fun _ _ => False)) := ip_ck_iff (x := ip_cl 181 [some (.ref s0), none] [] (0, 0) b) ((ip_st_of f168_49).trans rfl) (ip_cl_iff)
theorem f168_52 : ip_fetch 168 52 = some (.ireturn, 1) := by decide +kernel
theorem s168_52 {x0 : Nat} {x1 : Int32} {s0 : Int32} : ip_WP 168 52 [some (.ref x0), some (.int x1)] [.int s0] (G, F, I, J) b post px ↔ post (some (.int s0)) (G, F, I, J) := ip_rt_iff ((ip_st_of f168_52).trans rfl)
theorem f168_53 : ip_fetch 168 53 = some (.aload_n 0, 1) := by decide +kernel
theorem s168_53 {x0 : Nat} {x1 : Int32} : ip_WP 168 53 [some (.ref x0), some (.int x1)] [] (G, F, I, J) b post px ↔ ip_WP 168 54 [some (.ref x0), some (.int x1)] [.ref x0] (G, F, I, J) b post px := ip_nx_iff ((ip_st_of f168_53).trans rfl)
theorem f168_54 : ip_fetch 168 54 = some (.iconst 2, 1) := by decide +kernel
theorem s168_54 {x0 : Nat} {x1 : Int32} {s0 : Nat} : ip_WP 168 54 [some (.ref x0), some (.int x1)] [.ref s0] (G, F, I, J) b post px ↔ ip_WP 168 55 [some (.ref x0), some (.int x1)] [.int 2, .ref s0] (G, F, I, J) b post px := ip_s_iconst f168_54 (by decide)
theorem f168_55 : ip_fetch 168 55 = some (.invokevirtual 110, 3) := by decide +kernel
set_option maxRecDepth 100000 in
theorem s168_55 {x0 : Nat} {x1 : Int32} {s0 : Nat} {s1 : Int32} : ip_WP 168 55 [some (.ref x0), some (.int x1)] [.int s1, .ref s0] (G, F, I, J) b post px ↔ (ip_isO G s0 8 = true ∧ ip_WP 177 0 [some (.ref s0), some (.int s1)] [] (G, F, I, J) (0, 0) (fun r h' => ip_WP 168 58 [some (.ref x0), some (.int x1)] (r.toList ++ []) h' b post px) (fun _ _ => False)) := ip_ck_iff (x := ip_cl 177 [some (.ref s0), some (.int s1)] [] (0, 0) b) ((ip_st_of f168_55).trans rfl) (ip_cl_iff)
theorem f168_58 : ip_fetch 168 58 = some (.ireturn, 1) := by decide +kernel
theorem s168_58 {x0 : Nat} {x1 : Int32} {s0 : Int32} : ip_WP 168 58 [some (.ref x0), some (.int x1)] [.int s0] (G, F, I, J) b post px ↔ post (some (.int s0)) (G, F, I, J) := ip_rt_iff ((ip_st_of f168_58).trans rfl)
theorem f169_0 : ip_fetch 169 0 = some (.iload_n 1, 1) := by decide +kernel
theorem s169_0 {x0 : Nat} {x1 : Int32} : ip_WP 169 0 [some (.ref x0), some (.int x1)] [] (G, F, I, J) b post px ↔ ip_WP 169 1 [some (.ref x0), some (.int x1)] [.int x1] (G, F, I, J) b post px := ip_nx_iff ((ip_st_of f169_0).trans rfl)
-- switch 169 1
theorem f169_1 : ip_fetch 169 1 = some (.tableswitch 60 0 2 #[27, 39, 46], 27) := by decide +kernel
theorem s169_1 {x0 : Nat} {x1 : Int32} {s0 : Int32} : ip_WP 169 1 [some (.ref x0), some (.int x1)] [.int s0] (G, F, I, J) b post px ↔ if s0 = 0 then ip_WP 169 28 [some (.ref x0), some (.int x1)] [] (G, F, I, J) b post px else if s0 = 1 then ip_WP 169 40 [some (.ref x0), some (.int x1)] [] (G, F, I, J) b post px else if s0 = 2 then ip_WP 169 47 [some (.ref x0), some (.int x1)] [] (G, F, I, J) b post px else ip_WP 169 61 [some (.ref x0), some (.int x1)] [] (G, F, I, J) b post px := by
  by_cases h0 : s0 = 0
  · subst h0
    rw [if_pos rfl]
    exact ip_nx_iff ((ip_st_of f169_1).trans rfl)
  rw [if_neg h0]
  by_cases h1 : s0 = 1
  · subst h1
    rw [if_pos rfl]
    exact ip_nx_iff ((ip_st_of f169_1).trans rfl)
  rw [if_neg h1]
  by_cases h2 : s0 = 2
  · subst h2
    rw [if_pos rfl]
    exact ip_nx_iff ((ip_st_of f169_1).trans rfl)
  rw [if_neg h2]
  have g0 := lv_neT (a := 0) h0 (by decide)
  have g1 := lv_neT (a := 1) h1 (by decide)
  have g2 := lv_neT (a := 2) h2 (by decide)
  exact ip_s_tsd f169_1 (by omega) rfl rfl
theorem f169_28 : ip_fetch 169 28 = some (.aload_n 0, 1) := by decide +kernel
theorem s169_28 {x0 : Nat} {x1 : Int32} : ip_WP 169 28 [some (.ref x0), some (.int x1)] [] (G, F, I, J) b post px ↔ ip_WP 169 29 [some (.ref x0), some (.int x1)] [.ref x0] (G, F, I, J) b post px := ip_nx_iff ((ip_st_of f169_28).trans rfl)
theorem f169_29 : ip_fetch 169 29 = some (.aload_n 0, 1) := by decide +kernel
theorem s169_29 {x0 : Nat} {x1 : Int32} {s0 : Nat} : ip_WP 169 29 [some (.ref x0), some (.int x1)] [.ref s0] (G, F, I, J) b post px ↔ ip_WP 169 30 [some (.ref x0), some (.int x1)] [.ref x0, .ref s0] (G, F, I, J) b post px := ip_nx_iff ((ip_st_of f169_29).trans rfl)
theorem f169_30 : ip_fetch 169 30 = some (.getfield 15, 3) := by decide +kernel
set_option maxRecDepth 100000 in
theorem s169_30 {x0 : Nat} {x1 : Int32} {s0 : Nat} {s1 : Nat} : ip_WP 169 30 [some (.ref x0), some (.int x1)] [.ref s1, .ref s0] (G, F, I, J) b post px ↔ (ip_isO G s1 8 = true ∧ ip_WP 169 33 [some (.ref x0), some (.int x1)] [F s1 1, .ref s0] (G, F, I, J) b post px) := ip_s_getf f169_30 (by decide +kernel)
theorem f169_33 : ip_fetch 169 33 = some (.getfield 124, 3) := by decide +kernel
set_option maxRecDepth 100000 in
theorem s169_33 {x0 : Nat} {x1 : Int32} {s0 : Nat} {s1 : Nat} : ip_WP 169 33 [some (.ref x0), some (.int x1)] [.ref s1, .ref s0] (G, F, I, J) b post px ↔ (ip_isO G s1 3 = true ∧ ip_WP 169 36 [some (.ref x0), some (.int x1)] [F s1 4, .ref s0] (G, F, I, J) b post px) := ip_s_getf f169_33 (by decide +kernel)
theorem f169_36 : ip_fetch 169 36 = some (.invokevirtual 128, 3) := by decide +kernel
set_option maxRecDepth 100000 in
theorem s169_36 {x0 : Nat} {x1 : Int32} {s0 : Nat} {s1 : Nat} : ip_WP 169 36 [some (.ref x0), some (.int x1)] [.ref s1, .ref s0] (G, F, I, J) b post px ↔ (ip_isO G s0 8 = true ∧ ip_WP 182 0 [some (.ref s0), some (.ref s1), none] [] (G, F, I, J) (0, 0) (fun r h' => ip_WP 169 39 [some (.ref x0), some (.int x1)] (r.toList ++ []) h' b post px) (fun _ _ => False)) := ip_ck_iff (x := ip_cl 182 [some (.ref s0), some (.ref s1), none] [] (0, 0) b) ((ip_st_of f169_36).trans rfl) (ip_cl_iff)
theorem f169_39 : ip_fetch 169 39 = some (.ireturn, 1) := by decide +kernel
theorem s169_39 {x0 : Nat} {x1 : Int32} {s0 : Int32} : ip_WP 169 39 [some (.ref x0), some (.int x1)] [.int s0] (G, F, I, J) b post px ↔ post (some (.int s0)) (G, F, I, J) := ip_rt_iff ((ip_st_of f169_39).trans rfl)
theorem f169_40 : ip_fetch 169 40 = some (.aload_n 0, 1) := by decide +kernel
theorem s169_40 {x0 : Nat} {x1 : Int32} : ip_WP 169 40 [some (.ref x0), some (.int x1)] [] (G, F, I, J) b post px ↔ ip_WP 169 41 [some (.ref x0), some (.int x1)] [.ref x0] (G, F, I, J) b post px := ip_nx_iff ((ip_st_of f169_40).trans rfl)
theorem f169_41 : ip_fetch 169 41 = some (.bipush 61, 2) := by decide +kernel
theorem s169_41 {x0 : Nat} {x1 : Int32} {s0 : Nat} : ip_WP 169 41 [some (.ref x0), some (.int x1)] [.ref s0] (G, F, I, J) b post px ↔ ip_WP 169 43 [some (.ref x0), some (.int x1)] [.int 61, .ref s0] (G, F, I, J) b post px := ip_s_bipush f169_41 (by decide)
theorem f169_43 : ip_fetch 169 43 = some (.invokevirtual 132, 3) := by decide +kernel
set_option maxRecDepth 100000 in
theorem s169_43 {x0 : Nat} {x1 : Int32} {s0 : Nat} {s1 : Int32} : ip_WP 169 43 [some (.ref x0), some (.int x1)] [.int s1, .ref s0] (G, F, I, J) b post px ↔ (ip_isO G s0 8 = true ∧ ip_WP 175 0 [some (.ref s0), some (.int s1)] [] (G, F, I, J) (0, 0) (fun r h' => ip_WP 169 46 [some (.ref x0), some (.int x1)] (r.toList ++ []) h' b post px) (fun _ _ => False)) := ip_ck_iff (x := ip_cl 175 [some (.ref s0), some (.int s1)] [] (0, 0) b) ((ip_st_of f169_43).trans rfl) (ip_cl_iff)
theorem f169_46 : ip_fetch 169 46 = some (.ireturn, 1) := by decide +kernel
theorem s169_46 {x0 : Nat} {x1 : Int32} {s0 : Int32} : ip_WP 169 46 [some (.ref x0), some (.int x1)] [.int s0] (G, F, I, J) b post px ↔ post (some (.int s0)) (G, F, I, J) := ip_rt_iff ((ip_st_of f169_46).trans rfl)
theorem f169_47 : ip_fetch 169 47 = some (.aload_n 0, 1) := by decide +kernel
theorem s169_47 {x0 : Nat} {x1 : Int32} : ip_WP 169 47 [some (.ref x0), some (.int x1)] [] (G, F, I, J) b post px ↔ ip_WP 169 48 [some (.ref x0), some (.int x1)] [.ref x0] (G, F, I, J) b post px := ip_nx_iff ((ip_st_of f169_47).trans rfl)
theorem f169_48 : ip_fetch 169 48 = some (.aload_n 0, 1) := by decide +kernel
theorem s169_48 {x0 : Nat} {x1 : Int32} {s0 : Nat} : ip_WP 169 48 [some (.ref x0), some (.int x1)] [.ref s0] (G, F, I, J) b post px ↔ ip_WP 169 49 [some (.ref x0), some (.int x1)] [.ref x0, .ref s0] (G, F, I, J) b post px := ip_nx_iff ((ip_st_of f169_48).trans rfl)
theorem f169_49 : ip_fetch 169 49 = some (.getfield 15, 3) := by decide +kernel
set_option maxRecDepth 100000 in
theorem s169_49 {x0 : Nat} {x1 : Int32} {s0 : Nat} {s1 : Nat} : ip_WP 169 49 [some (.ref x0), some (.int x1)] [.ref s1, .ref s0] (G, F, I, J) b post px ↔ (ip_isO G s1 8 = true ∧ ip_WP 169 52 [some (.ref x0), some (.int x1)] [F s1 1, .ref s0] (G, F, I, J) b post px) := ip_s_getf f169_49 (by decide +kernel)
theorem f169_52 : ip_fetch 169 52 = some (.getfield 124, 3) := by decide +kernel
set_option maxRecDepth 100000 in
theorem s169_52 {x0 : Nat} {x1 : Int32} {s0 : Nat} {s1 : Nat} : ip_WP 169 52 [some (.ref x0), some (.int x1)] [.ref s1, .ref s0] (G, F, I, J) b post px ↔ (ip_isO G s1 3 = true ∧ ip_WP 169 55 [some (.ref x0), some (.int x1)] [F s1 4, .ref s0] (G, F, I, J) b post px) := ip_s_getf f169_52 (by decide +kernel)
theorem f169_55 : ip_fetch 169 55 = some (.bipush 99, 2) := by decide +kernel
theorem s169_55 {x0 : Nat} {x1 : Int32} {s0 : Nat} {s1 : Nat} : ip_WP 169 55 [some (.ref x0), some (.int x1)] [.ref s1, .ref s0] (G, F, I, J) b post px ↔ ip_WP 169 57 [some (.ref x0), some (.int x1)] [.int 99, .ref s1, .ref s0] (G, F, I, J) b post px := ip_s_bipush f169_55 (by decide)
theorem f169_57 : ip_fetch 169 57 = some (.invokevirtual 135, 3) := by decide +kernel
set_option maxRecDepth 100000 in
theorem s169_57 {x0 : Nat} {x1 : Int32} {s0 : Nat} {s1 : Nat} {s2 : Int32} : ip_WP 169 57 [some (.ref x0), some (.int x1)] [.int s2, .ref s1, .ref s0] (G, F, I, J) b post px ↔ (ip_isO G s0 8 = true ∧ ip_WP 183 0 [some (.ref s0), some (.ref s1), some (.int s2)] [] (G, F, I, J) (0, 0) (fun r h' => ip_WP 169 60 [some (.ref x0), some (.int x1)] (r.toList ++ []) h' b post px) (fun _ _ => False)) := ip_ck_iff (x := ip_cl 183 [some (.ref s0), some (.ref s1), some (.int s2)] [] (0, 0) b) ((ip_st_of f169_57).trans rfl) (ip_cl_iff)
theorem f169_60 : ip_fetch 169 60 = some (.ireturn, 1) := by decide +kernel
theorem s169_60 {x0 : Nat} {x1 : Int32} {s0 : Int32} : ip_WP 169 60 [some (.ref x0), some (.int x1)] [.int s0] (G, F, I, J) b post px ↔ post (some (.int s0)) (G, F, I, J) := ip_rt_iff ((ip_st_of f169_60).trans rfl)
theorem f169_61 : ip_fetch 169 61 = some (.aload_n 0, 1) := by decide +kernel
theorem s169_61 {x0 : Nat} {x1 : Int32} : ip_WP 169 61 [some (.ref x0), some (.int x1)] [] (G, F, I, J) b post px ↔ ip_WP 169 62 [some (.ref x0), some (.int x1)] [.ref x0] (G, F, I, J) b post px := ip_nx_iff ((ip_st_of f169_61).trans rfl)
theorem f169_62 : ip_fetch 169 62 = some (.invokevirtual 139, 3) := by decide +kernel
set_option maxRecDepth 100000 in
theorem s169_62 {x0 : Nat} {x1 : Int32} {s0 : Nat} : ip_WP 169 62 [some (.ref x0), some (.int x1)] [.ref s0] (G, F, I, J) b post px ↔ (ip_isO G s0 8 = true ∧ ip_WP 176 0 [some (.ref s0)] [] (G, F, I, J) (0, 0) (fun r h' => ip_WP 169 65 [some (.ref x0), some (.int x1)] (r.toList ++ []) h' b post px) (fun _ _ => False)) := ip_ck_iff (x := ip_cl 176 [some (.ref s0)] [] (0, 0) b) ((ip_st_of f169_62).trans rfl) (ip_cl_iff)
theorem f169_65 : ip_fetch 169 65 = some (.ireturn, 1) := by decide +kernel
theorem s169_65 {x0 : Nat} {x1 : Int32} {s0 : Int32} : ip_WP 169 65 [some (.ref x0), some (.int x1)] [.int s0] (G, F, I, J) b post px ↔ post (some (.int s0)) (G, F, I, J) := ip_rt_iff ((ip_st_of f169_65).trans rfl)
theorem f170_0 : ip_fetch 170 0 = some (.iload_n 1, 1) := by decide +kernel
theorem s170_0 {x0 : Nat} {x1 : Int32} : ip_WP 170 0 [some (.ref x0), some (.int x1)] [] (G, F, I, J) b post px ↔ ip_WP 170 1 [some (.ref x0), some (.int x1)] [.int x1] (G, F, I, J) b post px := ip_nx_iff ((ip_st_of f170_0).trans rfl)
-- switch 170 1
theorem f170_1 : ip_fetch 170 1 = some (.tableswitch 58 0 2 #[27, 39, 46], 27) := by decide +kernel
theorem s170_1 {x0 : Nat} {x1 : Int32} {s0 : Int32} : ip_WP 170 1 [some (.ref x0), some (.int x1)] [.int s0] (G, F, I, J) b post px ↔ if s0 = 0 then ip_WP 170 28 [some (.ref x0), some (.int x1)] [] (G, F, I, J) b post px else if s0 = 1 then ip_WP 170 40 [some (.ref x0), some (.int x1)] [] (G, F, I, J) b post px else if s0 = 2 then ip_WP 170 47 [some (.ref x0), some (.int x1)] [] (G, F, I, J) b post px else ip_WP 170 59 [some (.ref x0), some (.int x1)] [] (G, F, I, J) b post px := by
  by_cases h0 : s0 = 0
  · subst h0
    rw [if_pos rfl]
    exact ip_nx_iff ((ip_st_of f170_1).trans rfl)
  rw [if_neg h0]
  by_cases h1 : s0 = 1
  · subst h1
    rw [if_pos rfl]
    exact ip_nx_iff ((ip_st_of f170_1).trans rfl)
  rw [if_neg h1]
  by_cases h2 : s0 = 2
  · subst h2
    rw [if_pos rfl]
    exact ip_nx_iff ((ip_st_of f170_1).trans rfl)
  rw [if_neg h2]
  have g0 := lv_neT (a := 0) h0 (by decide)
  have g1 := lv_neT (a := 1) h1 (by decide)
  have g2 := lv_neT (a := 2) h2 (by decide)
  exact ip_s_tsd f170_1 (by omega) rfl rfl
theorem f170_28 : ip_fetch 170 28 = some (.aload_n 0, 1) := by decide +kernel
theorem s170_28 {x0 : Nat} {x1 : Int32} : ip_WP 170 28 [some (.ref x0), some (.int x1)] [] (G, F, I, J) b post px ↔ ip_WP 170 29 [some (.ref x0), some (.int x1)] [.ref x0] (G, F, I, J) b post px := ip_nx_iff ((ip_st_of f170_28).trans rfl)
theorem f170_29 : ip_fetch 170 29 = some (.aload_n 0, 1) := by decide +kernel
theorem s170_29 {x0 : Nat} {x1 : Int32} {s0 : Nat} : ip_WP 170 29 [some (.ref x0), some (.int x1)] [.ref s0] (G, F, I, J) b post px ↔ ip_WP 170 30 [some (.ref x0), some (.int x1)] [.ref x0, .ref s0] (G, F, I, J) b post px := ip_nx_iff ((ip_st_of f170_29).trans rfl)
theorem f170_30 : ip_fetch 170 30 = some (.getfield 15, 3) := by decide +kernel
set_option maxRecDepth 100000 in
theorem s170_30 {x0 : Nat} {x1 : Int32} {s0 : Nat} {s1 : Nat} : ip_WP 170 30 [some (.ref x0), some (.int x1)] [.ref s1, .ref s0] (G, F, I, J) b post px ↔ (ip_isO G s1 8 = true ∧ ip_WP 170 33 [some (.ref x0), some (.int x1)] [F s1 1, .ref s0] (G, F, I, J) b post px) := ip_s_getf f170_30 (by decide +kernel)
theorem f170_33 : ip_fetch 170 33 = some (.getfield 142, 3) := by decide +kernel
set_option maxRecDepth 100000 in
theorem s170_33 {x0 : Nat} {x1 : Int32} {s0 : Nat} {s1 : Nat} : ip_WP 170 33 [some (.ref x0), some (.int x1)] [.ref s1, .ref s0] (G, F, I, J) b post px ↔ (ip_isO G s1 3 = true ∧ ip_WP 170 36 [some (.ref x0), some (.int x1)] [F s1 5, .ref s0] (G, F, I, J) b post px) := ip_s_getf f170_33 (by decide +kernel)
theorem f170_36 : ip_fetch 170 36 = some (.invokevirtual 128, 3) := by decide +kernel
set_option maxRecDepth 100000 in
theorem s170_36 {x0 : Nat} {x1 : Int32} {s0 : Nat} {s1 : Nat} : ip_WP 170 36 [some (.ref x0), some (.int x1)] [.ref s1, .ref s0] (G, F, I, J) b post px ↔ (ip_isO G s0 8 = true ∧ ip_WP 182 0 [some (.ref s0), some (.ref s1), none] [] (G, F, I, J) (0, 0) (fun r h' => ip_WP 170 39 [some (.ref x0), some (.int x1)] (r.toList ++ []) h' b post px) (fun _ _ => False)) := ip_ck_iff (x := ip_cl 182 [some (.ref s0), some (.ref s1), none] [] (0, 0) b) ((ip_st_of f170_36).trans rfl) (ip_cl_iff)
theorem f170_39 : ip_fetch 170 39 = some (.ireturn, 1) := by decide +kernel
theorem s170_39 {x0 : Nat} {x1 : Int32} {s0 : Int32} : ip_WP 170 39 [some (.ref x0), some (.int x1)] [.int s0] (G, F, I, J) b post px ↔ post (some (.int s0)) (G, F, I, J) := ip_rt_iff ((ip_st_of f170_39).trans rfl)
theorem f170_40 : ip_fetch 170 40 = some (.aload_n 0, 1) := by decide +kernel
theorem s170_40 {x0 : Nat} {x1 : Int32} : ip_WP 170 40 [some (.ref x0), some (.int x1)] [] (G, F, I, J) b post px ↔ ip_WP 170 41 [some (.ref x0), some (.int x1)] [.ref x0] (G, F, I, J) b post px := ip_nx_iff ((ip_st_of f170_40).trans rfl)
theorem f170_41 : ip_fetch 170 41 = some (.bipush 62, 2) := by decide +kernel
theorem s170_41 {x0 : Nat} {x1 : Int32} {s0 : Nat} : ip_WP 170 41 [some (.ref x0), some (.int x1)] [.ref s0] (G, F, I, J) b post px ↔ ip_WP 170 43 [some (.ref x0), some (.int x1)] [.int 62, .ref s0] (G, F, I, J) b post px := ip_s_bipush f170_41 (by decide)
theorem f170_43 : ip_fetch 170 43 = some (.invokevirtual 132, 3) := by decide +kernel
set_option maxRecDepth 100000 in
theorem s170_43 {x0 : Nat} {x1 : Int32} {s0 : Nat} {s1 : Int32} : ip_WP 170 43 [some (.ref x0), some (.int x1)] [.int s1, .ref s0] (G, F, I, J) b post px ↔ (ip_isO G s0 8 = true ∧ ip_WP 175 0 [some (.ref s0), some (.int s1)] [] (G, F, I, J) (0, 0) (fun r h' => ip_WP 170 46 [some (.ref x0), some (.int x1)] (r.toList ++ []) h' b post px) (fun _ _ => False)) := ip_ck_iff (x := ip_cl 175 [some (.ref s0), some (.int s1)] [] (0, 0) b) ((ip_st_of f170_43).trans rfl) (ip_cl_iff)
theorem f170_46 : ip_fetch 170 46 = some (.ireturn, 1) := by decide +kernel
theorem s170_46 {x0 : Nat} {x1 : Int32} {s0 : Int32} : ip_WP 170 46 [some (.ref x0), some (.int x1)] [.int s0] (G, F, I, J) b post px ↔ post (some (.int s0)) (G, F, I, J) := ip_rt_iff ((ip_st_of f170_46).trans rfl)
theorem f170_47 : ip_fetch 170 47 = some (.aload_n 0, 1) := by decide +kernel
theorem s170_47 {x0 : Nat} {x1 : Int32} : ip_WP 170 47 [some (.ref x0), some (.int x1)] [] (G, F, I, J) b post px ↔ ip_WP 170 48 [some (.ref x0), some (.int x1)] [.ref x0] (G, F, I, J) b post px := ip_nx_iff ((ip_st_of f170_47).trans rfl)
theorem f170_48 : ip_fetch 170 48 = some (.aload_n 0, 1) := by decide +kernel
theorem s170_48 {x0 : Nat} {x1 : Int32} {s0 : Nat} : ip_WP 170 48 [some (.ref x0), some (.int x1)] [.ref s0] (G, F, I, J) b post px ↔ ip_WP 170 49 [some (.ref x0), some (.int x1)] [.ref x0, .ref s0] (G, F, I, J) b post px := ip_nx_iff ((ip_st_of f170_48).trans rfl)
theorem f170_49 : ip_fetch 170 49 = some (.getfield 15, 3) := by decide +kernel
set_option maxRecDepth 100000 in
theorem s170_49 {x0 : Nat} {x1 : Int32} {s0 : Nat} {s1 : Nat} : ip_WP 170 49 [some (.ref x0), some (.int x1)] [.ref s1, .ref s0] (G, F, I, J) b post px ↔ (ip_isO G s1 8 = true ∧ ip_WP 170 52 [some (.ref x0), some (.int x1)] [F s1 1, .ref s0] (G, F, I, J) b post px) := ip_s_getf f170_49 (by decide +kernel)
theorem f170_52 : ip_fetch 170 52 = some (.getfield 142, 3) := by decide +kernel
set_option maxRecDepth 100000 in
theorem s170_52 {x0 : Nat} {x1 : Int32} {s0 : Nat} {s1 : Nat} : ip_WP 170 52 [some (.ref x0), some (.int x1)] [.ref s1, .ref s0] (G, F, I, J) b post px ↔ (ip_isO G s1 3 = true ∧ ip_WP 170 55 [some (.ref x0), some (.int x1)] [F s1 5, .ref s0] (G, F, I, J) b post px) := ip_s_getf f170_52 (by decide +kernel)
theorem f170_55 : ip_fetch 170 55 = some (.invokevirtual 145, 3) := by decide +kernel
set_option maxRecDepth 100000 in
theorem s170_55 {x0 : Nat} {x1 : Int32} {s0 : Nat} {s1 : Nat} : ip_WP 170 55 [some (.ref x0), some (.int x1)] [.ref s1, .ref s0] (G, F, I, J) b post px ↔ (ip_isO G s0 8 = true ∧ ip_WP 184 0 [some (.ref s0), some (.ref s1), none] [] (G, F, I, J) (0, 0) (fun r h' => ip_WP 170 58 [some (.ref x0), some (.int x1)] (r.toList ++ []) h' b post px) (fun _ _ => False)) := ip_ck_iff (x := ip_cl 184 [some (.ref s0), some (.ref s1), none] [] (0, 0) b) ((ip_st_of f170_55).trans rfl) (ip_cl_iff)
theorem f170_58 : ip_fetch 170 58 = some (.ireturn, 1) := by decide +kernel
theorem s170_58 {x0 : Nat} {x1 : Int32} {s0 : Int32} : ip_WP 170 58 [some (.ref x0), some (.int x1)] [.int s0] (G, F, I, J) b post px ↔ post (some (.int s0)) (G, F, I, J) := ip_rt_iff ((ip_st_of f170_58).trans rfl)
theorem f170_59 : ip_fetch 170 59 = some (.aload_n 0, 1) := by decide +kernel
theorem s170_59 {x0 : Nat} {x1 : Int32} : ip_WP 170 59 [some (.ref x0), some (.int x1)] [] (G, F, I, J) b post px ↔ ip_WP 170 60 [some (.ref x0), some (.int x1)] [.ref x0] (G, F, I, J) b post px := ip_nx_iff ((ip_st_of f170_59).trans rfl)
theorem f170_60 : ip_fetch 170 60 = some (.invokevirtual 139, 3) := by decide +kernel
set_option maxRecDepth 100000 in
theorem s170_60 {x0 : Nat} {x1 : Int32} {s0 : Nat} : ip_WP 170 60 [some (.ref x0), some (.int x1)] [.ref s0] (G, F, I, J) b post px ↔ (ip_isO G s0 8 = true ∧ ip_WP 176 0 [some (.ref s0)] [] (G, F, I, J) (0, 0) (fun r h' => ip_WP 170 63 [some (.ref x0), some (.int x1)] (r.toList ++ []) h' b post px) (fun _ _ => False)) := ip_ck_iff (x := ip_cl 176 [some (.ref s0)] [] (0, 0) b) ((ip_st_of f170_60).trans rfl) (ip_cl_iff)
theorem f170_63 : ip_fetch 170 63 = some (.ireturn, 1) := by decide +kernel
theorem s170_63 {x0 : Nat} {x1 : Int32} {s0 : Int32} : ip_WP 170 63 [some (.ref x0), some (.int x1)] [.int s0] (G, F, I, J) b post px ↔ post (some (.int s0)) (G, F, I, J) := ip_rt_iff ((ip_st_of f170_63).trans rfl)
theorem f171_0 : ip_fetch 171 0 = some (.iload_n 1, 1) := by decide +kernel
theorem s171_0 {x0 : Nat} {x1 : Int32} : ip_WP 171 0 [some (.ref x0), some (.int x1)] [] (G, F, I, J) b post px ↔ ip_WP 171 1 [some (.ref x0), some (.int x1)] [.int x1] (G, F, I, J) b post px := ip_nx_iff ((ip_st_of f171_0).trans rfl)
-- switch 171 1
theorem f171_1 : ip_fetch 171 1 = some (.tableswitch 44 0 2 #[27, 32, 39], 27) := by decide +kernel
theorem s171_1 {x0 : Nat} {x1 : Int32} {s0 : Int32} : ip_WP 171 1 [some (.ref x0), some (.int x1)] [.int s0] (G, F, I, J) b post px ↔ if s0 = 0 then ip_WP 171 28 [some (.ref x0), some (.int x1)] [] (G, F, I, J) b post px else if s0 = 1 then ip_WP 171 33 [some (.ref x0), some (.int x1)] [] (G, F, I, J) b post px else if s0 = 2 then ip_WP 171 40 [some (.ref x0), some (.int x1)] [] (G, F, I, J) b post px else ip_WP 171 45 [some (.ref x0), some (.int x1)] [] (G, F, I, J) b post px := by
  by_cases h0 : s0 = 0
  · subst h0
    rw [if_pos rfl]
    exact ip_nx_iff ((ip_st_of f171_1).trans rfl)
  rw [if_neg h0]
  by_cases h1 : s0 = 1
  · subst h1
    rw [if_pos rfl]
    exact ip_nx_iff ((ip_st_of f171_1).trans rfl)
  rw [if_neg h1]
  by_cases h2 : s0 = 2
  · subst h2
    rw [if_pos rfl]
    exact ip_nx_iff ((ip_st_of f171_1).trans rfl)
  rw [if_neg h2]
  have g0 := lv_neT (a := 0) h0 (by decide)
  have g1 := lv_neT (a := 1) h1 (by decide)
  have g2 := lv_neT (a := 2) h2 (by decide)
  exact ip_s_tsd f171_1 (by omega) rfl rfl
theorem f171_28 : ip_fetch 171 28 = some (.aload_n 0, 1) := by decide +kernel
theorem s171_28 {x0 : Nat} {x1 : Int32} : ip_WP 171 28 [some (.ref x0), some (.int x1)] [] (G, F, I, J) b post px ↔ ip_WP 171 29 [some (.ref x0), some (.int x1)] [.ref x0] (G, F, I, J) b post px := ip_nx_iff ((ip_st_of f171_28).trans rfl)
theorem f171_29 : ip_fetch 171 29 = some (.invokevirtual 148, 3) := by decide +kernel
set_option maxRecDepth 100000 in
theorem s171_29 {x0 : Nat} {x1 : Int32} {s0 : Nat} : ip_WP 171 29 [some (.ref x0), some (.int x1)] [.ref s0] (G, F, I, J) b post px ↔ (ip_isO G s0 8 = true ∧ ip_WP 185 0 [some (.ref s0), none] [] (G, F, I, J) (0, 0) (fun r h' => ip_WP 171 32 [some (.ref x0), some (.int x1)] (r.toList ++ []) h' b post px) (fun _ _ => False)) := ip_ck_iff (x := ip_cl 185 [some (.ref s0), none] [] (0, 0) b) ((ip_st_of f171_29).trans rfl) (ip_cl_iff)
theorem f171_32 : ip_fetch 171 32 = some (.ireturn, 1) := by decide +kernel
theorem s171_32 {x0 : Nat} {x1 : Int32} {s0 : Int32} : ip_WP 171 32 [some (.ref x0), some (.int x1)] [.int s0] (G, F, I, J) b post px ↔ post (some (.int s0)) (G, F, I, J) := ip_rt_iff ((ip_st_of f171_32).trans rfl)
theorem f171_33 : ip_fetch 171 33 = some (.aload_n 0, 1) := by decide +kernel
theorem s171_33 {x0 : Nat} {x1 : Int32} : ip_WP 171 33 [some (.ref x0), some (.int x1)] [] (G, F, I, J) b post px ↔ ip_WP 171 34 [some (.ref x0), some (.int x1)] [.ref x0] (G, F, I, J) b post px := ip_nx_iff ((ip_st_of f171_33).trans rfl)
theorem f171_34 : ip_fetch 171 34 = some (.bipush 62, 2) := by decide +kernel
theorem s171_34 {x0 : Nat} {x1 : Int32} {s0 : Nat} : ip_WP 171 34 [some (.ref x0), some (.int x1)] [.ref s0] (G, F, I, J) b post px ↔ ip_WP 171 36 [some (.ref x0), some (.int x1)] [.int 62, .ref s0] (G, F, I, J) b post px := ip_s_bipush f171_34 (by decide)
theorem f171_36 : ip_fetch 171 36 = some (.invokevirtual 132, 3) := by decide +kernel
set_option maxRecDepth 100000 in
theorem s171_36 {x0 : Nat} {x1 : Int32} {s0 : Nat} {s1 : Int32} : ip_WP 171 36 [some (.ref x0), some (.int x1)] [.int s1, .ref s0] (G, F, I, J) b post px ↔ (ip_isO G s0 8 = true ∧ ip_WP 175 0 [some (.ref s0), some (.int s1)] [] (G, F, I, J) (0, 0) (fun r h' => ip_WP 171 39 [some (.ref x0), some (.int x1)] (r.toList ++ []) h' b post px) (fun _ _ => False)) := ip_ck_iff (x := ip_cl 175 [some (.ref s0), some (.int s1)] [] (0, 0) b) ((ip_st_of f171_36).trans rfl) (ip_cl_iff)
theorem f171_39 : ip_fetch 171 39 = some (.ireturn, 1) := by decide +kernel
theorem s171_39 {x0 : Nat} {x1 : Int32} {s0 : Int32} : ip_WP 171 39 [some (.ref x0), some (.int x1)] [.int s0] (G, F, I, J) b post px ↔ post (some (.int s0)) (G, F, I, J) := ip_rt_iff ((ip_st_of f171_39).trans rfl)
theorem f171_40 : ip_fetch 171 40 = some (.aload_n 0, 1) := by decide +kernel
theorem s171_40 {x0 : Nat} {x1 : Int32} : ip_WP 171 40 [some (.ref x0), some (.int x1)] [] (G, F, I, J) b post px ↔ ip_WP 171 41 [some (.ref x0), some (.int x1)] [.ref x0] (G, F, I, J) b post px := ip_nx_iff ((ip_st_of f171_40).trans rfl)
theorem f171_41 : ip_fetch 171 41 = some (.invokevirtual 151, 3) := by decide +kernel
set_option maxRecDepth 100000 in
theorem s171_41 {x0 : Nat} {x1 : Int32} {s0 : Nat} : ip_WP 171 41 [some (.ref x0), some (.int x1)] [.ref s0] (G, F, I, J) b post px ↔ (ip_isO G s0 8 = true ∧ ip_WP 186 0 [some (.ref s0), none] [] (G, F, I, J) (0, 0) (fun r h' => ip_WP 171 44 [some (.ref x0), some (.int x1)] (r.toList ++ []) h' b post px) (fun _ _ => False)) := ip_ck_iff (x := ip_cl 186 [some (.ref s0), none] [] (0, 0) b) ((ip_st_of f171_41).trans rfl) (ip_cl_iff)
theorem f171_44 : ip_fetch 171 44 = some (.ireturn, 1) := by decide +kernel
theorem s171_44 {x0 : Nat} {x1 : Int32} {s0 : Int32} : ip_WP 171 44 [some (.ref x0), some (.int x1)] [.int s0] (G, F, I, J) b post px ↔ post (some (.int s0)) (G, F, I, J) := ip_rt_iff ((ip_st_of f171_44).trans rfl)
theorem f171_45 : ip_fetch 171 45 = some (.aload_n 0, 1) := by decide +kernel
theorem s171_45 {x0 : Nat} {x1 : Int32} : ip_WP 171 45 [some (.ref x0), some (.int x1)] [] (G, F, I, J) b post px ↔ ip_WP 171 46 [some (.ref x0), some (.int x1)] [.ref x0] (G, F, I, J) b post px := ip_nx_iff ((ip_st_of f171_45).trans rfl)
theorem f171_46 : ip_fetch 171 46 = some (.invokevirtual 139, 3) := by decide +kernel
set_option maxRecDepth 100000 in
theorem s171_46 {x0 : Nat} {x1 : Int32} {s0 : Nat} : ip_WP 171 46 [some (.ref x0), some (.int x1)] [.ref s0] (G, F, I, J) b post px ↔ (ip_isO G s0 8 = true ∧ ip_WP 176 0 [some (.ref s0)] [] (G, F, I, J) (0, 0) (fun r h' => ip_WP 171 49 [some (.ref x0), some (.int x1)] (r.toList ++ []) h' b post px) (fun _ _ => False)) := ip_ck_iff (x := ip_cl 176 [some (.ref s0)] [] (0, 0) b) ((ip_st_of f171_46).trans rfl) (ip_cl_iff)
theorem f171_49 : ip_fetch 171 49 = some (.ireturn, 1) := by decide +kernel
theorem s171_49 {x0 : Nat} {x1 : Int32} {s0 : Int32} : ip_WP 171 49 [some (.ref x0), some (.int x1)] [.int s0] (G, F, I, J) b post px ↔ post (some (.int s0)) (G, F, I, J) := ip_rt_iff ((ip_st_of f171_49).trans rfl)
theorem f172_0 : ip_fetch 172 0 = some (.iload_n 1, 1) := by decide +kernel
theorem s172_0 {x0 : Nat} {x1 : Int32} : ip_WP 172 0 [some (.ref x0), some (.int x1)] [] (G, F, I, J) b post px ↔ ip_WP 172 1 [some (.ref x0), some (.int x1)] [.int x1] (G, F, I, J) b post px := ip_nx_iff ((ip_st_of f172_0).trans rfl)
theorem f172_1 : ip_fetch 172 1 = some (.ifCond .ne 10, 3) := by decide +kernel
theorem s172_1 {x0 : Nat} {x1 : Int32} {s0 : Int32} : ip_WP 172 1 [some (.ref x0), some (.int x1)] [.int s0] (G, F, I, J) b post px ↔ if ¬ s0 = 0 then ip_WP 172 11 [some (.ref x0), some (.int x1)] [] (G, F, I, J) b post px else ip_WP 172 4 [some (.ref x0), some (.int x1)] [] (G, F, I, J) b post px := ip_s_if_ne f172_1 rfl
theorem f172_4 : ip_fetch 172 4 = some (.aload_n 0, 1) := by decide +kernel
theorem s172_4 {x0 : Nat} {x1 : Int32} : ip_WP 172 4 [some (.ref x0), some (.int x1)] [] (G, F, I, J) b post px ↔ ip_WP 172 5 [some (.ref x0), some (.int x1)] [.ref x0] (G, F, I, J) b post px := ip_nx_iff ((ip_st_of f172_4).trans rfl)
theorem f172_5 : ip_fetch 172 5 = some (.invokevirtual 154, 3) := by decide +kernel
set_option maxRecDepth 100000 in
theorem s172_5 {x0 : Nat} {x1 : Int32} {s0 : Nat} : ip_WP 172 5 [some (.ref x0), some (.int x1)] [.ref s0] (G, F, I, J) b post px ↔ (ip_isO G s0 8 = true ∧ ip_WP 187 0 [some (.ref s0), none] [] (G, F, I, J) (0, 0) (fun r h' => ip_WP 172 8 [some (.ref x0), some (.int x1)] (r.toList ++ []) h' b post px) (fun _ _ => False)) := ip_ck_iff (x := ip_cl 187 [some (.ref s0), none] [] (0, 0) b) ((ip_st_of f172_5).trans rfl) (ip_cl_iff)
theorem f172_8 : ip_fetch 172 8 = some (.goto 8, 3) := by decide +kernel
theorem s172_8 {x0 : Nat} {x1 : Int32} {s0 : Int32} : ip_WP 172 8 [some (.ref x0), some (.int x1)] [.int s0] (G, F, I, J) b post px ↔ ip_WP 172 16 [some (.ref x0), some (.int x1)] [.int s0] (G, F, I, J) b post px := ip_nx_iff ((ip_st_of f172_8).trans rfl)
theorem f172_11 : ip_fetch 172 11 = some (.aload_n 0, 1) := by decide +kernel
theorem s172_11 {x0 : Nat} {x1 : Int32} : ip_WP 172 11 [some (.ref x0), some (.int x1)] [] (G, F, I, J) b post px ↔ ip_WP 172 12 [some (.ref x0), some (.int x1)] [.ref x0] (G, F, I, J) b post px := ip_nx_iff ((ip_st_of f172_11).trans rfl)
theorem f172_12 : ip_fetch 172 12 = some (.iconst 0, 1) := by decide +kernel
theorem s172_12 {x0 : Nat} {x1 : Int32} {s0 : Nat} : ip_WP 172 12 [some (.ref x0), some (.int x1)] [.ref s0] (G, F, I, J) b post px ↔ ip_WP 172 13 [some (.ref x0), some (.int x1)] [.int 0, .ref s0] (G, F, I, J) b post px := ip_s_iconst f172_12 (by decide)
theorem f172_13 : ip_fetch 172 13 = some (.invokevirtual 110, 3) := by decide +kernel
set_option maxRecDepth 100000 in
theorem s172_13 {x0 : Nat} {x1 : Int32} {s0 : Nat} {s1 : Int32} : ip_WP 172 13 [some (.ref x0), some (.int x1)] [.int s1, .ref s0] (G, F, I, J) b post px ↔ (ip_isO G s0 8 = true ∧ ip_WP 177 0 [some (.ref s0), some (.int s1)] [] (G, F, I, J) (0, 0) (fun r h' => ip_WP 172 16 [some (.ref x0), some (.int x1)] (r.toList ++ []) h' b post px) (fun _ _ => False)) := ip_ck_iff (x := ip_cl 177 [some (.ref s0), some (.int s1)] [] (0, 0) b) ((ip_st_of f172_13).trans rfl) (ip_cl_iff)
theorem f172_16 : ip_fetch 172 16 = some (.ireturn, 1) := by decide +kernel
theorem s172_16 {x0 : Nat} {x1 : Int32} {s0 : Int32} : ip_WP 172 16 [some (.ref x0), some (.int x1)] [.int s0] (G, F, I, J) b post px ↔ post (some (.int s0)) (G, F, I, J) := ip_rt_iff ((ip_st_of f172_16).trans rfl)
theorem f173_0 : ip_fetch 173 0 = some (.iload_n 1, 1) := by decide +kernel
theorem s173_0 {x0 : Nat} {x1 : Int32} : ip_WP 173 0 [some (.ref x0), some (.int x1)] [] (G, F, I, J) b post px ↔ ip_WP 173 1 [some (.ref x0), some (.int x1)] [.int x1] (G, F, I, J) b post px := ip_nx_iff ((ip_st_of f173_0).trans rfl)
-- switch 173 1
theorem f173_1 : ip_fetch 173 1 = some (.tableswitch 89 0 4 #[35, 47, 54, 69, 77], 35) := by decide +kernel
theorem s173_1 {x0 : Nat} {x1 : Int32} {s0 : Int32} : ip_WP 173 1 [some (.ref x0), some (.int x1)] [.int s0] (G, F, I, J) b post px ↔ if s0 = 0 then ip_WP 173 36 [some (.ref x0), some (.int x1)] [] (G, F, I, J) b post px else if s0 = 1 then ip_WP 173 48 [some (.ref x0), some (.int x1)] [] (G, F, I, J) b post px else if s0 = 2 then ip_WP 173 55 [some (.ref x0), some (.int x1)] [] (G, F, I, J) b post px else if s0 = 3 then ip_WP 173 70 [some (.ref x0), some (.int x1)] [] (G, F, I, J) b post px else if s0 = 4 then ip_WP 173 78 [some (.ref x0), some (.int x1)] [] (G, F, I, J) b post px else ip_WP 173 90 [some (.ref x0), some (.int x1)] [] (G, F, I, J) b post px := by
  by_cases h0 : s0 = 0
  · subst h0
    rw [if_pos rfl]
    exact ip_nx_iff ((ip_st_of f173_1).trans rfl)
  rw [if_neg h0]
  by_cases h1 : s0 = 1
  · subst h1
    rw [if_pos rfl]
    exact ip_nx_iff ((ip_st_of f173_1).trans rfl)
  rw [if_neg h1]
  by_cases h2 : s0 = 2
  · subst h2
    rw [if_pos rfl]
    exact ip_nx_iff ((ip_st_of f173_1).trans rfl)
  rw [if_neg h2]
  by_cases h3 : s0 = 3
  · subst h3
    rw [if_pos rfl]
    exact ip_nx_iff ((ip_st_of f173_1).trans rfl)
  rw [if_neg h3]
  by_cases h4 : s0 = 4
  · subst h4
    rw [if_pos rfl]
    exact ip_nx_iff ((ip_st_of f173_1).trans rfl)
  rw [if_neg h4]
  have g0 := lv_neT (a := 0) h0 (by decide)
  have g1 := lv_neT (a := 1) h1 (by decide)
  have g2 := lv_neT (a := 2) h2 (by decide)
  have g3 := lv_neT (a := 3) h3 (by decide)
  have g4 := lv_neT (a := 4) h4 (by decide)
  exact ip_s_tsd f173_1 (by omega) rfl rfl
theorem f173_36 : ip_fetch 173 36 = some (.aload_n 0, 1) := by decide +kernel
theorem s173_36 {x0 : Nat} {x1 : Int32} : ip_WP 173 36 [some (.ref x0), some (.int x1)] [] (G, F, I, J) b post px ↔ ip_WP 173 37 [some (.ref x0), some (.int x1)] [.ref x0] (G, F, I, J) b post px := ip_nx_iff ((ip_st_of f173_36).trans rfl)
theorem f173_37 : ip_fetch 173 37 = some (.aload_n 0, 1) := by decide +kernel
theorem s173_37 {x0 : Nat} {x1 : Int32} {s0 : Nat} : ip_WP 173 37 [some (.ref x0), some (.int x1)] [.ref s0] (G, F, I, J) b post px ↔ ip_WP 173 38 [some (.ref x0), some (.int x1)] [.ref x0, .ref s0] (G, F, I, J) b post px := ip_nx_iff ((ip_st_of f173_37).trans rfl)
theorem f173_38 : ip_fetch 173 38 = some (.getfield 15, 3) := by decide +kernel
set_option maxRecDepth 100000 in
theorem s173_38 {x0 : Nat} {x1 : Int32} {s0 : Nat} {s1 : Nat} : ip_WP 173 38 [some (.ref x0), some (.int x1)] [.ref s1, .ref s0] (G, F, I, J) b post px ↔ (ip_isO G s1 8 = true ∧ ip_WP 173 41 [some (.ref x0), some (.int x1)] [F s1 1, .ref s0] (G, F, I, J) b post px) := ip_s_getf f173_38 (by decide +kernel)
theorem f173_41 : ip_fetch 173 41 = some (.getfield 157, 3) := by decide +kernel
set_option maxRecDepth 100000 in
theorem s173_41 {x0 : Nat} {x1 : Int32} {s0 : Nat} {s1 : Nat} : ip_WP 173 41 [some (.ref x0), some (.int x1)] [.ref s1, .ref s0] (G, F, I, J) b post px ↔ (ip_isO G s1 3 = true ∧ ip_WP 173 44 [some (.ref x0), some (.int x1)] [F s1 2, .ref s0] (G, F, I, J) b post px) := ip_s_getf f173_41 (by decide +kernel)
theorem f173_44 : ip_fetch 173 44 = some (.invokevirtual 106, 3) := by decide +kernel
set_option maxRecDepth 100000 in
theorem s173_44 {x0 : Nat} {x1 : Int32} {s0 : Nat} {s1 : Nat} : ip_WP 173 44 [some (.ref x0), some (.int x1)] [.ref s1, .ref s0] (G, F, I, J) b post px ↔ (ip_isO G s0 8 = true ∧ ip_WP 179 0 [some (.ref s0), some (.ref s1)] [] (G, F, I, J) (0, 0) (fun r h' => ip_WP 173 47 [some (.ref x0), some (.int x1)] (r.toList ++ []) h' b post px) (fun _ _ => False)) := ip_ck_iff (x := ip_cl 179 [some (.ref s0), some (.ref s1)] [] (0, 0) b) ((ip_st_of f173_44).trans rfl) (ip_cl_iff)
theorem f173_47 : ip_fetch 173 47 = some (.ireturn, 1) := by decide +kernel
theorem s173_47 {x0 : Nat} {x1 : Int32} {s0 : Int32} : ip_WP 173 47 [some (.ref x0), some (.int x1)] [.int s0] (G, F, I, J) b post px ↔ post (some (.int s0)) (G, F, I, J) := ip_rt_iff ((ip_st_of f173_47).trans rfl)
theorem f173_48 : ip_fetch 173 48 = some (.aload_n 0, 1) := by decide +kernel
theorem s173_48 {x0 : Nat} {x1 : Int32} : ip_WP 173 48 [some (.ref x0), some (.int x1)] [] (G, F, I, J) b post px ↔ ip_WP 173 49 [some (.ref x0), some (.int x1)] [.ref x0] (G, F, I, J) b post px := ip_nx_iff ((ip_st_of f173_48).trans rfl)
theorem f173_49 : ip_fetch 173 49 = some (.bipush 61, 2) := by decide +kernel
theorem s173_49 {x0 : Nat} {x1 : Int32} {s0 : Nat} : ip_WP 173 49 [some (.ref x0), some (.int x1)] [.ref s0] (G, F, I, J) b post px ↔ ip_WP 173 51 [some (.ref x0), some (.int x1)] [.int 61, .ref s0] (G, F, I, J) b post px := ip_s_bipush f173_49 (by decide)
theorem f173_51 : ip_fetch 173 51 = some (.invokevirtual 132, 3) := by decide +kernel
set_option maxRecDepth 100000 in
theorem s173_51 {x0 : Nat} {x1 : Int32} {s0 : Nat} {s1 : Int32} : ip_WP 173 51 [some (.ref x0), some (.int x1)] [.int s1, .ref s0] (G, F, I, J) b post px ↔ (ip_isO G s0 8 = true ∧ ip_WP 175 0 [some (.ref s0), some (.int s1)] [] (G, F, I, J) (0, 0) (fun r h' => ip_WP 173 54 [some (.ref x0), some (.int x1)] (r.toList ++ []) h' b post px) (fun _ _ => False)) := ip_ck_iff (x := ip_cl 175 [some (.ref s0), some (.int s1)] [] (0, 0) b) ((ip_st_of f173_51).trans rfl) (ip_cl_iff)
theorem f173_54 : ip_fetch 173 54 = some (.ireturn, 1) := by decide +kernel
theorem s173_54 {x0 : Nat} {x1 : Int32} {s0 : Int32} : ip_WP 173 54 [some (.ref x0), some (.int x1)] [.int s0] (G, F, I, J) b post px ↔ post (some (.int s0)) (G, F, I, J) := ip_rt_iff ((ip_st_of f173_54).trans rfl)
theorem f173_55 : ip_fetch 173 55 = some (.aload_n 0, 1) := by decide +kernel
theorem s173_55 {x0 : Nat} {x1 : Int32} : ip_WP 173 55 [some (.ref x0), some (.int x1)] [] (G, F, I, J) b post px ↔ ip_WP 173 56 [some (.ref x0), some (.int x1)] [.ref x0] (G, F, I, J) b post px := ip_nx_iff ((ip_st_of f173_55).trans rfl)
theorem f173_56 : ip_fetch 173 56 = some (.aload_n 0, 1) := by decide +kernel
theorem s173_56 {x0 : Nat} {x1 : Int32} {s0 : Nat} : ip_WP 173 56 [some (.ref x0), some (.int x1)] [.ref s0] (G, F, I, J) b post px ↔ ip_WP 173 57 [some (.ref x0), some (.int x1)] [.ref x0, .ref s0] (G, F, I, J) b post px := ip_nx_iff ((ip_st_of f173_56).trans rfl)
theorem f173_57 : ip_fetch 173 57 = some (.getfield 15, 3) := by decide +kernel
set_option maxRecDepth 100000 in
theorem s173_57 {x0 : Nat} {x1 : Int32} {s0 : Nat} {s1 : Nat} : ip_WP 173 57 [some (.ref x0), some (.int x1)] [.ref s1, .ref s0] (G, F, I, J) b post px ↔ (ip_isO G s1 8 = true ∧ ip_WP 173 60 [some (.ref x0), some (.int x1)] [F s1 1, .ref s0] (G, F, I, J) b post px) := ip_s_getf f173_57 (by decide +kernel)
theorem f173_60 : ip_fetch 173 60 = some (.getfield 160, 3) := by decide +kernel
set_option maxRecDepth 100000 in
theorem s173_60 {x0 : Nat} {x1 : Int32} {s0 : Nat} {s1 : Nat} : ip_WP 173 60 [some (.ref x0), some (.int x1)] [.ref s1, .ref s0] (G, F, I, J) b post px ↔ (ip_isO G s1 3 = true ∧ ip_WP 173 63 [some (.ref x0), some (.int x1)] [F s1 10, .ref s0] (G, F, I, J) b post px) := ip_s_getf f173_60 (by decide +kernel)
theorem f173_63 : ip_fetch 173 63 = some (.sipush 999, 3) := by decide +kernel
theorem s173_63 {x0 : Nat} {x1 : Int32} {s0 : Nat} {s1 : Nat} : ip_WP 173 63 [some (.ref x0), some (.int x1)] [.ref s1, .ref s0] (G, F, I, J) b post px ↔ ip_WP 173 66 [some (.ref x0), some (.int x1)] [.int 999, .ref s1, .ref s0] (G, F, I, J) b post px := ip_s_sipush f173_63 (by decide)
theorem f173_66 : ip_fetch 173 66 = some (.invokevirtual 135, 3) := by decide +kernel
set_option maxRecDepth 100000 in
theorem s173_66 {x0 : Nat} {x1 : Int32} {s0 : Nat} {s1 : Nat} {s2 : Int32} : ip_WP 173 66 [some (.ref x0), some (.int x1)] [.int s2, .ref s1, .ref s0] (G, F, I, J) b post px ↔ (ip_isO G s0 8 = true ∧ ip_WP 183 0 [some (.ref s0), some (.ref s1), some (.int s2)] [] (G, F, I, J) (0, 0) (fun r h' => ip_WP 173 69 [some (.ref x0), some (.int x1)] (r.toList ++ []) h' b post px) (fun _ _ => False)) := ip_ck_iff (x := ip_cl 183 [some (.ref s0), some (.ref s1), some (.int s2)] [] (0, 0) b) ((ip_st_of f173_66).trans rfl) (ip_cl_iff)
theorem f173_69 : ip_fetch 173 69 = some (.ireturn, 1) := by decide +kernel
theorem s173_69 {x0 : Nat} {x1 : Int32} {s0 : Int32} : ip_WP 173 69 [some (.ref x0), some (.int x1)] [.int s0] (G, F, I, J) b post px ↔ post (some (.int s0)) (G, F, I, J) := ip_rt_iff ((ip_st_of f173_69).trans rfl)
theorem f173_70 : ip_fetch 173 70 = some (.aload_n 0, 1) := by decide +kernel
theorem s173_70 {x0 : Nat} {x1 : Int32} : ip_WP 173 70 [some (.ref x0), some (.int x1)] [] (G, F, I, J) b post px ↔ ip_WP 173 71 [some (.ref x0), some (.int x1)] [.ref x0] (G, F, I, J) b post px := ip_nx_iff ((ip_st_of f173_70).trans rfl)
theorem f173_71 : ip_fetch 173 71 = some (.sipush 264, 3) := by decide +kernel
theorem s173_71 {x0 : Nat} {x1 : Int32} {s0 : Nat} : ip_WP 173 71 [some (.ref x0), some (.int x1)] [.ref s0] (G, F, I, J) b post px ↔ ip_WP 173 74 [some (.ref x0), some (.int x1)] [.int 264, .ref s0] (G, F, I, J) b post px := ip_s_sipush f173_71 (by decide)
theorem f173_74 : ip_fetch 173 74 = some (.invokevirtual 118, 3) := by decide +kernel
set_option maxRecDepth 100000 in
theorem s173_74 {x0 : Nat} {x1 : Int32} {s0 : Nat} {s1 : Int32} : ip_WP 173 74 [some (.ref x0), some (.int x1)] [.int s1, .ref s0] (G, F, I, J) b post px ↔ (ip_isO G s0 8 = true ∧ ip_WP 178 0 [some (.ref s0), some (.int s1)] [] (G, F, I, J) (0, 0) (fun r h' => ip_WP 173 77 [some (.ref x0), some (.int x1)] (r.toList ++ []) h' b post px) (fun _ _ => False)) := ip_ck_iff (x := ip_cl 178 [some (.ref s0), some (.int s1)] [] (0, 0) b) ((ip_st_of f173_74).trans rfl) (ip_cl_iff)
theorem f173_77 : ip_fetch 173 77 = some (.ireturn, 1) := by decide +kernel
theorem s173_77 {x0 : Nat} {x1 : Int32} {s0 : Int32} : ip_WP 173 77 [some (.ref x0), some (.int x1)] [.int s0] (G, F, I, J) b post px ↔ post (some (.int s0)) (G, F, I, J) := ip_rt_iff ((ip_st_of f173_77).trans rfl)
theorem f173_78 : ip_fetch 173 78 = some (.aload_n 0, 1) := by decide +kernel
theorem s173_78 {x0 : Nat} {x1 : Int32} : ip_WP 173 78 [some (.ref x0), some (.int x1)] [] (G, F, I, J) b post px ↔ ip_WP 173 79 [some (.ref x0), some (.int x1)] [.ref x0] (G, F, I, J) b post px := ip_nx_iff ((ip_st_of f173_78).trans rfl)
theorem f173_79 : ip_fetch 173 79 = some (.aload_n 0, 1) := by decide +kernel
theorem s173_79 {x0 : Nat} {x1 : Int32} {s0 : Nat} : ip_WP 173 79 [some (.ref x0), some (.int x1)] [.ref s0] (G, F, I, J) b post px ↔ ip_WP 173 80 [some (.ref x0), some (.int x1)] [.ref x0, .ref s0] (G, F, I, J) b post px := ip_nx_iff ((ip_st_of f173_79).trans rfl)
theorem f173_80 : ip_fetch 173 80 = some (.getfield 15, 3) := by decide +kernel
set_option maxRecDepth 100000 in
theorem s173_80 {x0 : Nat} {x1 : Int32} {s0 : Nat} {s1 : Nat} : ip_WP 173 80 [some (.ref x0), some (.int x1)] [.ref s1, .ref s0] (G, F, I, J) b post px ↔ (ip_isO G s1 8 = true ∧ ip_WP 173 83 [some (.ref x0), some (.int x1)] [F s1 1, .ref s0] (G, F, I, J) b post px) := ip_s_getf f173_80 (by decide +kernel)
theorem f173_83 : ip_fetch 173 83 = some (.getfield 163, 3) := by decide +kernel
set_option maxRecDepth 100000 in
theorem s173_83 {x0 : Nat} {x1 : Int32} {s0 : Nat} {s1 : Nat} : ip_WP 173 83 [some (.ref x0), some (.int x1)] [.ref s1, .ref s0] (G, F, I, J) b post px ↔ (ip_isO G s1 3 = true ∧ ip_WP 173 86 [some (.ref x0), some (.int x1)] [F s1 11, .ref s0] (G, F, I, J) b post px) := ip_s_getf f173_83 (by decide +kernel)
theorem f173_86 : ip_fetch 173 86 = some (.invokevirtual 145, 3) := by decide +kernel
set_option maxRecDepth 100000 in
theorem s173_86 {x0 : Nat} {x1 : Int32} {s0 : Nat} {s1 : Nat} : ip_WP 173 86 [some (.ref x0), some (.int x1)] [.ref s1, .ref s0] (G, F, I, J) b post px ↔ (ip_isO G s0 8 = true ∧ ip_WP 184 0 [some (.ref s0), some (.ref s1), none] [] (G, F, I, J) (0, 0) (fun r h' => ip_WP 173 89 [some (.ref x0), some (.int x1)] (r.toList ++ []) h' b post px) (fun _ _ => False)) := ip_ck_iff (x := ip_cl 184 [some (.ref s0), some (.ref s1), none] [] (0, 0) b) ((ip_st_of f173_86).trans rfl) (ip_cl_iff)
theorem f173_89 : ip_fetch 173 89 = some (.ireturn, 1) := by decide +kernel
theorem s173_89 {x0 : Nat} {x1 : Int32} {s0 : Int32} : ip_WP 173 89 [some (.ref x0), some (.int x1)] [.int s0] (G, F, I, J) b post px ↔ post (some (.int s0)) (G, F, I, J) := ip_rt_iff ((ip_st_of f173_89).trans rfl)
theorem f173_90 : ip_fetch 173 90 = some (.aload_n 0, 1) := by decide +kernel
theorem s173_90 {x0 : Nat} {x1 : Int32} : ip_WP 173 90 [some (.ref x0), some (.int x1)] [] (G, F, I, J) b post px ↔ ip_WP 173 91 [some (.ref x0), some (.int x1)] [.ref x0] (G, F, I, J) b post px := ip_nx_iff ((ip_st_of f173_90).trans rfl)
theorem f173_91 : ip_fetch 173 91 = some (.invokevirtual 139, 3) := by decide +kernel
set_option maxRecDepth 100000 in
theorem s173_91 {x0 : Nat} {x1 : Int32} {s0 : Nat} : ip_WP 173 91 [some (.ref x0), some (.int x1)] [.ref s0] (G, F, I, J) b post px ↔ (ip_isO G s0 8 = true ∧ ip_WP 176 0 [some (.ref s0)] [] (G, F, I, J) (0, 0) (fun r h' => ip_WP 173 94 [some (.ref x0), some (.int x1)] (r.toList ++ []) h' b post px) (fun _ _ => False)) := ip_ck_iff (x := ip_cl 176 [some (.ref s0)] [] (0, 0) b) ((ip_st_of f173_91).trans rfl) (ip_cl_iff)
theorem f173_94 : ip_fetch 173 94 = some (.ireturn, 1) := by decide +kernel
theorem s173_94 {x0 : Nat} {x1 : Int32} {s0 : Int32} : ip_WP 173 94 [some (.ref x0), some (.int x1)] [.int s0] (G, F, I, J) b post px ↔ post (some (.int s0)) (G, F, I, J) := ip_rt_iff ((ip_st_of f173_94).trans rfl)
theorem f174_0 : ip_fetch 174 0 = some (.iload_n 1, 1) := by decide +kernel
theorem s174_0 {x0 : Nat} {x1 : Int32} : ip_WP 174 0 [some (.ref x0), some (.int x1)] [] (G, F, I, J) b post px ↔ ip_WP 174 1 [some (.ref x0), some (.int x1)] [.int x1] (G, F, I, J) b post px := ip_nx_iff ((ip_st_of f174_0).trans rfl)
-- switch 174 1
theorem f174_1 : ip_fetch 174 1 = some (.tableswitch 51 0 2 #[27, 39, 46], 27) := by decide +kernel
theorem s174_1 {x0 : Nat} {x1 : Int32} {s0 : Int32} : ip_WP 174 1 [some (.ref x0), some (.int x1)] [.int s0] (G, F, I, J) b post px ↔ if s0 = 0 then ip_WP 174 28 [some (.ref x0), some (.int x1)] [] (G, F, I, J) b post px else if s0 = 1 then ip_WP 174 40 [some (.ref x0), some (.int x1)] [] (G, F, I, J) b post px else if s0 = 2 then ip_WP 174 47 [some (.ref x0), some (.int x1)] [] (G, F, I, J) b post px else ip_WP 174 52 [some (.ref x0), some (.int x1)] [] (G, F, I, J) b post px := by
  by_cases h0 : s0 = 0
  · subst h0
    rw [if_pos rfl]
    exact ip_nx_iff ((ip_st_of f174_1).trans rfl)
  rw [if_neg h0]
  by_cases h1 : s0 = 1
  · subst h1
    rw [if_pos rfl]
    exact ip_nx_iff ((ip_st_of f174_1).trans rfl)
  rw [if_neg h1]
  by_cases h2 : s0 = 2
  · subst h2
    rw [if_pos rfl]
    exact ip_nx_iff ((ip_st_of f174_1).trans rfl)
  rw [if_neg h2]
  have g0 := lv_neT (a := 0) h0 (by decide)
  have g1 := lv_neT (a := 1) h1 (by decide)
  have g2 := lv_neT (a := 2) h2 (by decide)
  exact ip_s_tsd f174_1 (by omega) rfl rfl
theorem f174_28 : ip_fetch 174 28 = some (.aload_n 0, 1) := by decide +kernel
theorem s174_28 {x0 : Nat} {x1 : Int32} : ip_WP 174 28 [some (.ref x0), some (.int x1)] [] (G, F, I, J) b post px ↔ ip_WP 174 29 [some (.ref x0), some (.int x1)] [.ref x0] (G, F, I, J) b post px := ip_nx_iff ((ip_st_of f174_28).trans rfl)
theorem f174_29 : ip_fetch 174 29 = some (.aload_n 0, 1) := by decide +kernel
theorem s174_29 {x0 : Nat} {x1 : Int32} {s0 : Nat} : ip_WP 174 29 [some (.ref x0), some (.int x1)] [.ref s0] (G, F, I, J) b post px ↔ ip_WP 174 30 [some (.ref x0), some (.int x1)] [.ref x0, .ref s0] (G, F, I, J) b post px := ip_nx_iff ((ip_st_of f174_29).trans rfl)
theorem f174_30 : ip_fetch 174 30 = some (.getfield 15, 3) := by decide +kernel
set_option maxRecDepth 100000 in
theorem s174_30 {x0 : Nat} {x1 : Int32} {s0 : Nat} {s1 : Nat} : ip_WP 174 30 [some (.ref x0), some (.int x1)] [.ref s1, .ref s0] (G, F, I, J) b post px ↔ (ip_isO G s1 8 = true ∧ ip_WP 174 33 [some (.ref x0), some (.int x1)] [F s1 1, .ref s0] (G, F, I, J) b post px) := ip_s_getf f174_30 (by decide +kernel)
theorem f174_33 : ip_fetch 174 33 = some (.getfield 166, 3) := by decide +kernel
set_option maxRecDepth 100000 in
theorem s174_33 {x0 : Nat} {x1 : Int32} {s0 : Nat} {s1 : Nat} : ip_WP 174 33 [some (.ref x0), some (.int x1)] [.ref s1, .ref s0] (G, F, I, J) b post px ↔ (ip_isO G s1 3 = true ∧ ip_WP 174 36 [some (.ref x0), some (.int x1)] [F s1 3, .ref s0] (G, F, I, J) b post px) := ip_s_getf f174_33 (by decide +kernel)
theorem f174_36 : ip_fetch 174 36 = some (.invokevirtual 106, 3) := by decide +kernel
set_option maxRecDepth 100000 in
theorem s174_36 {x0 : Nat} {x1 : Int32} {s0 : Nat} {s1 : Nat} : ip_WP 174 36 [some (.ref x0), some (.int x1)] [.ref s1, .ref s0] (G, F, I, J) b post px ↔ (ip_isO G s0 8 = true ∧ ip_WP 179 0 [some (.ref s0), some (.ref s1)] [] (G, F, I, J) (0, 0) (fun r h' => ip_WP 174 39 [some (.ref x0), some (.int x1)] (r.toList ++ []) h' b post px) (fun _ _ => False)) := ip_ck_iff (x := ip_cl 179 [some (.ref s0), some (.ref s1)] [] (0, 0) b) ((ip_st_of f174_36).trans rfl) (ip_cl_iff)
theorem f174_39 : ip_fetch 174 39 = some (.ireturn, 1) := by decide +kernel
theorem s174_39 {x0 : Nat} {x1 : Int32} {s0 : Int32} : ip_WP 174 39 [some (.ref x0), some (.int x1)] [.int s0] (G, F, I, J) b post px ↔ post (some (.int s0)) (G, F, I, J) := ip_rt_iff ((ip_st_of f174_39).trans rfl)
theorem f174_40 : ip_fetch 174 40 = some (.aload_n 0, 1) := by decide +kernel
theorem s174_40 {x0 : Nat} {x1 : Int32} : ip_WP 174 40 [some (.ref x0), some (.int x1)] [] (G, F, I, J) b post px ↔ ip_WP 174 41 [some (.ref x0), some (.int x1)] [.ref x0] (G, F, I, J) b post px := ip_nx_iff ((ip_st_of f174_40).trans rfl)
theorem f174_41 : ip_fetch 174 41 = some (.bipush 58, 2) := by decide +kernel
theorem s174_41 {x0 : Nat} {x1 : Int32} {s0 : Nat} : ip_WP 174 41 [some (.ref x0), some (.int x1)] [.ref s0] (G, F, I, J) b post px ↔ ip_WP 174 43 [some (.ref x0), some (.int x1)] [.int 58, .ref s0] (G, F, I, J) b post px := ip_s_bipush f174_41 (by decide)
theorem f174_43 : ip_fetch 174 43 = some (.invokevirtual 132, 3) := by decide +kernel
set_option maxRecDepth 100000 in
theorem s174_43 {x0 : Nat} {x1 : Int32} {s0 : Nat} {s1 : Int32} : ip_WP 174 43 [some (.ref x0), some (.int x1)] [.int s1, .ref s0] (G, F, I, J) b post px ↔ (ip_isO G s0 8 = true ∧ ip_WP 175 0 [some (.ref s0), some (.int s1)] [] (G, F, I, J) (0, 0) (fun r h' => ip_WP 174 46 [some (.ref x0), some (.int x1)] (r.toList ++ []) h' b post px) (fun _ _ => False)) := ip_ck_iff (x := ip_cl 175 [some (.ref s0), some (.int s1)] [] (0, 0) b) ((ip_st_of f174_43).trans rfl) (ip_cl_iff)
theorem f174_46 : ip_fetch 174 46 = some (.ireturn, 1) := by decide +kernel
theorem s174_46 {x0 : Nat} {x1 : Int32} {s0 : Int32} : ip_WP 174 46 [some (.ref x0), some (.int x1)] [.int s0] (G, F, I, J) b post px ↔ post (some (.int s0)) (G, F, I, J) := ip_rt_iff ((ip_st_of f174_46).trans rfl)
theorem f174_47 : ip_fetch 174 47 = some (.aload_n 0, 1) := by decide +kernel
theorem s174_47 {x0 : Nat} {x1 : Int32} : ip_WP 174 47 [some (.ref x0), some (.int x1)] [] (G, F, I, J) b post px ↔ ip_WP 174 48 [some (.ref x0), some (.int x1)] [.ref x0] (G, F, I, J) b post px := ip_nx_iff ((ip_st_of f174_47).trans rfl)
theorem f174_48 : ip_fetch 174 48 = some (.invokevirtual 169, 3) := by decide +kernel
set_option maxRecDepth 100000 in
theorem s174_48 {x0 : Nat} {x1 : Int32} {s0 : Nat} : ip_WP 174 48 [some (.ref x0), some (.int x1)] [.ref s0] (G, F, I, J) b post px ↔ (ip_isO G s0 8 = true ∧ ip_WP 188 0 [some (.ref s0), none] [] (G, F, I, J) (0, 0) (fun r h' => ip_WP 174 51 [some (.ref x0), some (.int x1)] (r.toList ++ []) h' b post px) (fun _ _ => False)) := ip_ck_iff (x := ip_cl 188 [some (.ref s0), none] [] (0, 0) b) ((ip_st_of f174_48).trans rfl) (ip_cl_iff)
theorem f174_51 : ip_fetch 174 51 = some (.ireturn, 1) := by decide +kernel
theorem s174_51 {x0 : Nat} {x1 : Int32} {s0 : Int32} : ip_WP 174 51 [some (.ref x0), some (.int x1)] [.int s0] (G, F, I, J) b post px ↔ post (some (.int s0)) (G, F, I, J) := ip_rt_iff ((ip_st_of f174_51).trans rfl)
theorem f174_52 : ip_fetch 174 52 = some (.aload_n 0, 1) := by decide +kernel
theorem s174_52 {x0 : Nat} {x1 : Int32} : ip_WP 174 52 [some (.ref x0), some (.int x1)] [] (G, F, I, J) b post px ↔ ip_WP 174 53 [some (.ref x0), some (.int x1)] [.ref x0] (G, F, I, J) b post px := ip_nx_iff ((ip_st_of f174_52).trans rfl)
theorem f174_53 : ip_fetch 174 53 = some (.iconst 2, 1) := by decide +kernel
theorem s174_53 {x0 : Nat} {x1 : Int32} {s0 : Nat} : ip_WP 174 53 [some (.ref x0), some (.int x1)] [.ref s0] (G, F, I, J) b post px ↔ ip_WP 174 54 [some (.ref x0), some (.int x1)] [.int 2, .ref s0] (G, F, I, J) b post px := ip_s_iconst f174_53 (by decide)
theorem f174_54 : ip_fetch 174 54 = some (.invokevirtual 110, 3) := by decide +kernel
set_option maxRecDepth 100000 in
theorem s174_54 {x0 : Nat} {x1 : Int32} {s0 : Nat} {s1 : Int32} : ip_WP 174 54 [some (.ref x0), some (.int x1)] [.int s1, .ref s0] (G, F, I, J) b post px ↔ (ip_isO G s0 8 = true ∧ ip_WP 177 0 [some (.ref s0), some (.int s1)] [] (G, F, I, J) (0, 0) (fun r h' => ip_WP 174 57 [some (.ref x0), some (.int x1)] (r.toList ++ []) h' b post px) (fun _ _ => False)) := ip_ck_iff (x := ip_cl 177 [some (.ref s0), some (.int s1)] [] (0, 0) b) ((ip_st_of f174_54).trans rfl) (ip_cl_iff)
theorem f174_57 : ip_fetch 174 57 = some (.ireturn, 1) := by decide +kernel
theorem s174_57 {x0 : Nat} {x1 : Int32} {s0 : Int32} : ip_WP 174 57 [some (.ref x0), some (.int x1)] [.int s0] (G, F, I, J) b post px ↔ post (some (.int s0)) (G, F, I, J) := ip_rt_iff ((ip_st_of f174_57).trans rfl)
theorem f175_0 : ip_fetch 175 0 = some (.aload_n 0, 1) := by decide +kernel
theorem s175_0 {x0 : Nat} {x1 : Int32} : ip_WP 175 0 [some (.ref x0), some (.int x1)] [] (G, F, I, J) b post px ↔ ip_WP 175 1 [some (.ref x0), some (.int x1)] [.ref x0] (G, F, I, J) b post px := ip_nx_iff ((ip_st_of f175_0).trans rfl)
theorem f175_1 : ip_fetch 175 1 = some (.getfield 24, 3) := by decide +kernel
set_option maxRecDepth 100000 in
theorem s175_1 {x0 : Nat} {x1 : Int32} {s0 : Nat} : ip_WP 175 1 [some (.ref x0), some (.int x1)] [.ref s0] (G, F, I, J) b post px ↔ (ip_isO G s0 8 = true ∧ ip_WP 175 4 [some (.ref x0), some (.int x1)] [F s0 2] (G, F, I, J) b post px) := ip_s_getf f175_1 (by decide +kernel)
theorem f175_4 : ip_fetch 175 4 = some (.invokevirtual 52, 3) := by decide +kernel
set_option maxRecDepth 100000 in
theorem s175_4 {x0 : Nat} {x1 : Int32} {s0 : Nat} : ip_WP 175 4 [some (.ref x0), some (.int x1)] [.ref s0] (G, F, I, J) b post px ↔ (ip_isO G s0 5 = true ∧ ip_WP 127 0 [some (.ref s0)] [] (G, F, I, J) (0, 0) (fun r h' => ip_WP 175 7 [some (.ref x0), some (.int x1)] (r.toList ++ []) h' b post px) (fun _ _ => False)) := ip_ck_iff (x := ip_cl 127 [some (.ref s0)] [] (0, 0) b) ((ip_st_of f175_4).trans rfl) (ip_cl_iff)
theorem f175_7 : ip_fetch 175 7 = some (.iload_n 1, 1) := by decide +kernel
theorem s175_7 {x0 : Nat} {x1 : Int32} {s0 : Int32} : ip_WP 175 7 [some (.ref x0), some (.int x1)] [.int s0] (G, F, I, J) b post px ↔ ip_WP 175 8 [some (.ref x0), some (.int x1)] [.int x1, .int s0] (G, F, I, J) b post px := ip_nx_iff ((ip_st_of f175_7).trans rfl)
theorem f175_8 : ip_fetch 175 8 = some (.if_icmp .ne 7, 3) := by decide +kernel
theorem s175_8 {x0 : Nat} {x1 : Int32} {s0 : Int32} {s1 : Int32} : ip_WP 175 8 [some (.ref x0), some (.int x1)] [.int s1, .int s0] (G, F, I, J) b post px ↔ if ¬ s0 = s1 then ip_WP 175 15 [some (.ref x0), some (.int x1)] [] (G, F, I, J) b post px else ip_WP 175 11 [some (.ref x0), some (.int x1)] [] (G, F, I, J) b post px := ip_s_ic_ne f175_8 rfl
theorem f175_11 : ip_fetch 175 11 = some (.iconst 0, 1) := by decide +kernel
theorem s175_11 {x0 : Nat} {x1 : Int32} : ip_WP 175 11 [some (.ref x0), some (.int x1)] [] (G, F, I, J) b post px ↔ ip_WP 175 12 [some (.ref x0), some (.int x1)] [.int 0] (G, F, I, J) b post px := ip_s_iconst f175_11 (by decide)
theorem f175_12 : ip_fetch 175 12 = some (.goto 4, 3) := by decide +kernel
theorem s175_12 {x0 : Nat} {x1 : Int32} {s0 : Int32} : ip_WP 175 12 [some (.ref x0), some (.int x1)] [.int s0] (G, F, I, J) b post px ↔ ip_WP 175 16 [some (.ref x0), some (.int x1)] [.int s0] (G, F, I, J) b post px := ip_nx_iff ((ip_st_of f175_12).trans rfl)
theorem f175_15 : ip_fetch 175 15 = some (.iconst 2, 1) := by decide +kernel
theorem s175_15 {x0 : Nat} {x1 : Int32} : ip_WP 175 15 [some (.ref x0), some (.int x1)] [] (G, F, I, J) b post px ↔ ip_WP 175 16 [some (.ref x0), some (.int x1)] [.int 2] (G, F, I, J) b post px := ip_s_iconst f175_15 (by decide)
theorem f175_16 : ip_fetch 175 16 = some (.ireturn, 1) := by decide +kernel
theorem s175_16 {x0 : Nat} {x1 : Int32} {s0 : Int32} : ip_WP 175 16 [some (.ref x0), some (.int x1)] [.int s0] (G, F, I, J) b post px ↔ post (some (.int s0)) (G, F, I, J) := ip_rt_iff ((ip_st_of f175_16).trans rfl)
theorem f176_0 : ip_fetch 176 0 = some (.aload_n 0, 1) := by decide +kernel
theorem s176_0 {x0 : Nat} : ip_WP 176 0 [some (.ref x0)] [] (G, F, I, J) b post px ↔ ip_WP 176 1 [some (.ref x0)] [.ref x0] (G, F, I, J) b post px := ip_nx_iff ((ip_st_of f176_0).trans rfl)
theorem f176_1 : ip_fetch 176 1 = some (.getfield 24, 3) := by decide +kernel
set_option maxRecDepth 100000 in
theorem s176_1 {x0 : Nat} {s0 : Nat} : ip_WP 176 1 [some (.ref x0)] [.ref s0] (G, F, I, J) b post px ↔ (ip_isO G s0 8 = true ∧ ip_WP 176 4 [some (.ref x0)] [F s0 2] (G, F, I, J) b post px) := ip_s_getf f176_1 (by decide +kernel)
theorem f176_4 : ip_fetch 176 4 = some (.invokevirtual 52, 3) := by decide +kernel
set_option maxRecDepth 100000 in
theorem s176_4 {x0 : Nat} {s0 : Nat} : ip_WP 176 4 [some (.ref x0)] [.ref s0] (G, F, I, J) b post px ↔ (ip_isO G s0 5 = true ∧ ip_WP 127 0 [some (.ref s0)] [] (G, F, I, J) (0, 0) (fun r h' => ip_WP 176 7 [some (.ref x0)] (r.toList ++ []) h' b post px) (fun _ _ => False)) := ip_ck_iff (x := ip_cl 127 [some (.ref s0)] [] (0, 0) b) ((ip_st_of f176_4).trans rfl) (ip_cl_iff)
theorem f176_7 : ip_fetch 176 7 = some (.bipush 59, 2) := by decide +kernel
theorem s176_7 {x0 : Nat} {s0 : Int32} : ip_WP 176 7 [some (.ref x0)] [.int s0] (G, F, I, J) b post px ↔ ip_WP 176 9 [some (.ref x0)] [.int 59, .int s0] (G, F, I, J) b post px := ip_s_bipush f176_7 (by decide)
theorem f176_9 : ip_fetch 176 9 = some (.if_icmp .eq 5, 3) := by decide +kernel
theorem s176_9 {x0 : Nat} {s0 : Int32} {s1 : Int32} : ip_WP 176 9 [some (.ref x0)] [.int s1, .int s0] (G, F, I, J) b post px ↔ if s0 = s1 then ip_WP 176 14 [some (.ref x0)] [] (G, F, I, J) b post px else ip_WP 176 12 [some (.ref x0)] [] (G, F, I, J) b post px := ip_s_ic_eq f176_9 rfl
theorem f176_12 : ip_fetch 176 12 = some (.iconst 2, 1) := by decide +kernel
theorem s176_12 {x0 : Nat} : ip_WP 176 12 [some (.ref x0)] [] (G, F, I, J) b post px ↔ ip_WP 176 13 [some (.ref x0)] [.int 2] (G, F, I, J) b post px := ip_s_iconst f176_12 (by decide)
theorem f176_13 : ip_fetch 176 13 = some (.ireturn, 1) := by decide +kernel
theorem s176_13 {x0 : Nat} {s0 : Int32} : ip_WP 176 13 [some (.ref x0)] [.int s0] (G, F, I, J) b post px ↔ post (some (.int s0)) (G, F, I, J) := ip_rt_iff ((ip_st_of f176_13).trans rfl)
theorem f176_14 : ip_fetch 176 14 = some (.aload_n 0, 1) := by decide +kernel
theorem s176_14 {x0 : Nat} : ip_WP 176 14 [some (.ref x0)] [] (G, F, I, J) b post px ↔ ip_WP 176 15 [some (.ref x0)] [.ref x0] (G, F, I, J) b post px := ip_nx_iff ((ip_st_of f176_14).trans rfl)
theorem f176_15 : ip_fetch 176 15 = some (.getfield 15, 3) := by decide +kernel
set_option maxRecDepth 100000 in
theorem s176_15 {x0 : Nat} {s0 : Nat} : ip_WP 176 15 [some (.ref x0)] [.ref s0] (G, F, I, J) b post px ↔ (ip_isO G s0 8 = true ∧ ip_WP 176 18 [some (.ref x0)] [F s0 1] (G, F, I, J) b post px) := ip_s_getf f176_15 (by decide +kernel)
theorem f176_18 : ip_fetch 176 18 = some (.invokevirtual 172, 3) := by decide +kernel
set_option maxRecDepth 100000 in
theorem s176_18 {x0 : Nat} {s0 : Nat} : ip_WP 176 18 [some (.ref x0)] [.ref s0] (G, F, I, J) b post px ↔ (ip_isO G s0 3 = true ∧ ip_WP 105 0 [some (.ref s0)] [] (G, F, I, J) (0, 0) (fun r h' => ip_WP 176 21 [some (.ref x0)] (r.toList ++ []) h' b post px) (fun _ _ => False)) := ip_ck_iff (x := ip_cl 105 [some (.ref s0)] [] (0, 0) b) ((ip_st_of f176_18).trans rfl) (ip_cl_iff)
theorem f176_21 : ip_fetch 176 21 = some (.aload_n 0, 1) := by decide +kernel
theorem s176_21 {x0 : Nat} : ip_WP 176 21 [some (.ref x0)] [] (G, F, I, J) b post px ↔ ip_WP 176 22 [some (.ref x0)] [.ref x0] (G, F, I, J) b post px := ip_nx_iff ((ip_st_of f176_21).trans rfl)
theorem f176_22 : ip_fetch 176 22 = some (.iconst (-1), 1) := by decide +kernel
theorem s176_22 {x0 : Nat} {s0 : Nat} : ip_WP 176 22 [some (.ref x0)] [.ref s0] (G, F, I, J) b post px ↔ ip_WP 176 23 [some (.ref x0)] [.int (-1), .ref s0] (G, F, I, J) b post px := ip_s_iconst f176_22 (by decide)
theorem f176_23 : ip_fetch 176 23 = some (.putfield 55, 3) := by decide +kernel
set_option maxRecDepth 100000 in
theorem s176_23 {x0 : Nat} {s0 : Nat} {s1 : Int32} : ip_WP 176 23 [some (.ref x0)] [.int s1, .ref s0] (G, F, I, J) b post px ↔ (ip_isO G s0 8 = true ∧ ip_WP 176 26 [some (.ref x0)] [] (G, ip_up F s0 5 (.int s1), I, J) b post px) := ip_s_put f176_23 (by decide +kernel) rfl
theorem f176_26 : ip_fetch 176 26 = some (.iconst 0, 1) := by decide +kernel
theorem s176_26 {x0 : Nat} : ip_WP 176 26 [some (.ref x0)] [] (G, F, I, J) b post px ↔ ip_WP 176 27 [some (.ref x0)] [.int 0] (G, F, I, J) b post px := ip_s_iconst f176_26 (by decide)
theorem f176_27 : ip_fetch 176 27 = some (.ireturn, 1) := by decide +kernel
theorem s176_27 {x0 : Nat} {s0 : Int32} : ip_WP 176 27 [some (.ref x0)] [.int s0] (G, F, I, J) b post px ↔ post (some (.int s0)) (G, F, I, J) := ip_rt_iff ((ip_st_of f176_27).trans rfl)
theorem f177_0 : ip_fetch 177 0 = some (.aload_n 0, 1) := by decide +kernel
theorem s177_0 {x0 : Nat} {x1 : Int32} : ip_WP 177 0 [some (.ref x0), some (.int x1)] [] (G, F, I, J) b post px ↔ ip_WP 177 1 [some (.ref x0), some (.int x1)] [.ref x0] (G, F, I, J) b post px := ip_nx_iff ((ip_st_of f177_0).trans rfl)
theorem f177_1 : ip_fetch 177 1 = some (.getfield 24, 3) := by decide +kernel
set_option maxRecDepth 100000 in
theorem s177_1 {x0 : Nat} {x1 : Int32} {s0 : Nat} : ip_WP 177 1 [some (.ref x0), some (.int x1)] [.ref s0] (G, F, I, J) b post px ↔ (ip_isO G s0 8 = true ∧ ip_WP 177 4 [some (.ref x0), some (.int x1)] [F s0 2] (G, F, I, J) b post px) := ip_s_getf f177_1 (by decide +kernel)
theorem f177_4 : ip_fetch 177 4 = some (.invokevirtual 52, 3) := by decide +kernel
set_option maxRecDepth 100000 in
theorem s177_4 {x0 : Nat} {x1 : Int32} {s0 : Nat} : ip_WP 177 4 [some (.ref x0), some (.int x1)] [.ref s0] (G, F, I, J) b post px ↔ (ip_isO G s0 5 = true ∧ ip_WP 127 0 [some (.ref s0)] [] (G, F, I, J) (0, 0) (fun r h' => ip_WP 177 7 [some (.ref x0), some (.int x1)] (r.toList ++ []) h' b post px) (fun _ _ => False)) := ip_ck_iff (x := ip_cl 127 [some (.ref s0)] [] (0, 0) b) ((ip_st_of f177_4).trans rfl) (ip_cl_iff)
theorem f177_7 : ip_fetch 177 7 = some (.bipush 44, 2) := by decide +kernel
theorem s177_7 {x0 : Nat} {x1 : Int32} {s0 : Int32} : ip_WP 177 7 [some (.ref x0), some (.int x1)] [.int s0] (G, F, I, J) b post px ↔ ip_WP 177 9 [some (.ref x0), some (.int x1)] [.int 44, .int s0] (G, F, I, J) b post px := ip_s_bipush f177_7 (by decide)
theorem f177_9 : ip_fetch 177 9 = some (.if_icmp .eq 8, 3) := by decide +kernel
theorem s177_9 {x0 : Nat} {x1 : Int32} {s0 : Int32} {s1 : Int32} : ip_WP 177 9 [some (.ref x0), some (.int x1)] [.int s1, .int s0] (G, F, I, J) b post px ↔ if s0 = s1 then ip_WP 177 17 [some (.ref x0), some (.int x1)] [] (G, F, I, J) b post px else ip_WP 177 12 [some (.ref x0), some (.int x1)] [] (G, F, I, J) b post px := ip_s_ic_eq f177_9 rfl
theorem f177_12 : ip_fetch 177 12 = some (.aload_n 0, 1) := by decide +kernel
theorem s177_12 {x0 : Nat} {x1 : Int32} : ip_WP 177 12 [some (.ref x0), some (.int x1)] [] (G, F, I, J) b post px ↔ ip_WP 177 13 [some (.ref x0), some (.int x1)] [.ref x0] (G, F, I, J) b post px := ip_nx_iff ((ip_st_of f177_12).trans rfl)
theorem f177_13 : ip_fetch 177 13 = some (.invokevirtual 139, 3) := by decide +kernel
set_option maxRecDepth 100000 in
theorem s177_13 {x0 : Nat} {x1 : Int32} {s0 : Nat} : ip_WP 177 13 [some (.ref x0), some (.int x1)] [.ref s0] (G, F, I, J) b post px ↔ (ip_isO G s0 8 = true ∧ ip_WP 176 0 [some (.ref s0)] [] (G, F, I, J) (0, 0) (fun r h' => ip_WP 177 16 [some (.ref x0), some (.int x1)] (r.toList ++ []) h' b post px) (fun _ _ => False)) := ip_ck_iff (x := ip_cl 176 [some (.ref s0)] [] (0, 0) b) ((ip_st_of f177_13).trans rfl) (ip_cl_iff)
theorem f177_16 : ip_fetch 177 16 = some (.ireturn, 1) := by decide +kernel
theorem s177_16 {x0 : Nat} {x1 : Int32} {s0 : Int32} : ip_WP 177 16 [some (.ref x0), some (.int x1)] [.int s0] (G, F, I, J) b post px ↔ post (some (.int s0)) (G, F, I, J) := ip_rt_iff ((ip_st_of f177_16).trans rfl)
theorem f177_17 : ip_fetch 177 17 = some (.aload_n 0, 1) := by decide +kernel
theorem s177_17 {x0 : Nat} {x1 : Int32} : ip_WP 177 17 [some (.ref x0), some (.int x1)] [] (G, F, I, J) b post px ↔ ip_WP 177 18 [some (.ref x0), some (.int x1)] [.ref x0] (G, F, I, J) b post px := ip_nx_iff ((ip_st_of f177_17).trans rfl)
theorem f177_18 : ip_fetch 177 18 = some (.iload_n 1, 1) := by decide +kernel
theorem s177_18 {x0 : Nat} {x1 : Int32} {s0 : Nat} : ip_WP 177 18 [some (.ref x0), some (.int x1)] [.ref s0] (G, F, I, J) b post px ↔ ip_WP 177 19 [some (.ref x0), some (.int x1)] [.int x1, .ref s0] (G, F, I, J) b post px := ip_nx_iff ((ip_st_of f177_18).trans rfl)
theorem f177_19 : ip_fetch 177 19 = some (.putfield 65, 3) := by decide +kernel
set_option maxRecDepth 100000 in
theorem s177_19 {x0 : Nat} {x1 : Int32} {s0 : Nat} {s1 : Int32} : ip_WP 177 19 [some (.ref x0), some (.int x1)] [.int s1, .ref s0] (G, F, I, J) b post px ↔ (ip_isO G s0 8 = true ∧ ip_WP 177 22 [some (.ref x0), some (.int x1)] [] (G, ip_up F s0 6 (.int s1), I, J) b post px) := ip_s_put f177_19 (by decide +kernel) rfl
theorem f177_22 : ip_fetch 177 22 = some (.iconst 0, 1) := by decide +kernel
theorem s177_22 {x0 : Nat} {x1 : Int32} : ip_WP 177 22 [some (.ref x0), some (.int x1)] [] (G, F, I, J) b post px ↔ ip_WP 177 23 [some (.ref x0), some (.int x1)] [.int 0] (G, F, I, J) b post px := ip_s_iconst f177_22 (by decide)
theorem f177_23 : ip_fetch 177 23 = some (.ireturn, 1) := by decide +kernel
theorem s177_23 {x0 : Nat} {x1 : Int32} {s0 : Int32} : ip_WP 177 23 [some (.ref x0), some (.int x1)] [.int s0] (G, F, I, J) b post px ↔ post (some (.int s0)) (G, F, I, J) := ip_rt_iff ((ip_st_of f177_23).trans rfl)
theorem f178_0 : ip_fetch 178 0 = some (.aload_n 0, 1) := by decide +kernel
theorem s178_0 {x0 : Nat} {x1 : Int32} : ip_WP 178 0 [some (.ref x0), some (.int x1)] [] (G, F, I, J) b post px ↔ ip_WP 178 1 [some (.ref x0), some (.int x1)] [.ref x0] (G, F, I, J) b post px := ip_nx_iff ((ip_st_of f178_0).trans rfl)
theorem f178_1 : ip_fetch 178 1 = some (.getfield 24, 3) := by decide +kernel
set_option maxRecDepth 100000 in
theorem s178_1 {x0 : Nat} {x1 : Int32} {s0 : Nat} : ip_WP 178 1 [some (.ref x0), some (.int x1)] [.ref s0] (G, F, I, J) b post px ↔ (ip_isO G s0 8 = true ∧ ip_WP 178 4 [some (.ref x0), some (.int x1)] [F s0 2] (G, F, I, J) b post px) := ip_s_getf f178_1 (by decide +kernel)
theorem f178_4 : ip_fetch 178 4 = some (.invokevirtual 52, 3) := by decide +kernel
set_option maxRecDepth 100000 in
theorem s178_4 {x0 : Nat} {x1 : Int32} {s0 : Nat} : ip_WP 178 4 [some (.ref x0), some (.int x1)] [.ref s0] (G, F, I, J) b post px ↔ (ip_isO G s0 5 = true ∧ ip_WP 127 0 [some (.ref s0)] [] (G, F, I, J) (0, 0) (fun r h' => ip_WP 178 7 [some (.ref x0), some (.int x1)] (r.toList ++ []) h' b post px) (fun _ _ => False)) := ip_ck_iff (x := ip_cl 127 [some (.ref s0)] [] (0, 0) b) ((ip_st_of f178_4).trans rfl) (ip_cl_iff)
theorem f178_7 : ip_fetch 178 7 = some (.iload_n 1, 1) := by decide +kernel
theorem s178_7 {x0 : Nat} {x1 : Int32} {s0 : Int32} : ip_WP 178 7 [some (.ref x0), some (.int x1)] [.int s0] (G, F, I, J) b post px ↔ ip_WP 178 8 [some (.ref x0), some (.int x1)] [.int x1, .int s0] (G, F, I, J) b post px := ip_nx_iff ((ip_st_of f178_7).trans rfl)
theorem f178_8 : ip_fetch 178 8 = some (.if_icmp .ne 7, 3) := by decide +kernel
theorem s178_8 {x0 : Nat} {x1 : Int32} {s0 : Int32} {s1 : Int32} : ip_WP 178 8 [some (.ref x0), some (.int x1)] [.int s1, .int s0] (G, F, I, J) b post px ↔ if ¬ s0 = s1 then ip_WP 178 15 [some (.ref x0), some (.int x1)] [] (G, F, I, J) b post px else ip_WP 178 11 [some (.ref x0), some (.int x1)] [] (G, F, I, J) b post px := ip_s_ic_ne f178_8 rfl
theorem f178_11 : ip_fetch 178 11 = some (.iconst 0, 1) := by decide +kernel
theorem s178_11 {x0 : Nat} {x1 : Int32} : ip_WP 178 11 [some (.ref x0), some (.int x1)] [] (G, F, I, J) b post px ↔ ip_WP 178 12 [some (.ref x0), some (.int x1)] [.int 0] (G, F, I, J) b post px := ip_s_iconst f178_11 (by decide)
theorem f178_12 : ip_fetch 178 12 = some (.goto 7, 3) := by decide +kernel
theorem s178_12 {x0 : Nat} {x1 : Int32} {s0 : Int32} : ip_WP 178 12 [some (.ref x0), some (.int x1)] [.int s0] (G, F, I, J) b post px ↔ ip_WP 178 19 [some (.ref x0), some (.int x1)] [.int s0] (G, F, I, J) b post px := ip_nx_iff ((ip_st_of f178_12).trans rfl)
theorem f178_15 : ip_fetch 178 15 = some (.aload_n 0, 1) := by decide +kernel
theorem s178_15 {x0 : Nat} {x1 : Int32} : ip_WP 178 15 [some (.ref x0), some (.int x1)] [] (G, F, I, J) b post px ↔ ip_WP 178 16 [some (.ref x0), some (.int x1)] [.ref x0] (G, F, I, J) b post px := ip_nx_iff ((ip_st_of f178_15).trans rfl)
theorem f178_16 : ip_fetch 178 16 = some (.invokevirtual 139, 3) := by decide +kernel
set_option maxRecDepth 100000 in
theorem s178_16 {x0 : Nat} {x1 : Int32} {s0 : Nat} : ip_WP 178 16 [some (.ref x0), some (.int x1)] [.ref s0] (G, F, I, J) b post px ↔ (ip_isO G s0 8 = true ∧ ip_WP 176 0 [some (.ref s0)] [] (G, F, I, J) (0, 0) (fun r h' => ip_WP 178 19 [some (.ref x0), some (.int x1)] (r.toList ++ []) h' b post px) (fun _ _ => False)) := ip_ck_iff (x := ip_cl 176 [some (.ref s0)] [] (0, 0) b) ((ip_st_of f178_16).trans rfl) (ip_cl_iff)
theorem f178_19 : ip_fetch 178 19 = some (.ireturn, 1) := by decide +kernel
theorem s178_19 {x0 : Nat} {x1 : Int32} {s0 : Int32} : ip_WP 178 19 [some (.ref x0), some (.int x1)] [.int s0] (G, F, I, J) b post px ↔ post (some (.int s0)) (G, F, I, J) := ip_rt_iff ((ip_st_of f178_19).trans rfl)
theorem f179_0 : ip_fetch 179 0 = some (.aload_n 0, 1) := by decide +kernel
theorem s179_0 {x0 : Nat} {x1 : Nat} : ip_WP 179 0 [some (.ref x0), some (.ref x1)] [] (G, F, I, J) b post px ↔ ip_WP 179 1 [some (.ref x0), some (.ref x1)] [.ref x0] (G, F, I, J) b post px := ip_nx_iff ((ip_st_of f179_0).trans rfl)
theorem f179_1 : ip_fetch 179 1 = some (.getfield 24, 3) := by decide +kernel
set_option maxRecDepth 100000 in
theorem s179_1 {x0 : Nat} {x1 : Nat} {s0 : Nat} : ip_WP 179 1 [some (.ref x0), some (.ref x1)] [.ref s0] (G, F, I, J) b post px ↔ (ip_isO G s0 8 = true ∧ ip_WP 179 4 [some (.ref x0), some (.ref x1)] [F s0 2] (G, F, I, J) b post px) := ip_s_getf f179_1 (by decide +kernel)
theorem f179_4 : ip_fetch 179 4 = some (.invokevirtual 52, 3) := by decide +kernel
set_option maxRecDepth 100000 in
theorem s179_4 {x0 : Nat} {x1 : Nat} {s0 : Nat} : ip_WP 179 4 [some (.ref x0), some (.ref x1)] [.ref s0] (G, F, I, J) b post px ↔ (ip_isO G s0 5 = true ∧ ip_WP 127 0 [some (.ref s0)] [] (G, F, I, J) (0, 0) (fun r h' => ip_WP 179 7 [some (.ref x0), some (.ref x1)] (r.toList ++ []) h' b post px) (fun _ _ => False)) := ip_ck_iff (x := ip_cl 127 [some (.ref s0)] [] (0, 0) b) ((ip_st_of f179_4).trans rfl) (ip_cl_iff)
theorem f179_7 : ip_fetch 179 7 = some (.iconst 2, 1) := by decide +kernel
theorem s179_7 {x0 : Nat} {x1 : Nat} {s0 : Int32} : ip_WP 179 7 [some (.ref x0), some (.ref x1)] [.int s0] (G, F, I, J) b post px ↔ ip_WP 179 8 [some (.ref x0), some (.ref x1)] [.int 2, .int s0] (G, F, I, J) b post px := ip_s_iconst f179_7 (by decide)
theorem f179_8 : ip_fetch 179 8 = some (.if_icmp .eq 5, 3) := by decide +kernel
theorem s179_8 {x0 : Nat} {x1 : Nat} {s0 : Int32} {s1 : Int32} : ip_WP 179 8 [some (.ref x0), some (.ref x1)] [.int s1, .int s0] (G, F, I, J) b post px ↔ if s0 = s1 then ip_WP 179 13 [some (.ref x0), some (.ref x1)] [] (G, F, I, J) b post px else ip_WP 179 11 [some (.ref x0), some (.ref x1)] [] (G, F, I, J) b post px := ip_s_ic_eq f179_8 rfl
theorem f179_11 : ip_fetch 179 11 = some (.iconst 2, 1) := by decide +kernel
theorem s179_11 {x0 : Nat} {x1 : Nat} : ip_WP 179 11 [some (.ref x0), some (.ref x1)] [] (G, F, I, J) b post px ↔ ip_WP 179 12 [some (.ref x0), some (.ref x1)] [.int 2] (G, F, I, J) b post px := ip_s_iconst f179_11 (by decide)
theorem f179_12 : ip_fetch 179 12 = some (.ireturn, 1) := by decide +kernel
theorem s179_12 {x0 : Nat} {x1 : Nat} {s0 : Int32} : ip_WP 179 12 [some (.ref x0), some (.ref x1)] [.int s0] (G, F, I, J) b post px ↔ post (some (.int s0)) (G, F, I, J) := ip_rt_iff ((ip_st_of f179_12).trans rfl)
theorem f179_13 : ip_fetch 179 13 = some (.aload_n 1, 1) := by decide +kernel
theorem s179_13 {x0 : Nat} {x1 : Nat} : ip_WP 179 13 [some (.ref x0), some (.ref x1)] [] (G, F, I, J) b post px ↔ ip_WP 179 14 [some (.ref x0), some (.ref x1)] [.ref x1] (G, F, I, J) b post px := ip_nx_iff ((ip_st_of f179_13).trans rfl)
theorem f179_14 : ip_fetch 179 14 = some (.invokevirtual 175, 3) := by decide +kernel
set_option maxRecDepth 100000 in
theorem s179_14 {x0 : Nat} {x1 : Nat} {s0 : Nat} : ip_WP 179 14 [some (.ref x0), some (.ref x1)] [.ref s0] (G, F, I, J) b post px ↔ (ip_isO G s0 6 = true ∧ ip_WP 144 0 [some (.ref s0)] [] (G, F, I, J) (0, 0) (fun r h' => ip_WP 179 17 [some (.ref x0), some (.ref x1)] (r.toList ++ []) h' b post px) (fun _ _ => False)) := ip_ck_iff (x := ip_cl 144 [some (.ref s0)] [] (0, 0) b) ((ip_st_of f179_14).trans rfl) (ip_cl_iff)
theorem f179_17 : ip_fetch 179 17 = some (.ifCond .eq 5, 3) := by decide +kernel
theorem s179_17 {x0 : Nat} {x1 : Nat} {s0 : Int32} : ip_WP 179 17 [some (.ref x0), some (.ref x1)] [.int s0] (G, F, I, J) b post px ↔ if s0 = 0 then ip_WP 179 22 [some (.ref x0), some (.ref x1)] [] (G, F, I, J) b post px else ip_WP 179 20 [some (.ref x0), some (.ref x1)] [] (G, F, I, J) b post px := ip_s_if_eq f179_17 rfl
theorem f179_20 : ip_fetch 179 20 = some (.iconst 3, 1) := by decide +kernel
theorem s179_20 {x0 : Nat} {x1 : Nat} : ip_WP 179 20 [some (.ref x0), some (.ref x1)] [] (G, F, I, J) b post px ↔ ip_WP 179 21 [some (.ref x0), some (.ref x1)] [.int 3] (G, F, I, J) b post px := ip_s_iconst f179_20 (by decide)
theorem f179_21 : ip_fetch 179 21 = some (.ireturn, 1) := by decide +kernel
theorem s179_21 {x0 : Nat} {x1 : Nat} {s0 : Int32} : ip_WP 179 21 [some (.ref x0), some (.ref x1)] [.int s0] (G, F, I, J) b post px ↔ post (some (.int s0)) (G, F, I, J) := ip_rt_iff ((ip_st_of f179_21).trans rfl)
theorem f179_22 : ip_fetch 179 22 = some (.aload_n 0, 1) := by decide +kernel
theorem s179_22 {x0 : Nat} {x1 : Nat} : ip_WP 179 22 [some (.ref x0), some (.ref x1)] [] (G, F, I, J) b post px ↔ ip_WP 179 23 [some (.ref x0), some (.ref x1)] [.ref x0] (G, F, I, J) b post px := ip_nx_iff ((ip_st_of f179_22).trans rfl)
theorem f179_23 : ip_fetch 179 23 = some (.getfield 15, 3) := by decide +kernel
set_option maxRecDepth 100000 in
theorem s179_23 {x0 : Nat} {x1 : Nat} {s0 : Nat} : ip_WP 179 23 [some (.ref x0), some (.ref x1)] [.ref s0] (G, F, I, J) b post px ↔ (ip_isO G s0 8 = true ∧ ip_WP 179 26 [some (.ref x0), some (.ref x1)] [F s0 1] (G, F, I, J) b post px) := ip_s_getf f179_23 (by decide +kernel)
theorem f179_26 : ip_fetch 179 26 = some (.aload_n 0, 1) := by decide +kernel
theorem s179_26 {x0 : Nat} {x1 : Nat} {s0 : Nat} : ip_WP 179 26 [some (.ref x0), some (.ref x1)] [.ref s0] (G, F, I, J) b post px ↔ ip_WP 179 27 [some (.ref x0), some (.ref x1)] [.ref x0, .ref s0] (G, F, I, J) b post px := ip_nx_iff ((ip_st_of f179_26).trans rfl)
theorem f179_27 : ip_fetch 179 27 = some (.getfield 24, 3) := by decide +kernel
set_option maxRecDepth 100000 in
theorem s179_27 {x0 : Nat} {x1 : Nat} {s0 : Nat} {s1 : Nat} : ip_WP 179 27 [some (.ref x0), some (.ref x1)] [.ref s1, .ref s0] (G, F, I, J) b post px ↔ (ip_isO G s1 8 = true ∧ ip_WP 179 30 [some (.ref x0), some (.ref x1)] [F s1 2, .ref s0] (G, F, I, J) b post px) := ip_s_getf f179_27 (by decide +kernel)
theorem f179_30 : ip_fetch 179 30 = some (.invokevirtual 181, 3) := by decide +kernel
set_option maxRecDepth 100000 in
theorem s179_30 {x0 : Nat} {x1 : Nat} {s0 : Nat} {s1 : Nat} : ip_WP 179 30 [some (.ref x0), some (.ref x1)] [.ref s1, .ref s0] (G, F, I, J) b post px ↔ (ip_isO G s1 5 = true ∧ ip_WP 129 0 [some (.ref s1)] [] (G, F, I, J) (0, 0) (fun r h' => ip_WP 179 33 [some (.ref x0), some (.ref x1)] (r.toList ++ [.ref s0]) h' b post px) (fun _ _ => False)) := ip_ck_iff (x := ip_cl 129 [some (.ref s1)] [.ref s0] (0, 0) b) ((ip_st_of f179_30).trans rfl) (ip_cl_iff)
theorem f179_33 : ip_fetch 179 33 = some (.invokevirtual 185, 3) := by decide +kernel
set_option maxRecDepth 100000 in
theorem s179_33 {x0 : Nat} {x1 : Nat} {s0 : Nat} {s1 : Int64} : ip_WP 179 33 [some (.ref x0), some (.ref x1)] [.long s1, .ref s0] (G, F, I, J) b post px ↔ (ip_isO G s0 3 = true ∧ ip_WP 106 0 [some (.ref s0), some (.long s1), none] [] (G, F, I, J) (0, 0) (fun r h' => ip_WP 179 36 [some (.ref x0), some (.ref x1)] (r.toList ++ []) h' b post px) (fun _ _ => False)) := ip_ck_iff (x := ip_cl 106 [some (.ref s0), some (.long s1), none] [] (0, 0) b) ((ip_st_of f179_33).trans rfl) (ip_cl_iff)
theorem f179_36 : ip_fetch 179 36 = some (.ifCond .eq 5, 3) := by decide +kernel
theorem s179_36 {x0 : Nat} {x1 : Nat} {s0 : Int32} : ip_WP 179 36 [some (.ref x0), some (.ref x1)] [.int s0] (G, F, I, J) b post px ↔ if s0 = 0 then ip_WP 179 41 [some (.ref x0), some (.ref x1)] [] (G, F, I, J) b post px else ip_WP 179 39 [some (.ref x0), some (.ref x1)] [] (G, F, I, J) b post px := ip_s_if_eq f179_36 rfl
theorem f179_39 : ip_fetch 179 39 = some (.iconst 4, 1) := by decide +kernel
theorem s179_39 {x0 : Nat} {x1 : Nat} : ip_WP 179 39 [some (.ref x0), some (.ref x1)] [] (G, F, I, J) b post px ↔ ip_WP 179 40 [some (.ref x0), some (.ref x1)] [.int 4] (G, F, I, J) b post px := ip_s_iconst f179_39 (by decide)
theorem f179_40 : ip_fetch 179 40 = some (.ireturn, 1) := by decide +kernel
theorem s179_40 {x0 : Nat} {x1 : Nat} {s0 : Int32} : ip_WP 179 40 [some (.ref x0), some (.ref x1)] [.int s0] (G, F, I, J) b post px ↔ post (some (.int s0)) (G, F, I, J) := ip_rt_iff ((ip_st_of f179_40).trans rfl)
theorem f179_41 : ip_fetch 179 41 = some (.aload_n 0, 1) := by decide +kernel
theorem s179_41 {x0 : Nat} {x1 : Nat} : ip_WP 179 41 [some (.ref x0), some (.ref x1)] [] (G, F, I, J) b post px ↔ ip_WP 179 42 [some (.ref x0), some (.ref x1)] [.ref x0] (G, F, I, J) b post px := ip_nx_iff ((ip_st_of f179_41).trans rfl)
theorem f179_42 : ip_fetch 179 42 = some (.aload_n 1, 1) := by decide +kernel
theorem s179_42 {x0 : Nat} {x1 : Nat} {s0 : Nat} : ip_WP 179 42 [some (.ref x0), some (.ref x1)] [.ref s0] (G, F, I, J) b post px ↔ ip_WP 179 43 [some (.ref x0), some (.ref x1)] [.ref x1, .ref s0] (G, F, I, J) b post px := ip_nx_iff ((ip_st_of f179_42).trans rfl)
theorem f179_43 : ip_fetch 179 43 = some (.aload_n 0, 1) := by decide +kernel
theorem s179_43 {x0 : Nat} {x1 : Nat} {s0 : Nat} {s1 : Nat} : ip_WP 179 43 [some (.ref x0), some (.ref x1)] [.ref s1, .ref s0] (G, F, I, J) b post px ↔ ip_WP 179 44 [some (.ref x0), some (.ref x1)] [.ref x0, .ref s1, .ref s0] (G, F, I, J) b post px := ip_nx_iff ((ip_st_of f179_43).trans rfl)
theorem f179_44 : ip_fetch 179 44 = some (.getfield 24, 3) := by decide +kernel
set_option maxRecDepth 100000 in
theorem s179_44 {x0 : Nat} {x1 : Nat} {s0 : Nat} {s1 : Nat} {s2 : Nat} : ip_WP 179 44 [some (.ref x0), some (.ref x1)] [.ref s2, .ref s1, .ref s0] (G, F, I, J) b post px ↔ (ip_isO G s2 8 = true ∧ ip_WP 179 47 [some (.ref x0), some (.ref x1)] [F s2 2, .ref s1, .ref s0] (G, F, I, J) b post px) := ip_s_getf f179_44 (by decide +kernel)
theorem f179_47 : ip_fetch 179 47 = some (.invokevirtual 181, 3) := by decide +kernel
set_option maxRecDepth 100000 in
theorem s179_47 {x0 : Nat} {x1 : Nat} {s0 : Nat} {s1 : Nat} {s2 : Nat} : ip_WP 179 47 [some (.ref x0), some (.ref x1)] [.ref s2, .ref s1, .ref s0] (G, F, I, J) b post px ↔ (ip_isO G s2 5 = true ∧ ip_WP 129 0 [some (.ref s2)] [] (G, F, I, J) (0, 0) (fun r h' => ip_WP 179 50 [some (.ref x0), some (.ref x1)] (r.toList ++ [.ref s1, .ref s0]) h' b post px) (fun _ _ => False)) := ip_ck_iff (x := ip_cl 129 [some (.ref s2)] [.ref s1, .ref s0] (0, 0) b) ((ip_st_of f179_47).trans rfl) (ip_cl_iff)
theorem f179_50 : ip_fetch 179 50 = some (.invokevirtual 189, 3) := by decide +kernel
set_option maxRecDepth 100000 in
theorem s179_50 {x0 : Nat} {x1 : Nat} {s0 : Nat} {s1 : Nat} {s2 : Int64} : ip_WP 179 50 [some (.ref x0), some (.ref x1)] [.long s2, .ref s1, .ref s0] (G, F, I, J) b post px ↔ (ip_isO G s1 6 = true ∧ ip_WP 146 0 [some (.ref s1), some (.long s2), none] [] (G, F, I, J) (0, 0) (fun r h' => ip_WP 179 53 [some (.ref x0), some (.ref x1)] (r.toList ++ [.ref s0]) h' b post px) (fun _ _ => False)) := ip_ck_iff (x := ip_cl 146 [some (.ref s1), some (.long s2), none] [.ref s0] (0, 0) b) ((ip_st_of f179_50).trans rfl) (ip_cl_iff)
theorem f179_53 : ip_fetch 179 53 = some (.putfield 68, 3) := by decide +kernel
set_option maxRecDepth 100000 in
theorem s179_53 {x0 : Nat} {x1 : Nat} {s0 : Nat} {s1 : Int32} : ip_WP 179 53 [some (.ref x0), some (.ref x1)] [.int s1, .ref s0] (G, F, I, J) b post px ↔ (ip_isO G s0 8 = true ∧ ip_WP 179 56 [some (.ref x0), some (.ref x1)] [] (G, ip_up F s0 7 (.int s1), I, J) b post px) := ip_s_put f179_53 (by decide +kernel) rfl
theorem f179_56 : ip_fetch 179 56 = some (.iconst 0, 1) := by decide +kernel
theorem s179_56 {x0 : Nat} {x1 : Nat} : ip_WP 179 56 [some (.ref x0), some (.ref x1)] [] (G, F, I, J) b post px ↔ ip_WP 179 57 [some (.ref x0), some (.ref x1)] [.int 0] (G, F, I, J) b post px := ip_s_iconst f179_56 (by decide)
theorem f179_57 : ip_fetch 179 57 = some (.ireturn, 1) := by decide +kernel
theorem s179_57 {x0 : Nat} {x1 : Nat} {s0 : Int32} : ip_WP 179 57 [some (.ref x0), some (.ref x1)] [.int s0] (G, F, I, J) b post px ↔ post (some (.int s0)) (G, F, I, J) := ip_rt_iff ((ip_st_of f179_57).trans rfl)
theorem f180_0 : ip_fetch 180 0 = some (.aload_n 0, 1) := by decide +kernel
theorem s180_0 {x0 : Nat} {x1 : Nat} : ip_WP 180 0 [some (.ref x0), some (.ref x1)] [] (G, F, I, J) b post px ↔ ip_WP 180 1 [some (.ref x0), some (.ref x1)] [.ref x0] (G, F, I, J) b post px := ip_nx_iff ((ip_st_of f180_0).trans rfl)
theorem f180_1 : ip_fetch 180 1 = some (.getfield 24, 3) := by decide +kernel
set_option maxRecDepth 100000 in
theorem s180_1 {x0 : Nat} {x1 : Nat} {s0 : Nat} : ip_WP 180 1 [some (.ref x0), some (.ref x1)] [.ref s0] (G, F, I, J) b post px ↔ (ip_isO G s0 8 = true ∧ ip_WP 180 4 [some (.ref x0), some (.ref x1)] [F s0 2] (G, F, I, J) b post px) := ip_s_getf f180_1 (by decide +kernel)
theorem f180_4 : ip_fetch 180 4 = some (.invokevirtual 52, 3) := by decide +kernel
set_option maxRecDepth 100000 in
theorem s180_4 {x0 : Nat} {x1 : Nat} {s0 : Nat} : ip_WP 180 4 [some (.ref x0), some (.ref x1)] [.ref s0] (G, F, I, J) b post px ↔ (ip_isO G s0 5 = true ∧ ip_WP 127 0 [some (.ref s0)] [] (G, F, I, J) (0, 0) (fun r h' => ip_WP 180 7 [some (.ref x0), some (.ref x1)] (r.toList ++ []) h' b post px) (fun _ _ => False)) := ip_ck_iff (x := ip_cl 127 [some (.ref s0)] [] (0, 0) b) ((ip_st_of f180_4).trans rfl) (ip_cl_iff)
theorem f180_7 : ip_fetch 180 7 = some (.iconst 2, 1) := by decide +kernel
theorem s180_7 {x0 : Nat} {x1 : Nat} {s0 : Int32} : ip_WP 180 7 [some (.ref x0), some (.ref x1)] [.int s0] (G, F, I, J) b post px ↔ ip_WP 180 8 [some (.ref x0), some (.ref x1)] [.int 2, .int s0] (G, F, I, J) b post px := ip_s_iconst f180_7 (by decide)
theorem f180_8 : ip_fetch 180 8 = some (.if_icmp .eq 5, 3) := by decide +kernel
theorem s180_8 {x0 : Nat} {x1 : Nat} {s0 : Int32} {s1 : Int32} : ip_WP 180 8 [some (.ref x0), some (.ref x1)] [.int s1, .int s0] (G, F, I, J) b post px ↔ if s0 = s1 then ip_WP 180 13 [some (.ref x0), some (.ref x1)] [] (G, F, I, J) b post px else ip_WP 180 11 [some (.ref x0), some (.ref x1)] [] (G, F, I, J) b post px := ip_s_ic_eq f180_8 rfl
theorem f180_11 : ip_fetch 180 11 = some (.iconst 2, 1) := by decide +kernel
theorem s180_11 {x0 : Nat} {x1 : Nat} : ip_WP 180 11 [some (.ref x0), some (.ref x1)] [] (G, F, I, J) b post px ↔ ip_WP 180 12 [some (.ref x0), some (.ref x1)] [.int 2] (G, F, I, J) b post px := ip_s_iconst f180_11 (by decide)
theorem f180_12 : ip_fetch 180 12 = some (.ireturn, 1) := by decide +kernel
theorem s180_12 {x0 : Nat} {x1 : Nat} {s0 : Int32} : ip_WP 180 12 [some (.ref x0), some (.ref x1)] [.int s0] (G, F, I, J) b post px ↔ post (some (.int s0)) (G, F, I, J) := ip_rt_iff ((ip_st_of f180_12).trans rfl)
theorem f180_13 : ip_fetch 180 13 = some (.aload_n 0, 1) := by decide +kernel
theorem s180_13 {x0 : Nat} {x1 : Nat} : ip_WP 180 13 [some (.ref x0), some (.ref x1)] [] (G, F, I, J) b post px ↔ ip_WP 180 14 [some (.ref x0), some (.ref x1)] [.ref x0] (G, F, I, J) b post px := ip_nx_iff ((ip_st_of f180_13).trans rfl)
theorem f180_14 : ip_fetch 180 14 = some (.aload_n 1, 1) := by decide +kernel
theorem s180_14 {x0 : Nat} {x1 : Nat} {s0 : Nat} : ip_WP 180 14 [some (.ref x0), some (.ref x1)] [.ref s0] (G, F, I, J) b post px ↔ ip_WP 180 15 [some (.ref x0), some (.ref x1)] [.ref x1, .ref s0] (G, F, I, J) b post px := ip_nx_iff ((ip_st_of f180_14).trans rfl)
theorem f180_15 : ip_fetch 180 15 = some (.aload_n 0, 1) := by decide +kernel
theorem s180_15 {x0 : Nat} {x1 : Nat} {s0 : Nat} {s1 : Nat} : ip_WP 180 15 [some (.ref x0), some (.ref x1)] [.ref s1, .ref s0] (G, F, I, J) b post px ↔ ip_WP 180 16 [some (.ref x0), some (.ref x1)] [.ref x0, .ref s1, .ref s0] (G, F, I, J) b post px := ip_nx_iff ((ip_st_of f180_15).trans rfl)
theorem f180_16 : ip_fetch 180 16 = some (.getfield 24, 3) := by decide +kernel
set_option maxRecDepth 100000 in
theorem s180_16 {x0 : Nat} {x1 : Nat} {s0 : Nat} {s1 : Nat} {s2 : Nat} : ip_WP 180 16 [some (.ref x0), some (.ref x1)] [.ref s2, .ref s1, .ref s0] (G, F, I, J) b post px ↔ (ip_isO G s2 8 = true ∧ ip_WP 180 19 [some (.ref x0), some (.ref x1)] [F s2 2, .ref s1, .ref s0] (G, F, I, J) b post px) := ip_s_getf f180_16 (by decide +kernel)
theorem f180_19 : ip_fetch 180 19 = some (.invokevirtual 181, 3) := by decide +kernel
set_option maxRecDepth 100000 in
theorem s180_19 {x0 : Nat} {x1 : Nat} {s0 : Nat} {s1 : Nat} {s2 : Nat} : ip_WP 180 19 [some (.ref x0), some (.ref x1)] [.ref s2, .ref s1, .ref s0] (G, F, I, J) b post px ↔ (ip_isO G s2 5 = true ∧ ip_WP 129 0 [some (.ref s2)] [] (G, F, I, J) (0, 0) (fun r h' => ip_WP 180 22 [some (.ref x0), some (.ref x1)] (r.toList ++ [.ref s1, .ref s0]) h' b post px) (fun _ _ => False)) := ip_ck_iff (x := ip_cl 129 [some (.ref s2)] [.ref s1, .ref s0] (0, 0) b) ((ip_st_of f180_19).trans rfl) (ip_cl_iff)
theorem f180_22 : ip_fetch 180 22 = some (.invokevirtual 193, 3) := by decide +kernel
set_option maxRecDepth 100000 in
theorem s180_22 {x0 : Nat} {x1 : Nat} {s0 : Nat} {s1 : Nat} {s2 : Int64} : ip_WP 180 22 [some (.ref x0), some (.ref x1)] [.long s2, .ref s1, .ref s0] (G, F, I, J) b post px ↔ (ip_isO G s1 6 = true ∧ ip_WP 148 0 [some (.ref s1), some (.long s2), none, none] [] (G, F, I, J) (0, 0) (fun r h' => ip_WP 180 25 [some (.ref x0), some (.ref x1)] (r.toList ++ [.ref s0]) h' b post px) (fun _ _ => False)) := ip_ck_iff (x := ip_cl 148 [some (.ref s1), some (.long s2), none, none] [.ref s0] (0, 0) b) ((ip_st_of f180_22).trans rfl) (ip_cl_iff)
theorem f180_25 : ip_fetch 180 25 = some (.putfield 71, 3) := by decide +kernel
set_option maxRecDepth 100000 in
theorem s180_25 {x0 : Nat} {x1 : Nat} {s0 : Nat} {s1 : Int32} : ip_WP 180 25 [some (.ref x0), some (.ref x1)] [.int s1, .ref s0] (G, F, I, J) b post px ↔ (ip_isO G s0 8 = true ∧ ip_WP 180 28 [some (.ref x0), some (.ref x1)] [] (G, ip_up F s0 8 (.int s1), I, J) b post px) := ip_s_put f180_25 (by decide +kernel) rfl
theorem f180_28 : ip_fetch 180 28 = some (.aload_n 0, 1) := by decide +kernel
theorem s180_28 {x0 : Nat} {x1 : Nat} : ip_WP 180 28 [some (.ref x0), some (.ref x1)] [] (G, F, I, J) b post px ↔ ip_WP 180 29 [some (.ref x0), some (.ref x1)] [.ref x0] (G, F, I, J) b post px := ip_nx_iff ((ip_st_of f180_28).trans rfl)
theorem f180_29 : ip_fetch 180 29 = some (.getfield 71, 3) := by decide +kernel
set_option maxRecDepth 100000 in
theorem s180_29 {x0 : Nat} {x1 : Nat} {s0 : Nat} : ip_WP 180 29 [some (.ref x0), some (.ref x1)] [.ref s0] (G, F, I, J) b post px ↔ (ip_isO G s0 8 = true ∧ ip_WP 180 32 [some (.ref x0), some (.ref x1)] [F s0 8] (G, F, I, J) b post px) := ip_s_getf f180_29 (by decide +kernel)
theorem f180_32 : ip_fetch 180 32 = some (.iconst (-1), 1) := by decide +kernel
theorem s180_32 {x0 : Nat} {x1 : Nat} {s0 : Int32} : ip_WP 180 32 [some (.ref x0), some (.ref x1)] [.int s0] (G, F, I, J) b post px ↔ ip_WP 180 33 [some (.ref x0), some (.ref x1)] [.int (-1), .int s0] (G, F, I, J) b post px := ip_s_iconst f180_32 (by decide)
theorem f180_33 : ip_fetch 180 33 = some (.if_icmp .eq 5, 3) := by decide +kernel
theorem s180_33 {x0 : Nat} {x1 : Nat} {s0 : Int32} {s1 : Int32} : ip_WP 180 33 [some (.ref x0), some (.ref x1)] [.int s1, .int s0] (G, F, I, J) b post px ↔ if s0 = s1 then ip_WP 180 38 [some (.ref x0), some (.ref x1)] [] (G, F, I, J) b post px else ip_WP 180 36 [some (.ref x0), some (.ref x1)] [] (G, F, I, J) b post px := ip_s_ic_eq f180_33 rfl
theorem f180_36 : ip_fetch 180 36 = some (.iconst 0, 1) := by decide +kernel
theorem s180_36 {x0 : Nat} {x1 : Nat} : ip_WP 180 36 [some (.ref x0), some (.ref x1)] [] (G, F, I, J) b post px ↔ ip_WP 180 37 [some (.ref x0), some (.ref x1)] [.int 0] (G, F, I, J) b post px := ip_s_iconst f180_36 (by decide)
theorem f180_37 : ip_fetch 180 37 = some (.ireturn, 1) := by decide +kernel
theorem s180_37 {x0 : Nat} {x1 : Nat} {s0 : Int32} : ip_WP 180 37 [some (.ref x0), some (.ref x1)] [.int s0] (G, F, I, J) b post px ↔ post (some (.int s0)) (G, F, I, J) := ip_rt_iff ((ip_st_of f180_37).trans rfl)
theorem f180_38 : ip_fetch 180 38 = some (.aload_n 0, 1) := by decide +kernel
theorem s180_38 {x0 : Nat} {x1 : Nat} : ip_WP 180 38 [some (.ref x0), some (.ref x1)] [] (G, F, I, J) b post px ↔ ip_WP 180 39 [some (.ref x0), some (.ref x1)] [.ref x0] (G, F, I, J) b post px := ip_nx_iff ((ip_st_of f180_38).trans rfl)
theorem f180_39 : ip_fetch 180 39 = some (.getfield 15, 3) := by decide +kernel
set_option maxRecDepth 100000 in
theorem s180_39 {x0 : Nat} {x1 : Nat} {s0 : Nat} : ip_WP 180 39 [some (.ref x0), some (.ref x1)] [.ref s0] (G, F, I, J) b post px ↔ (ip_isO G s0 8 = true ∧ ip_WP 180 42 [some (.ref x0), some (.ref x1)] [F s0 1] (G, F, I, J) b post px) := ip_s_getf f180_39 (by decide +kernel)
theorem f180_42 : ip_fetch 180 42 = some (.aload_n 0, 1) := by decide +kernel
theorem s180_42 {x0 : Nat} {x1 : Nat} {s0 : Nat} : ip_WP 180 42 [some (.ref x0), some (.ref x1)] [.ref s0] (G, F, I, J) b post px ↔ ip_WP 180 43 [some (.ref x0), some (.ref x1)] [.ref x0, .ref s0] (G, F, I, J) b post px := ip_nx_iff ((ip_st_of f180_42).trans rfl)
theorem f180_43 : ip_fetch 180 43 = some (.getfield 24, 3) := by decide +kernel
set_option maxRecDepth 100000 in
theorem s180_43 {x0 : Nat} {x1 : Nat} {s0 : Nat} {s1 : Nat} : ip_WP 180 43 [some (.ref x0), some (.ref x1)] [.ref s1, .ref s0] (G, F, I, J) b post px ↔ (ip_isO G s1 8 = true ∧ ip_WP 180 46 [some (.ref x0), some (.ref x1)] [F s1 2, .ref s0] (G, F, I, J) b post px) := ip_s_getf f180_43 (by decide +kernel)
theorem f180_46 : ip_fetch 180 46 = some (.invokevirtual 181, 3) := by decide +kernel
set_option maxRecDepth 100000 in
theorem s180_46 {x0 : Nat} {x1 : Nat} {s0 : Nat} {s1 : Nat} : ip_WP 180 46 [some (.ref x0), some (.ref x1)] [.ref s1, .ref s0] (G, F, I, J) b post px ↔ (ip_isO G s1 5 = true ∧ ip_WP 129 0 [some (.ref s1)] [] (G, F, I, J) (0, 0) (fun r h' => ip_WP 180 49 [some (.ref x0), some (.ref x1)] (r.toList ++ [.ref s0]) h' b post px) (fun _ _ => False)) := ip_ck_iff (x := ip_cl 129 [some (.ref s1)] [.ref s0] (0, 0) b) ((ip_st_of f180_46).trans rfl) (ip_cl_iff)
theorem f180_49 : ip_fetch 180 49 = some (.invokevirtual 185, 3) := by decide +kernel
set_option maxRecDepth 100000 in
theorem s180_49 {x0 : Nat} {x1 : Nat} {s0 : Nat} {s1 : Int64} : ip_WP 180 49 [some (.ref x0), some (.ref x1)] [.long s1, .ref s0] (G, F, I, J) b post px ↔ (ip_isO G s0 3 = true ∧ ip_WP 106 0 [some (.ref s0), some (.long s1), none] [] (G, F, I, J) (0, 0) (fun r h' => ip_WP 180 52 [some (.ref x0), some (.ref x1)] (r.toList ++ []) h' b post px) (fun _ _ => False)) := ip_ck_iff (x := ip_cl 106 [some (.ref s0), some (.long s1), none] [] (0, 0) b) ((ip_st_of f180_49).trans rfl) (ip_cl_iff)
theorem f180_52 : ip_fetch 180 52 = some (.ifCond .eq 8, 3) := by decide +kernel
theorem s180_52 {x0 : Nat} {x1 : Nat} {s0 : Int32} : ip_WP 180 52 [some (.ref x0), some (.ref x1)] [.int s0] (G, F, I, J) b post px ↔ if s0 = 0 then ip_WP 180 60 [some (.ref x0), some (.ref x1)] [] (G, F, I, J) b post px else ip_WP 180 55 [some (.ref x0), some (.ref x1)] [] (G, F, I, J) b post px := ip_s_if_eq f180_52 rfl
theorem f180_55 : ip_fetch 180 55 = some (.bipush 6, 2) := by decide +kernel
theorem s180_55 {x0 : Nat} {x1 : Nat} : ip_WP 180 55 [some (.ref x0), some (.ref x1)] [] (G, F, I, J) b post px ↔ ip_WP 180 57 [some (.ref x0), some (.ref x1)] [.int 6] (G, F, I, J) b post px := ip_s_bipush f180_55 (by decide)
theorem f180_57 : ip_fetch 180 57 = some (.goto 4, 3) := by decide +kernel
theorem s180_57 {x0 : Nat} {x1 : Nat} {s0 : Int32} : ip_WP 180 57 [some (.ref x0), some (.ref x1)] [.int s0] (G, F, I, J) b post px ↔ ip_WP 180 61 [some (.ref x0), some (.ref x1)] [.int s0] (G, F, I, J) b post px := ip_nx_iff ((ip_st_of f180_57).trans rfl)
theorem f180_60 : ip_fetch 180 60 = some (.iconst 5, 1) := by decide +kernel
theorem s180_60 {x0 : Nat} {x1 : Nat} : ip_WP 180 60 [some (.ref x0), some (.ref x1)] [] (G, F, I, J) b post px ↔ ip_WP 180 61 [some (.ref x0), some (.ref x1)] [.int 5] (G, F, I, J) b post px := ip_s_iconst f180_60 (by decide)
theorem f180_61 : ip_fetch 180 61 = some (.ireturn, 1) := by decide +kernel
theorem s180_61 {x0 : Nat} {x1 : Nat} {s0 : Int32} : ip_WP 180 61 [some (.ref x0), some (.ref x1)] [.int s0] (G, F, I, J) b post px ↔ post (some (.int s0)) (G, F, I, J) := ip_rt_iff ((ip_st_of f180_61).trans rfl)
theorem f181_0 : ip_fetch 181 0 = some (.aload_n 0, 1) := by decide +kernel
theorem s181_0 {x0 : Nat} {x1 : Option Value} : ip_WP 181 0 [some (.ref x0), x1] [] (G, F, I, J) b post px ↔ ip_WP 181 1 [some (.ref x0), x1] [.ref x0] (G, F, I, J) b post px := ip_nx_iff ((ip_st_of f181_0).trans rfl)
theorem f181_1 : ip_fetch 181 1 = some (.getfield 24, 3) := by decide +kernel
set_option maxRecDepth 100000 in
theorem s181_1 {x0 : Nat} {x1 : Option Value} {s0 : Nat} : ip_WP 181 1 [some (.ref x0), x1] [.ref s0] (G, F, I, J) b post px ↔ (ip_isO G s0 8 = true ∧ ip_WP 181 4 [some (.ref x0), x1] [F s0 2] (G, F, I, J) b post px) := ip_s_getf f181_1 (by decide +kernel)
theorem f181_4 : ip_fetch 181 4 = some (.invokevirtual 52, 3) := by decide +kernel
set_option maxRecDepth 100000 in
theorem s181_4 {x0 : Nat} {x1 : Option Value} {s0 : Nat} : ip_WP 181 4 [some (.ref x0), x1] [.ref s0] (G, F, I, J) b post px ↔ (ip_isO G s0 5 = true ∧ ip_WP 127 0 [some (.ref s0)] [] (G, F, I, J) (0, 0) (fun r h' => ip_WP 181 7 [some (.ref x0), x1] (r.toList ++ []) h' b post px) (fun _ _ => False)) := ip_ck_iff (x := ip_cl 127 [some (.ref s0)] [] (0, 0) b) ((ip_st_of f181_4).trans rfl) (ip_cl_iff)
theorem f181_7 : ip_fetch 181 7 = some (.sipush 266, 3) := by decide +kernel
theorem s181_7 {x0 : Nat} {x1 : Option Value} {s0 : Int32} : ip_WP 181 7 [some (.ref x0), x1] [.int s0] (G, F, I, J) b post px ↔ ip_WP 181 10 [some (.ref x0), x1] [.int 266, .int s0] (G, F, I, J) b post px := ip_s_sipush f181_7 (by decide)
theorem f181_10 : ip_fetch 181 10 = some (.isub, 1) := by decide +kernel
theorem s181_10 {x0 : Nat} {x1 : Option Value} {s0 : Int32} {s1 : Int32} : ip_WP 181 10 [some (.ref x0), x1] [.int s1, .int s0] (G, F, I, J) b post px ↔ ip_WP 181 11 [some (.ref x0), x1] [.int (s0 - s1)] (G, F, I, J) b post px := ip_nx_iff ((ip_st_of f181_10).trans rfl)
theorem f181_11 : ip_fetch 181 11 = some (.istore_n 1, 1) := by decide +kernel
theorem s181_11 {x0 : Nat} {x1 : Option Value} {s0 : Int32} : ip_WP 181 11 [some (.ref x0), x1] [.int s0] (G, F, I, J) b post px ↔ ip_WP 181 12 [some (.ref x0), some (.int s0)] [] (G, F, I, J) b post px := ip_nx_iff ((ip_st_of f181_11).trans rfl)
theorem f181_12 : ip_fetch 181 12 = some (.iload_n 1, 1) := by decide +kernel
theorem s181_12 {x0 : Nat} {x1 : Int32} : ip_WP 181 12 [some (.ref x0), some (.int x1)] [] (G, F, I, J) b post px ↔ ip_WP 181 13 [some (.ref x0), some (.int x1)] [.int x1] (G, F, I, J) b post px := ip_nx_iff ((ip_st_of f181_12).trans rfl)
theorem f181_13 : ip_fetch 181 13 = some (.ifCond .lt 9, 3) := by decide +kernel
theorem s181_13 {x0 : Nat} {x1 : Int32} {s0 : Int32} : ip_WP 181 13 [some (.ref x0), some (.int x1)] [.int s0] (G, F, I, J) b post px ↔ if s0 < 0 then ip_WP 181 22 [some (.ref x0), some (.int x1)] [] (G, F, I, J) b post px else ip_WP 181 16 [some (.ref x0), some (.int x1)] [] (G, F, I, J) b post px := ip_s_if_lt f181_13 rfl
theorem f181_16 : ip_fetch 181 16 = some (.iload_n 1, 1) := by decide +kernel
theorem s181_16 {x0 : Nat} {x1 : Int32} : ip_WP 181 16 [some (.ref x0), some (.int x1)] [] (G, F, I, J) b post px ↔ ip_WP 181 17 [some (.ref x0), some (.int x1)] [.int x1] (G, F, I, J) b post px := ip_nx_iff ((ip_st_of f181_16).trans rfl)
theorem f181_17 : ip_fetch 181 17 = some (.bipush 7, 2) := by decide +kernel
theorem s181_17 {x0 : Nat} {x1 : Int32} {s0 : Int32} : ip_WP 181 17 [some (.ref x0), some (.int x1)] [.int s0] (G, F, I, J) b post px ↔ ip_WP 181 19 [some (.ref x0), some (.int x1)] [.int 7, .int s0] (G, F, I, J) b post px := ip_s_bipush f181_17 (by decide)
theorem f181_19 : ip_fetch 181 19 = some (.if_icmp .lt 5, 3) := by decide +kernel
theorem s181_19 {x0 : Nat} {x1 : Int32} {s0 : Int32} {s1 : Int32} : ip_WP 181 19 [some (.ref x0), some (.int x1)] [.int s1, .int s0] (G, F, I, J) b post px ↔ if s0 < s1 then ip_WP 181 24 [some (.ref x0), some (.int x1)] [] (G, F, I, J) b post px else ip_WP 181 22 [some (.ref x0), some (.int x1)] [] (G, F, I, J) b post px := ip_s_ic_lt f181_19 rfl
theorem f181_22 : ip_fetch 181 22 = some (.iconst 2, 1) := by decide +kernel
theorem s181_22 {x0 : Nat} {x1 : Int32} : ip_WP 181 22 [some (.ref x0), some (.int x1)] [] (G, F, I, J) b post px ↔ ip_WP 181 23 [some (.ref x0), some (.int x1)] [.int 2] (G, F, I, J) b post px := ip_s_iconst f181_22 (by decide)
theorem f181_23 : ip_fetch 181 23 = some (.ireturn, 1) := by decide +kernel
theorem s181_23 {x0 : Nat} {x1 : Int32} {s0 : Int32} : ip_WP 181 23 [some (.ref x0), some (.int x1)] [.int s0] (G, F, I, J) b post px ↔ post (some (.int s0)) (G, F, I, J) := ip_rt_iff ((ip_st_of f181_23).trans rfl)
theorem f181_24 : ip_fetch 181 24 = some (.aload_n 0, 1) := by decide +kernel
theorem s181_24 {x0 : Nat} {x1 : Int32} : ip_WP 181 24 [some (.ref x0), some (.int x1)] [] (G, F, I, J) b post px ↔ ip_WP 181 25 [some (.ref x0), some (.int x1)] [.ref x0] (G, F, I, J) b post px := ip_nx_iff ((ip_st_of f181_24).trans rfl)
theorem f181_25 : ip_fetch 181 25 = some (.getfield 15, 3) := by decide +kernel
set_option maxRecDepth 100000 in
theorem s181_25 {x0 : Nat} {x1 : Int32} {s0 : Nat} : ip_WP 181 25 [some (.ref x0), some (.int x1)] [.ref s0] (G, F, I, J) b post px ↔ (ip_isO G s0 8 = true ∧ ip_WP 181 28 [some (.ref x0), some (.int x1)] [F s0 1] (G, F, I, J) b post px) := ip_s_getf f181_25 (by decide +kernel)
theorem f181_28 : ip_fetch 181 28 = some (.getfield 196, 3) := by decide +kernel
set_option maxRecDepth 100000 in
theorem s181_28 {x0 : Nat} {x1 : Int32} {s0 : Nat} : ip_WP 181 28 [some (.ref x0), some (.int x1)] [.ref s0] (G, F, I, J) b post px ↔ (ip_isO G s0 3 = true ∧ ip_WP 181 31 [some (.ref x0), some (.int x1)] [F s0 7] (G, F, I, J) b post px) := ip_s_getf f181_28 (by decide +kernel)
theorem f181_31 : ip_fetch 181 31 = some (.iload_n 1, 1) := by decide +kernel
theorem s181_31 {x0 : Nat} {x1 : Int32} {s0 : Nat} : ip_WP 181 31 [some (.ref x0), some (.int x1)] [.ref s0] (G, F, I, J) b post px ↔ ip_WP 181 32 [some (.ref x0), some (.int x1)] [.int x1, .ref s0] (G, F, I, J) b post px := ip_nx_iff ((ip_st_of f181_31).trans rfl)
theorem f181_32 : ip_fetch 181 32 = some (.invokevirtual 199, 3) := by decide +kernel
set_option maxRecDepth 100000 in
theorem s181_32 {x0 : Nat} {x1 : Int32} {s0 : Nat} {s1 : Int32} : ip_WP 181 32 [some (.ref x0), some (.int x1)] [.int s1, .ref s0] (G, F, I, J) b post px ↔ (ip_isO G s0 9 = true ∧ ip_WP 191 0 [some (.ref s0), some (.int s1)] [] (G, F, I, J) (0, 0) (fun r h' => ip_WP 181 35 [some (.ref x0), some (.int x1)] (r.toList ++ []) h' b post px) (fun _ _ => False)) := ip_ck_iff (x := ip_cl 191 [some (.ref s0), some (.int s1)] [] (0, 0) b) ((ip_st_of f181_32).trans rfl) (ip_cl_iff)
theorem f181_35 : ip_fetch 181 35 = some (.iconst (-1), 1) := by decide +kernel
theorem s181_35 {x0 : Nat} {x1 : Int32} {s0 : Int32} : ip_WP 181 35 [some (.ref x0), some (.int x1)] [.int s0] (G, F, I, J) b post px ↔ ip_WP 181 36 [some (.ref x0), some (.int x1)] [.int (-1), .int s0] (G, F, I, J) b post px := ip_s_iconst f181_35 (by decide)
theorem f181_36 : ip_fetch 181 36 = some (.if_icmp .eq 6, 3) := by decide +kernel
theorem s181_36 {x0 : Nat} {x1 : Int32} {s0 : Int32} {s1 : Int32} : ip_WP 181 36 [some (.ref x0), some (.int x1)] [.int s1, .int s0] (G, F, I, J) b post px ↔ if s0 = s1 then ip_WP 181 42 [some (.ref x0), some (.int x1)] [] (G, F, I, J) b post px else ip_WP 181 39 [some (.ref x0), some (.int x1)] [] (G, F, I, J) b post px := ip_s_ic_eq f181_36 rfl
theorem f181_39 : ip_fetch 181 39 = some (.bipush 7, 2) := by decide +kernel
theorem s181_39 {x0 : Nat} {x1 : Int32} : ip_WP 181 39 [some (.ref x0), some (.int x1)] [] (G, F, I, J) b post px ↔ ip_WP 181 41 [some (.ref x0), some (.int x1)] [.int 7] (G, F, I, J) b post px := ip_s_bipush f181_39 (by decide)
theorem f181_41 : ip_fetch 181 41 = some (.ireturn, 1) := by decide +kernel
theorem s181_41 {x0 : Nat} {x1 : Int32} {s0 : Int32} : ip_WP 181 41 [some (.ref x0), some (.int x1)] [.int s0] (G, F, I, J) b post px ↔ post (some (.int s0)) (G, F, I, J) := ip_rt_iff ((ip_st_of f181_41).trans rfl)
theorem f181_42 : ip_fetch 181 42 = some (.aload_n 0, 1) := by decide +kernel
theorem s181_42 {x0 : Nat} {x1 : Int32} : ip_WP 181 42 [some (.ref x0), some (.int x1)] [] (G, F, I, J) b post px ↔ ip_WP 181 43 [some (.ref x0), some (.int x1)] [.ref x0] (G, F, I, J) b post px := ip_nx_iff ((ip_st_of f181_42).trans rfl)
theorem f181_43 : ip_fetch 181 43 = some (.getfield 15, 3) := by decide +kernel
set_option maxRecDepth 100000 in
theorem s181_43 {x0 : Nat} {x1 : Int32} {s0 : Nat} : ip_WP 181 43 [some (.ref x0), some (.int x1)] [.ref s0] (G, F, I, J) b post px ↔ (ip_isO G s0 8 = true ∧ ip_WP 181 46 [some (.ref x0), some (.int x1)] [F s0 1] (G, F, I, J) b post px) := ip_s_getf f181_43 (by decide +kernel)
theorem f181_46 : ip_fetch 181 46 = some (.getfield 196, 3) := by decide +kernel
set_option maxRecDepth 100000 in
theorem s181_46 {x0 : Nat} {x1 : Int32} {s0 : Nat} : ip_WP 181 46 [some (.ref x0), some (.int x1)] [.ref s0] (G, F, I, J) b post px ↔ (ip_isO G s0 3 = true ∧ ip_WP 181 49 [some (.ref x0), some (.int x1)] [F s0 7] (G, F, I, J) b post px) := ip_s_getf f181_46 (by decide +kernel)
theorem f181_49 : ip_fetch 181 49 = some (.iload_n 1, 1) := by decide +kernel
theorem s181_49 {x0 : Nat} {x1 : Int32} {s0 : Nat} : ip_WP 181 49 [some (.ref x0), some (.int x1)] [.ref s0] (G, F, I, J) b post px ↔ ip_WP 181 50 [some (.ref x0), some (.int x1)] [.int x1, .ref s0] (G, F, I, J) b post px := ip_nx_iff ((ip_st_of f181_49).trans rfl)
theorem f181_50 : ip_fetch 181 50 = some (.aload_n 0, 1) := by decide +kernel
theorem s181_50 {x0 : Nat} {x1 : Int32} {s0 : Nat} {s1 : Int32} : ip_WP 181 50 [some (.ref x0), some (.int x1)] [.int s1, .ref s0] (G, F, I, J) b post px ↔ ip_WP 181 51 [some (.ref x0), some (.int x1)] [.ref x0, .int s1, .ref s0] (G, F, I, J) b post px := ip_nx_iff ((ip_st_of f181_50).trans rfl)
theorem f181_51 : ip_fetch 181 51 = some (.getfield 68, 3) := by decide +kernel
set_option maxRecDepth 100000 in
theorem s181_51 {x0 : Nat} {x1 : Int32} {s0 : Nat} {s1 : Int32} {s2 : Nat} : ip_WP 181 51 [some (.ref x0), some (.int x1)] [.ref s2, .int s1, .ref s0] (G, F, I, J) b post px ↔ (ip_isO G s2 8 = true ∧ ip_WP 181 54 [some (.ref x0), some (.int x1)] [F s2 7, .int s1, .ref s0] (G, F, I, J) b post px) := ip_s_getf f181_51 (by decide +kernel)
theorem f181_54 : ip_fetch 181 54 = some (.invokevirtual 204, 3) := by decide +kernel
set_option maxRecDepth 100000 in
theorem s181_54 {x0 : Nat} {x1 : Int32} {s0 : Nat} {s1 : Int32} {s2 : Int32} : ip_WP 181 54 [some (.ref x0), some (.int x1)] [.int s2, .int s1, .ref s0] (G, F, I, J) b post px ↔ (ip_isO G s0 9 = true ∧ ip_WP 192 0 [some (.ref s0), some (.int s1), some (.int s2)] [] (G, F, I, J) (0, 0) (fun r h' => ip_WP 181 57 [some (.ref x0), some (.int x1)] (r.toList ++ []) h' b post px) (fun _ _ => False)) := ip_ck_iff (x := ip_cl 192 [some (.ref s0), some (.int s1), some (.int s2)] [] (0, 0) b) ((ip_st_of f181_54).trans rfl) (ip_cl_iff)
theorem f181_57 : ip_fetch 181 57 = some (.iconst 0, 1) := by decide +kernel
theorem s181_57 {x0 : Nat} {x1 : Int32} : ip_WP 181 57 [some (.ref x0), some (.int x1)] [] (G, F, I, J) b post px ↔ ip_WP 181 58 [some (.ref x0), some (.int x1)] [.int 0] (G, F, I, J) b post px := ip_s_iconst f181_57 (by decide)
theorem f181_58 : ip_fetch 181 58 = some (.ireturn, 1) := by decide +kernel
theorem s181_58 {x0 : Nat} {x1 : Int32} {s0 : Int32} : ip_WP 181 58 [some (.ref x0), some (.int x1)] [.int s0] (G, F, I, J) b post px ↔ post (some (.int s0)) (G, F, I, J) := ip_rt_iff ((ip_st_of f181_58).trans rfl)
theorem f182_0 : ip_fetch 182 0 = some (.aload_n 0, 1) := by decide +kernel
theorem s182_0 {x0 : Nat} {x1 : Nat} {x2 : Option Value} : ip_WP 182 0 [some (.ref x0), some (.ref x1), x2] [] (G, F, I, J) b post px ↔ ip_WP 182 1 [some (.ref x0), some (.ref x1), x2] [.ref x0] (G, F, I, J) b post px := ip_nx_iff ((ip_st_of f182_0).trans rfl)
theorem f182_1 : ip_fetch 182 1 = some (.aload_n 0, 1) := by decide +kernel
theorem s182_1 {x0 : Nat} {x1 : Nat} {x2 : Option Value} {s0 : Nat} : ip_WP 182 1 [some (.ref x0), some (.ref x1), x2] [.ref s0] (G, F, I, J) b post px ↔ ip_WP 182 2 [some (.ref x0), some (.ref x1), x2] [.ref x0, .ref s0] (G, F, I, J) b post px := ip_nx_iff ((ip_st_of f182_1).trans rfl)
theorem f182_2 : ip_fetch 182 2 = some (.getfield 15, 3) := by decide +kernel
set_option maxRecDepth 100000 in
theorem s182_2 {x0 : Nat} {x1 : Nat} {x2 : Option Value} {s0 : Nat} {s1 : Nat} : ip_WP 182 2 [some (.ref x0), some (.ref x1), x2] [.ref s1, .ref s0] (G, F, I, J) b post px ↔ (ip_isO G s1 8 = true ∧ ip_WP 182 5 [some (.ref x0), some (.ref x1), x2] [F s1 1, .ref s0] (G, F, I, J) b post px) := ip_s_getf f182_2 (by decide +kernel)
theorem f182_5 : ip_fetch 182 5 = some (.getfield 102, 3) := by decide +kernel
set_option maxRecDepth 100000 in
theorem s182_5 {x0 : Nat} {x1 : Nat} {x2 : Option Value} {s0 : Nat} {s1 : Nat} : ip_WP 182 5 [some (.ref x0), some (.ref x1), x2] [.ref s1, .ref s0] (G, F, I, J) b post px ↔ (ip_isO G s1 3 = true ∧ ip_WP 182 8 [some (.ref x0), some (.ref x1), x2] [F s1 0, .ref s0] (G, F, I, J) b post px) := ip_s_getf f182_5 (by decide +kernel)
theorem f182_8 : ip_fetch 182 8 = some (.invokevirtual 208, 3) := by decide +kernel
set_option maxRecDepth 100000 in
theorem s182_8 {x0 : Nat} {x1 : Nat} {x2 : Option Value} {s0 : Nat} {s1 : Nat} : ip_WP 182 8 [some (.ref x0), some (.ref x1), x2] [.ref s1, .ref s0] (G, F, I, J) b post px ↔ (ip_isO G s0 8 = true ∧ ip_WP 180 0 [some (.ref s0), some (.ref s1)] [] (G, F, I, J) (0, 0) (fun r h' => ip_WP 182 11 [some (.ref x0), some (.ref x1), x2] (r.toList ++ []) h' b post px) (fun _ _ => False)) := ip_ck_iff (x := ip_cl 180 [some (.ref s0), some (.ref s1)] [] (0, 0) b) ((ip_st_of f182_8).trans rfl) (ip_cl_iff)
theorem f182_11 : ip_fetch 182 11 = some (.istore_n 2, 1) := by decide +kernel
theorem s182_11 {x0 : Nat} {x1 : Nat} {x2 : Option Value} {s0 : Int32} : ip_WP 182 11 [some (.ref x0), some (.ref x1), x2] [.int s0] (G, F, I, J) b post px ↔ ip_WP 182 12 [some (.ref x0), some (.ref x1), some (.int s0)] [] (G, F, I, J) b post px := ip_nx_iff ((ip_st_of f182_11).trans rfl)
theorem f182_12 : ip_fetch 182 12 = some (.iload_n 2, 1) := by decide +kernel
theorem s182_12 {x0 : Nat} {x1 : Nat} {x2 : Int32} : ip_WP 182 12 [some (.ref x0), some (.ref x1), some (.int x2)] [] (G, F, I, J) b post px ↔ ip_WP 182 13 [some (.ref x0), some (.ref x1), some (.int x2)] [.int x2] (G, F, I, J) b post px := ip_nx_iff ((ip_st_of f182_12).trans rfl)
theorem f182_13 : ip_fetch 182 13 = some (.ifCond .eq 5, 3) := by decide +kernel
theorem s182_13 {x0 : Nat} {x1 : Nat} {x2 : Int32} {s0 : Int32} : ip_WP 182 13 [some (.ref x0), some (.ref x1), some (.int x2)] [.int s0] (G, F, I, J) b post px ↔ if s0 = 0 then ip_WP 182 18 [some (.ref x0), some (.ref x1), some (.int x2)] [] (G, F, I, J) b post px else ip_WP 182 16 [some (.ref x0), some (.ref x1), some (.int x2)] [] (G, F, I, J) b post px := ip_s_if_eq f182_13 rfl
theorem f182_16 : ip_fetch 182 16 = some (.iload_n 2, 1) := by decide +kernel
theorem s182_16 {x0 : Nat} {x1 : Nat} {x2 : Int32} : ip_WP 182 16 [some (.ref x0), some (.ref x1), some (.int x2)] [] (G, F, I, J) b post px ↔ ip_WP 182 17 [some (.ref x0), some (.ref x1), some (.int x2)] [.int x2] (G, F, I, J) b post px := ip_nx_iff ((ip_st_of f182_16).trans rfl)
theorem f182_17 : ip_fetch 182 17 = some (.ireturn, 1) := by decide +kernel
theorem s182_17 {x0 : Nat} {x1 : Nat} {x2 : Int32} {s0 : Int32} : ip_WP 182 17 [some (.ref x0), some (.ref x1), some (.int x2)] [.int s0] (G, F, I, J) b post px ↔ post (some (.int s0)) (G, F, I, J) := ip_rt_iff ((ip_st_of f182_17).trans rfl)
theorem f182_18 : ip_fetch 182 18 = some (.aload_n 0, 1) := by decide +kernel
theorem s182_18 {x0 : Nat} {x1 : Nat} {x2 : Int32} : ip_WP 182 18 [some (.ref x0), some (.ref x1), some (.int x2)] [] (G, F, I, J) b post px ↔ ip_WP 182 19 [some (.ref x0), some (.ref x1), some (.int x2)] [.ref x0] (G, F, I, J) b post px := ip_nx_iff ((ip_st_of f182_18).trans rfl)
theorem f182_19 : ip_fetch 182 19 = some (.aload_n 0, 1) := by decide +kernel
theorem s182_19 {x0 : Nat} {x1 : Nat} {x2 : Int32} {s0 : Nat} : ip_WP 182 19 [some (.ref x0), some (.ref x1), some (.int x2)] [.ref s0] (G, F, I, J) b post px ↔ ip_WP 182 20 [some (.ref x0), some (.ref x1), some (.int x2)] [.ref x0, .ref s0] (G, F, I, J) b post px := ip_nx_iff ((ip_st_of f182_19).trans rfl)
theorem f182_20 : ip_fetch 182 20 = some (.getfield 71, 3) := by decide +kernel
set_option maxRecDepth 100000 in
theorem s182_20 {x0 : Nat} {x1 : Nat} {x2 : Int32} {s0 : Nat} {s1 : Nat} : ip_WP 182 20 [some (.ref x0), some (.ref x1), some (.int x2)] [.ref s1, .ref s0] (G, F, I, J) b post px ↔ (ip_isO G s1 8 = true ∧ ip_WP 182 23 [some (.ref x0), some (.ref x1), some (.int x2)] [F s1 8, .ref s0] (G, F, I, J) b post px) := ip_s_getf f182_20 (by decide +kernel)
theorem f182_23 : ip_fetch 182 23 = some (.putfield 68, 3) := by decide +kernel
set_option maxRecDepth 100000 in
theorem s182_23 {x0 : Nat} {x1 : Nat} {x2 : Int32} {s0 : Nat} {s1 : Int32} : ip_WP 182 23 [some (.ref x0), some (.ref x1), some (.int x2)] [.int s1, .ref s0] (G, F, I, J) b post px ↔ (ip_isO G s0 8 = true ∧ ip_WP 182 26 [some (.ref x0), some (.ref x1), some (.int x2)] [] (G, ip_up F s0 7 (.int s1), I, J) b post px) := ip_s_put f182_23 (by decide +kernel) rfl
theorem f182_26 : ip_fetch 182 26 = some (.aload_n 1, 1) := by decide +kernel
theorem s182_26 {x0 : Nat} {x1 : Nat} {x2 : Int32} : ip_WP 182 26 [some (.ref x0), some (.ref x1), some (.int x2)] [] (G, F, I, J) b post px ↔ ip_WP 182 27 [some (.ref x0), some (.ref x1), some (.int x2)] [.ref x1] (G, F, I, J) b post px := ip_nx_iff ((ip_st_of f182_26).trans rfl)
theorem f182_27 : ip_fetch 182 27 = some (.aload_n 0, 1) := by decide +kernel
theorem s182_27 {x0 : Nat} {x1 : Nat} {x2 : Int32} {s0 : Nat} : ip_WP 182 27 [some (.ref x0), some (.ref x1), some (.int x2)] [.ref s0] (G, F, I, J) b post px ↔ ip_WP 182 28 [some (.ref x0), some (.ref x1), some (.int x2)] [.ref x0, .ref s0] (G, F, I, J) b post px := ip_nx_iff ((ip_st_of f182_27).trans rfl)
theorem f182_28 : ip_fetch 182 28 = some (.getfield 68, 3) := by decide +kernel
set_option maxRecDepth 100000 in
theorem s182_28 {x0 : Nat} {x1 : Nat} {x2 : Int32} {s0 : Nat} {s1 : Nat} : ip_WP 182 28 [some (.ref x0), some (.ref x1), some (.int x2)] [.ref s1, .ref s0] (G, F, I, J) b post px ↔ (ip_isO G s1 8 = true ∧ ip_WP 182 31 [some (.ref x0), some (.ref x1), some (.int x2)] [F s1 7, .ref s0] (G, F, I, J) b post px) := ip_s_getf f182_28 (by decide +kernel)
theorem f182_31 : ip_fetch 182 31 = some (.invokevirtual 199, 3) := by decide +kernel
set_option maxRecDepth 100000 in
theorem s182_31 {x0 : Nat} {x1 : Nat} {x2 : Int32} {s0 : Nat} {s1 : Int32} : ip_WP 182 31 [some (.ref x0), some (.ref x1), some (.int x2)] [.int s1, .ref s0] (G, F, I, J) b post px ↔ (ip_isO G s0 9 = true ∧ ip_WP 191 0 [some (.ref s0), some (.int s1)] [] (G, F, I, J) (0, 0) (fun r h' => ip_WP 182 34 [some (.ref x0), some (.ref x1), some (.int x2)] (r.toList ++ []) h' b post px) (fun _ _ => False)) := ip_ck_iff (x := ip_cl 191 [some (.ref s0), some (.int s1)] [] (0, 0) b) ((ip_st_of f182_31).trans rfl) (ip_cl_iff)
theorem f182_34 : ip_fetch 182 34 = some (.iconst (-1), 1) := by decide +kernel
theorem s182_34 {x0 : Nat} {x1 : Nat} {x2 : Int32} {s0 : Int32} : ip_WP 182 34 [some (.ref x0), some (.ref x1), some (.int x2)] [.int s0] (G, F, I, J) b post px ↔ ip_WP 182 35 [some (.ref x0), some (.ref x1), some (.int x2)] [.int (-1), .int s0] (G, F, I, J) b post px := ip_s_iconst f182_34 (by decide)
theorem f182_35 : ip_fetch 182 35 = some (.if_icmp .ne 7, 3) := by decide +kernel
theorem s182_35 {x0 : Nat} {x1 : Nat} {x2 : Int32} {s0 : Int32} {s1 : Int32} : ip_WP 182 35 [some (.ref x0), some (.ref x1), some (.int x2)] [.int s1, .int s0] (G, F, I, J) b post px ↔ if ¬ s0 = s1 then ip_WP 182 42 [some (.ref x0), some (.ref x1), some (.int x2)] [] (G, F, I, J) b post px else ip_WP 182 38 [some (.ref x0), some (.ref x1), some (.int x2)] [] (G, F, I, J) b post px := ip_s_ic_ne f182_35 rfl
theorem f182_38 : ip_fetch 182 38 = some (.iconst 0, 1) := by decide +kernel
theorem s182_38 {x0 : Nat} {x1 : Nat} {x2 : Int32} : ip_WP 182 38 [some (.ref x0), some (.ref x1), some (.int x2)] [] (G, F, I, J) b post px ↔ ip_WP 182 39 [some (.ref x0), some (.ref x1), some (.int x2)] [.int 0] (G, F, I, J) b post px := ip_s_iconst f182_38 (by decide)
theorem f182_39 : ip_fetch 182 39 = some (.goto 5, 3) := by decide +kernel
theorem s182_39 {x0 : Nat} {x1 : Nat} {x2 : Int32} {s0 : Int32} : ip_WP 182 39 [some (.ref x0), some (.ref x1), some (.int x2)] [.int s0] (G, F, I, J) b post px ↔ ip_WP 182 44 [some (.ref x0), some (.ref x1), some (.int x2)] [.int s0] (G, F, I, J) b post px := ip_nx_iff ((ip_st_of f182_39).trans rfl)
theorem f182_42 : ip_fetch 182 42 = some (.bipush 7, 2) := by decide +kernel
theorem s182_42 {x0 : Nat} {x1 : Nat} {x2 : Int32} : ip_WP 182 42 [some (.ref x0), some (.ref x1), some (.int x2)] [] (G, F, I, J) b post px ↔ ip_WP 182 44 [some (.ref x0), some (.ref x1), some (.int x2)] [.int 7] (G, F, I, J) b post px := ip_s_bipush f182_42 (by decide)
theorem f182_44 : ip_fetch 182 44 = some (.ireturn, 1) := by decide +kernel
theorem s182_44 {x0 : Nat} {x1 : Nat} {x2 : Int32} {s0 : Int32} : ip_WP 182 44 [some (.ref x0), some (.ref x1), some (.int x2)] [.int s0] (G, F, I, J) b post px ↔ post (some (.int s0)) (G, F, I, J) := ip_rt_iff ((ip_st_of f182_44).trans rfl)
theorem f183_0 : ip_fetch 183 0 = some (.aload_n 0, 1) := by decide +kernel
theorem s183_0 {x0 : Nat} {x1 : Nat} {x2 : Int32} : ip_WP 183 0 [some (.ref x0), some (.ref x1), some (.int x2)] [] (G, F, I, J) b post px ↔ ip_WP 183 1 [some (.ref x0), some (.ref x1), some (.int x2)] [.ref x0] (G, F, I, J) b post px := ip_nx_iff ((ip_st_of f183_0).trans rfl)
theorem f183_1 : ip_fetch 183 1 = some (.getfield 24, 3) := by decide +kernel
set_option maxRecDepth 100000 in
theorem s183_1 {x0 : Nat} {x1 : Nat} {x2 : Int32} {s0 : Nat} : ip_WP 183 1 [some (.ref x0), some (.ref x1), some (.int x2)] [.ref s0] (G, F, I, J) b post px ↔ (ip_isO G s0 8 = true ∧ ip_WP 183 4 [some (.ref x0), some (.ref x1), some (.int x2)] [F s0 2] (G, F, I, J) b post px) := ip_s_getf f183_1 (by decide +kernel)
theorem f183_4 : ip_fetch 183 4 = some (.invokevirtual 52, 3) := by decide +kernel
set_option maxRecDepth 100000 in
theorem s183_4 {x0 : Nat} {x1 : Nat} {x2 : Int32} {s0 : Nat} : ip_WP 183 4 [some (.ref x0), some (.ref x1), some (.int x2)] [.ref s0] (G, F, I, J) b post px ↔ (ip_isO G s0 5 = true ∧ ip_WP 127 0 [some (.ref s0)] [] (G, F, I, J) (0, 0) (fun r h' => ip_WP 183 7 [some (.ref x0), some (.ref x1), some (.int x2)] (r.toList ++ []) h' b post px) (fun _ _ => False)) := ip_ck_iff (x := ip_cl 127 [some (.ref s0)] [] (0, 0) b) ((ip_st_of f183_4).trans rfl) (ip_cl_iff)
theorem f183_7 : ip_fetch 183 7 = some (.iconst 3, 1) := by decide +kernel
theorem s183_7 {x0 : Nat} {x1 : Nat} {x2 : Int32} {s0 : Int32} : ip_WP 183 7 [some (.ref x0), some (.ref x1), some (.int x2)] [.int s0] (G, F, I, J) b post px ↔ ip_WP 183 8 [some (.ref x0), some (.ref x1), some (.int x2)] [.int 3, .int s0] (G, F, I, J) b post px := ip_s_iconst f183_7 (by decide)
theorem f183_8 : ip_fetch 183 8 = some (.if_icmp .eq 5, 3) := by decide +kernel
theorem s183_8 {x0 : Nat} {x1 : Nat} {x2 : Int32} {s0 : Int32} {s1 : Int32} : ip_WP 183 8 [some (.ref x0), some (.ref x1), some (.int x2)] [.int s1, .int s0] (G, F, I, J) b post px ↔ if s0 = s1 then ip_WP 183 13 [some (.ref x0), some (.ref x1), some (.int x2)] [] (G, F, I, J) b post px else ip_WP 183 11 [some (.ref x0), some (.ref x1), some (.int x2)] [] (G, F, I, J) b post px := ip_s_ic_eq f183_8 rfl
theorem f183_11 : ip_fetch 183 11 = some (.iconst 2, 1) := by decide +kernel
theorem s183_11 {x0 : Nat} {x1 : Nat} {x2 : Int32} : ip_WP 183 11 [some (.ref x0), some (.ref x1), some (.int x2)] [] (G, F, I, J) b post px ↔ ip_WP 183 12 [some (.ref x0), some (.ref x1), some (.int x2)] [.int 2] (G, F, I, J) b post px := ip_s_iconst f183_11 (by decide)
theorem f183_12 : ip_fetch 183 12 = some (.ireturn, 1) := by decide +kernel
theorem s183_12 {x0 : Nat} {x1 : Nat} {x2 : Int32} {s0 : Int32} : ip_WP 183 12 [some (.ref x0), some (.ref x1), some (.int x2)] [.int s0] (G, F, I, J) b post px ↔ post (some (.int s0)) (G, F, I, J) := ip_rt_iff ((ip_st_of f183_12).trans rfl)
theorem f183_13 : ip_fetch 183 13 = some (.aload_n 0, 1) := by decide +kernel
theorem s183_13 {x0 : Nat} {x1 : Nat} {x2 : Int32} : ip_WP 183 13 [some (.ref x0), some (.ref x1), some (.int x2)] [] (G, F, I, J) b post px ↔ ip_WP 183 14 [some (.ref x0), some (.ref x1), some (.int x2)] [.ref x0] (G, F, I, J) b post px := ip_nx_iff ((ip_st_of f183_13).trans rfl)
theorem f183_14 : ip_fetch 183 14 = some (.getfield 24, 3) := by decide +kernel
set_option maxRecDepth 100000 in
theorem s183_14 {x0 : Nat} {x1 : Nat} {x2 : Int32} {s0 : Nat} : ip_WP 183 14 [some (.ref x0), some (.ref x1), some (.int x2)] [.ref s0] (G, F, I, J) b post px ↔ (ip_isO G s0 8 = true ∧ ip_WP 183 17 [some (.ref x0), some (.ref x1), some (.int x2)] [F s0 2] (G, F, I, J) b post px) := ip_s_getf f183_14 (by decide +kernel)
theorem f183_17 : ip_fetch 183 17 = some (.invokevirtual 211, 3) := by decide +kernel
set_option maxRecDepth 100000 in
theorem s183_17 {x0 : Nat} {x1 : Nat} {x2 : Int32} {s0 : Nat} : ip_WP 183 17 [some (.ref x0), some (.ref x1), some (.int x2)] [.ref s0] (G, F, I, J) b post px ↔ (ip_isO G s0 5 = true ∧ ip_WP 130 0 [some (.ref s0)] [] (G, F, I, J) (0, 0) (fun r h' => ip_WP 183 20 [some (.ref x0), some (.ref x1), some (.int x2)] (r.toList ++ []) h' b post px) (fun _ _ => False)) := ip_ck_iff (x := ip_cl 130 [some (.ref s0)] [] (0, 0) b) ((ip_st_of f183_17).trans rfl) (ip_cl_iff)
theorem f183_20 : ip_fetch 183 20 = some (.iconst 1, 1) := by decide +kernel
theorem s183_20 {x0 : Nat} {x1 : Nat} {x2 : Int32} {s0 : Int32} : ip_WP 183 20 [some (.ref x0), some (.ref x1), some (.int x2)] [.int s0] (G, F, I, J) b post px ↔ ip_WP 183 21 [some (.ref x0), some (.ref x1), some (.int x2)] [.int 1, .int s0] (G, F, I, J) b post px := ip_s_iconst f183_20 (by decide)
theorem f183_21 : ip_fetch 183 21 = some (.if_icmp .lt 14, 3) := by decide +kernel
theorem s183_21 {x0 : Nat} {x1 : Nat} {x2 : Int32} {s0 : Int32} {s1 : Int32} : ip_WP 183 21 [some (.ref x0), some (.ref x1), some (.int x2)] [.int s1, .int s0] (G, F, I, J) b post px ↔ if s0 < s1 then ip_WP 183 35 [some (.ref x0), some (.ref x1), some (.int x2)] [] (G, F, I, J) b post px else ip_WP 183 24 [some (.ref x0), some (.ref x1), some (.int x2)] [] (G, F, I, J) b post px := ip_s_ic_lt f183_21 rfl
theorem f183_24 : ip_fetch 183 24 = some (.aload_n 0, 1) := by decide +kernel
theorem s183_24 {x0 : Nat} {x1 : Nat} {x2 : Int32} : ip_WP 183 24 [some (.ref x0), some (.ref x1), some (.int x2)] [] (G, F, I, J) b post px ↔ ip_WP 183 25 [some (.ref x0), some (.ref x1), some (.int x2)] [.ref x0] (G, F, I, J) b post px := ip_nx_iff ((ip_st_of f183_24).trans rfl)
theorem f183_25 : ip_fetch 183 25 = some (.getfield 24, 3) := by decide +kernel
set_option maxRecDepth 100000 in
theorem s183_25 {x0 : Nat} {x1 : Nat} {x2 : Int32} {s0 : Nat} : ip_WP 183 25 [some (.ref x0), some (.ref x1), some (.int x2)] [.ref s0] (G, F, I, J) b post px ↔ (ip_isO G s0 8 = true ∧ ip_WP 183 28 [some (.ref x0), some (.ref x1), some (.int x2)] [F s0 2] (G, F, I, J) b post px) := ip_s_getf f183_25 (by decide +kernel)
theorem f183_28 : ip_fetch 183 28 = some (.invokevirtual 211, 3) := by decide +kernel
set_option maxRecDepth 100000 in
theorem s183_28 {x0 : Nat} {x1 : Nat} {x2 : Int32} {s0 : Nat} : ip_WP 183 28 [some (.ref x0), some (.ref x1), some (.int x2)] [.ref s0] (G, F, I, J) b post px ↔ (ip_isO G s0 5 = true ∧ ip_WP 130 0 [some (.ref s0)] [] (G, F, I, J) (0, 0) (fun r h' => ip_WP 183 31 [some (.ref x0), some (.ref x1), some (.int x2)] (r.toList ++ []) h' b post px) (fun _ _ => False)) := ip_ck_iff (x := ip_cl 130 [some (.ref s0)] [] (0, 0) b) ((ip_st_of f183_28).trans rfl) (ip_cl_iff)
theorem f183_31 : ip_fetch 183 31 = some (.iload_n 2, 1) := by decide +kernel
theorem s183_31 {x0 : Nat} {x1 : Nat} {x2 : Int32} {s0 : Int32} : ip_WP 183 31 [some (.ref x0), some (.ref x1), some (.int x2)] [.int s0] (G, F, I, J) b post px ↔ ip_WP 183 32 [some (.ref x0), some (.ref x1), some (.int x2)] [.int x2, .int s0] (G, F, I, J) b post px := ip_nx_iff ((ip_st_of f183_31).trans rfl)
theorem f183_32 : ip_fetch 183 32 = some (.if_icmp .le 6, 3) := by decide +kernel
theorem s183_32 {x0 : Nat} {x1 : Nat} {x2 : Int32} {s0 : Int32} {s1 : Int32} : ip_WP 183 32 [some (.ref x0), some (.ref x1), some (.int x2)] [.int s1, .int s0] (G, F, I, J) b post px ↔ if s0 ≤ s1 then ip_WP 183 38 [some (.ref x0), some (.ref x1), some (.int x2)] [] (G, F, I, J) b post px else ip_WP 183 35 [some (.ref x0), some (.ref x1), some (.int x2)] [] (G, F, I, J) b post px := ip_s_ic_le f183_32 rfl
theorem f183_35 : ip_fetch 183 35 = some (.bipush 8, 2) := by decide +kernel
theorem s183_35 {x0 : Nat} {x1 : Nat} {x2 : Int32} : ip_WP 183 35 [some (.ref x0), some (.ref x1), some (.int x2)] [] (G, F, I, J) b post px ↔ ip_WP 183 37 [some (.ref x0), some (.ref x1), some (.int x2)] [.int 8] (G, F, I, J) b post px := ip_s_bipush f183_35 (by decide)
theorem f183_37 : ip_fetch 183 37 = some (.ireturn, 1) := by decide +kernel
theorem s183_37 {x0 : Nat} {x1 : Nat} {x2 : Int32} {s0 : Int32} : ip_WP 183 37 [some (.ref x0), some (.ref x1), some (.int x2)] [.int s0] (G, F, I, J) b post px ↔ post (some (.int s0)) (G, F, I, J) := ip_rt_iff ((ip_st_of f183_37).trans rfl)
theorem f183_38 : ip_fetch 183 38 = some (.aload_n 1, 1) := by decide +kernel
theorem s183_38 {x0 : Nat} {x1 : Nat} {x2 : Int32} : ip_WP 183 38 [some (.ref x0), some (.ref x1), some (.int x2)] [] (G, F, I, J) b post px ↔ ip_WP 183 39 [some (.ref x0), some (.ref x1), some (.int x2)] [.ref x1] (G, F, I, J) b post px := ip_nx_iff ((ip_st_of f183_38).trans rfl)
theorem f183_39 : ip_fetch 183 39 = some (.aload_n 0, 1) := by decide +kernel
theorem s183_39 {x0 : Nat} {x1 : Nat} {x2 : Int32} {s0 : Nat} : ip_WP 183 39 [some (.ref x0), some (.ref x1), some (.int x2)] [.ref s0] (G, F, I, J) b post px ↔ ip_WP 183 40 [some (.ref x0), some (.ref x1), some (.int x2)] [.ref x0, .ref s0] (G, F, I, J) b post px := ip_nx_iff ((ip_st_of f183_39).trans rfl)
theorem f183_40 : ip_fetch 183 40 = some (.getfield 68, 3) := by decide +kernel
set_option maxRecDepth 100000 in
theorem s183_40 {x0 : Nat} {x1 : Nat} {x2 : Int32} {s0 : Nat} {s1 : Nat} : ip_WP 183 40 [some (.ref x0), some (.ref x1), some (.int x2)] [.ref s1, .ref s0] (G, F, I, J) b post px ↔ (ip_isO G s1 8 = true ∧ ip_WP 183 43 [some (.ref x0), some (.ref x1), some (.int x2)] [F s1 7, .ref s0] (G, F, I, J) b post px) := ip_s_getf f183_40 (by decide +kernel)
theorem f183_43 : ip_fetch 183 43 = some (.aload_n 0, 1) := by decide +kernel
theorem s183_43 {x0 : Nat} {x1 : Nat} {x2 : Int32} {s0 : Nat} {s1 : Int32} : ip_WP 183 43 [some (.ref x0), some (.ref x1), some (.int x2)] [.int s1, .ref s0] (G, F, I, J) b post px ↔ ip_WP 183 44 [some (.ref x0), some (.ref x1), some (.int x2)] [.ref x0, .int s1, .ref s0] (G, F, I, J) b post px := ip_nx_iff ((ip_st_of f183_43).trans rfl)
theorem f183_44 : ip_fetch 183 44 = some (.getfield 24, 3) := by decide +kernel
set_option maxRecDepth 100000 in
theorem s183_44 {x0 : Nat} {x1 : Nat} {x2 : Int32} {s0 : Nat} {s1 : Int32} {s2 : Nat} : ip_WP 183 44 [some (.ref x0), some (.ref x1), some (.int x2)] [.ref s2, .int s1, .ref s0] (G, F, I, J) b post px ↔ (ip_isO G s2 8 = true ∧ ip_WP 183 47 [some (.ref x0), some (.ref x1), some (.int x2)] [F s2 2, .int s1, .ref s0] (G, F, I, J) b post px) := ip_s_getf f183_44 (by decide +kernel)
theorem f183_47 : ip_fetch 183 47 = some (.invokevirtual 211, 3) := by decide +kernel
set_option maxRecDepth 100000 in
theorem s183_47 {x0 : Nat} {x1 : Nat} {x2 : Int32} {s0 : Nat} {s1 : Int32} {s2 : Nat} : ip_WP 183 47 [some (.ref x0), some (.ref x1), some (.int x2)] [.ref s2, .int s1, .ref s0] (G, F, I, J) b post px ↔ (ip_isO G s2 5 = true ∧ ip_WP 130 0 [some (.ref s2)] [] (G, F, I, J) (0, 0) (fun r h' => ip_WP 183 50 [some (.ref x0), some (.ref x1), some (.int x2)] (r.toList ++ [.int s1, .ref s0]) h' b post px) (fun _ _ => False)) := ip_ck_iff (x := ip_cl 130 [some (.ref s2)] [.int s1, .ref s0] (0, 0) b) ((ip_st_of f183_47).trans rfl) (ip_cl_iff)
theorem f183_50 : ip_fetch 183 50 = some (.invokevirtual 204, 3) := by decide +kernel
set_option maxRecDepth 100000 in
theorem s183_50 {x0 : Nat} {x1 : Nat} {x2 : Int32} {s0 : Nat} {s1 : Int32} {s2 : Int32} : ip_WP 183 50 [some (.ref x0), some (.ref x1), some (.int x2)] [.int s2, .int s1, .ref s0] (G, F, I, J) b post px ↔ (ip_isO G s0 9 = true ∧ ip_WP 192 0 [some (.ref s0), some (.int s1), some (.int s2)] [] (G, F, I, J) (0, 0) (fun r h' => ip_WP 183 53 [some (.ref x0), some (.ref x1), some (.int x2)] (r.toList ++ []) h' b post px) (fun _ _ => False)) := ip_ck_iff (x := ip_cl 192 [some (.ref s0), some (.int s1), some (.int s2)] [] (0, 0) b) ((ip_st_of f183_50).trans rfl) (ip_cl_iff)
theorem f183_53 : ip_fetch 183 53 = some (.iconst 0, 1) := by decide +kernel
theorem s183_53 {x0 : Nat} {x1 : Nat} {x2 : Int32} : ip_WP 183 53 [some (.ref x0), some (.ref x1), some (.int x2)] [] (G, F, I, J) b post px ↔ ip_WP 183 54 [some (.ref x0), some (.ref x1), some (.int x2)] [.int 0] (G, F, I, J) b post px := ip_s_iconst f183_53 (by decide)
theorem f183_54 : ip_fetch 183 54 = some (.ireturn, 1) := by decide +kernel
theorem s183_54 {x0 : Nat} {x1 : Nat} {x2 : Int32} {s0 : Int32} : ip_WP 183 54 [some (.ref x0), some (.ref x1), some (.int x2)] [.int s0] (G, F, I, J) b post px ↔ post (some (.int s0)) (G, F, I, J) := ip_rt_iff ((ip_st_of f183_54).trans rfl)
theorem f184_0 : ip_fetch 184 0 = some (.aload_n 0, 1) := by decide +kernel
theorem s184_0 {x0 : Nat} {x1 : Nat} {x2 : Option Value} : ip_WP 184 0 [some (.ref x0), some (.ref x1), x2] [] (G, F, I, J) b post px ↔ ip_WP 184 1 [some (.ref x0), some (.ref x1), x2] [.ref x0] (G, F, I, J) b post px := ip_nx_iff ((ip_st_of f184_0).trans rfl)
theorem f184_1 : ip_fetch 184 1 = some (.aload_n 0, 1) := by decide +kernel
theorem s184_1 {x0 : Nat} {x1 : Nat} {x2 : Option Value} {s0 : Nat} : ip_WP 184 1 [some (.ref x0), some (.ref x1), x2] [.ref s0] (G, F, I, J) b post px ↔ ip_WP 184 2 [some (.ref x0), some (.ref x1), x2] [.ref x0, .ref s0] (G, F, I, J) b post px := ip_nx_iff ((ip_st_of f184_1).trans rfl)
theorem f184_2 : ip_fetch 184 2 = some (.getfield 15, 3) := by decide +kernel
set_option maxRecDepth 100000 in
theorem s184_2 {x0 : Nat} {x1 : Nat} {x2 : Option Value} {s0 : Nat} {s1 : Nat} : ip_WP 184 2 [some (.ref x0), some (.ref x1), x2] [.ref s1, .ref s0] (G, F, I, J) b post px ↔ (ip_isO G s1 8 = true ∧ ip_WP 184 5 [some (.ref x0), some (.ref x1), x2] [F s1 1, .ref s0] (G, F, I, J) b post px) := ip_s_getf f184_2 (by decide +kernel)
theorem f184_5 : ip_fetch 184 5 = some (.getfield 113, 3) := by decide +kernel
set_option maxRecDepth 100000 in
theorem s184_5 {x0 : Nat} {x1 : Nat} {x2 : Option Value} {s0 : Nat} {s1 : Nat} : ip_WP 184 5 [some (.ref x0), some (.ref x1), x2] [.ref s1, .ref s0] (G, F, I, J) b post px ↔ (ip_isO G s1 3 = true ∧ ip_WP 184 8 [some (.ref x0), some (.ref x1), x2] [F s1 1, .ref s0] (G, F, I, J) b post px) := ip_s_getf f184_5 (by decide +kernel)
theorem f184_8 : ip_fetch 184 8 = some (.invokevirtual 208, 3) := by decide +kernel
set_option maxRecDepth 100000 in
theorem s184_8 {x0 : Nat} {x1 : Nat} {x2 : Option Value} {s0 : Nat} {s1 : Nat} : ip_WP 184 8 [some (.ref x0), some (.ref x1), x2] [.ref s1, .ref s0] (G, F, I, J) b post px ↔ (ip_isO G s0 8 = true ∧ ip_WP 180 0 [some (.ref s0), some (.ref s1)] [] (G, F, I, J) (0, 0) (fun r h' => ip_WP 184 11 [some (.ref x0), some (.ref x1), x2] (r.toList ++ []) h' b post px) (fun _ _ => False)) := ip_ck_iff (x := ip_cl 180 [some (.ref s0), some (.ref s1)] [] (0, 0) b) ((ip_st_of f184_8).trans rfl) (ip_cl_iff)
theorem f184_11 : ip_fetch 184 11 = some (.istore_n 2, 1) := by decide +kernel
theorem s184_11 {x0 : Nat} {x1 : Nat} {x2 : Option Value} {s0 : Int32} : ip_WP 184 11 [some (.ref x0), some (.ref x1), x2] [.int s0] (G, F, I, J) b post px ↔ ip_WP 184 12 [some (.ref x0), some (.ref x1), some (.int s0)] [] (G, F, I, J) b post px := ip_nx_iff ((ip_st_of f184_11).trans rfl)
theorem f184_12 : ip_fetch 184 12 = some (.iload_n 2, 1) := by decide +kernel
theorem s184_12 {x0 : Nat} {x1 : Nat} {x2 : Int32} : ip_WP 184 12 [some (.ref x0), some (.ref x1), some (.int x2)] [] (G, F, I, J) b post px ↔ ip_WP 184 13 [some (.ref x0), some (.ref x1), some (.int x2)] [.int x2] (G, F, I, J) b post px := ip_nx_iff ((ip_st_of f184_12).trans rfl)
theorem f184_13 : ip_fetch 184 13 = some (.ifCond .ne 15, 3) := by decide +kernel
theorem s184_13 {x0 : Nat} {x1 : Nat} {x2 : Int32} {s0 : Int32} : ip_WP 184 13 [some (.ref x0), some (.ref x1), some (.int x2)] [.int s0] (G, F, I, J) b post px ↔ if ¬ s0 = 0 then ip_WP 184 28 [some (.ref x0), some (.ref x1), some (.int x2)] [] (G, F, I, J) b post px else ip_WP 184 16 [some (.ref x0), some (.ref x1), some (.int x2)] [] (G, F, I, J) b post px := ip_s_if_ne f184_13 rfl
theorem f184_16 : ip_fetch 184 16 = some (.aload_n 1, 1) := by decide +kernel
theorem s184_16 {x0 : Nat} {x1 : Nat} {x2 : Int32} : ip_WP 184 16 [some (.ref x0), some (.ref x1), some (.int x2)] [] (G, F, I, J) b post px ↔ ip_WP 184 17 [some (.ref x0), some (.ref x1), some (.int x2)] [.ref x1] (G, F, I, J) b post px := ip_nx_iff ((ip_st_of f184_16).trans rfl)
theorem f184_17 : ip_fetch 184 17 = some (.aload_n 0, 1) := by decide +kernel
theorem s184_17 {x0 : Nat} {x1 : Nat} {x2 : Int32} {s0 : Nat} : ip_WP 184 17 [some (.ref x0), some (.ref x1), some (.int x2)] [.ref s0] (G, F, I, J) b post px ↔ ip_WP 184 18 [some (.ref x0), some (.ref x1), some (.int x2)] [.ref x0, .ref s0] (G, F, I, J) b post px := ip_nx_iff ((ip_st_of f184_17).trans rfl)
theorem f184_18 : ip_fetch 184 18 = some (.getfield 68, 3) := by decide +kernel
set_option maxRecDepth 100000 in
theorem s184_18 {x0 : Nat} {x1 : Nat} {x2 : Int32} {s0 : Nat} {s1 : Nat} : ip_WP 184 18 [some (.ref x0), some (.ref x1), some (.int x2)] [.ref s1, .ref s0] (G, F, I, J) b post px ↔ (ip_isO G s1 8 = true ∧ ip_WP 184 21 [some (.ref x0), some (.ref x1), some (.int x2)] [F s1 7, .ref s0] (G, F, I, J) b post px) := ip_s_getf f184_18 (by decide +kernel)
theorem f184_21 : ip_fetch 184 21 = some (.aload_n 0, 1) := by decide +kernel
theorem s184_21 {x0 : Nat} {x1 : Nat} {x2 : Int32} {s0 : Nat} {s1 : Int32} : ip_WP 184 21 [some (.ref x0), some (.ref x1), some (.int x2)] [.int s1, .ref s0] (G, F, I, J) b post px ↔ ip_WP 184 22 [some (.ref x0), some (.ref x1), some (.int x2)] [.ref x0, .int s1, .ref s0] (G, F, I, J) b post px := ip_nx_iff ((ip_st_of f184_21).trans rfl)
theorem f184_22 : ip_fetch 184 22 = some (.getfield 71, 3) := by decide +kernel
set_option maxRecDepth 100000 in
theorem s184_22 {x0 : Nat} {x1 : Nat} {x2 : Int32} {s0 : Nat} {s1 : Int32} {s2 : Nat} : ip_WP 184 22 [some (.ref x0), some (.ref x1), some (.int x2)] [.ref s2, .int s1, .ref s0] (G, F, I, J) b post px ↔ (ip_isO G s2 8 = true ∧ ip_WP 184 25 [some (.ref x0), some (.ref x1), some (.int x2)] [F s2 8, .int s1, .ref s0] (G, F, I, J) b post px) := ip_s_getf f184_22 (by decide +kernel)
theorem f184_25 : ip_fetch 184 25 = some (.invokevirtual 204, 3) := by decide +kernel
set_option maxRecDepth 100000 in
theorem s184_25 {x0 : Nat} {x1 : Nat} {x2 : Int32} {s0 : Nat} {s1 : Int32} {s2 : Int32} : ip_WP 184 25 [some (.ref x0), some (.ref x1), some (.int x2)] [.int s2, .int s1, .ref s0] (G, F, I, J) b post px ↔ (ip_isO G s0 9 = true ∧ ip_WP 192 0 [some (.ref s0), some (.int s1), some (.int s2)] [] (G, F, I, J) (0, 0) (fun r h' => ip_WP 184 28 [some (.ref x0), some (.ref x1), some (.int x2)] (r.toList ++ []) h' b post px) (fun _ _ => False)) := ip_ck_iff (x := ip_cl 192 [some (.ref s0), some (.int s1), some (.int s2)] [] (0, 0) b) ((ip_st_of f184_25).trans rfl) (ip_cl_iff)
theorem f184_28 : ip_fetch 184 28 = some (.iload_n 2, 1) := by decide +kernel
theorem s184_28 {x0 : Nat} {x1 : Nat} {x2 : Int32} : ip_WP 184 28 [some (.ref x0), some (.ref x1), some (.int x2)] [] (G, F, I, J) b post px ↔ ip_WP 184 29 [some (.ref x0), some (.ref x1), some (.int x2)] [.int x2] (G, F, I, J) b post px := ip_nx_iff ((ip_st_of f184_28).trans rfl)
theorem f184_29 : ip_fetch 184 29 = some (.ireturn, 1) := by decide +kernel
theorem s184_29 {x0 : Nat} {x1 : Nat} {x2 : Int32} {s0 : Int32} : ip_WP 184 29 [some (.ref x0), some (.ref x1), some (.int x2)] [.int s0] (G, F, I, J) b post px ↔ post (some (.int s0)) (G, F, I, J) := ip_rt_iff ((ip_st_of f184_29).trans rfl)
theorem f185_0 : ip_fetch 185 0 = some (.aload_n 0, 1) := by decide +kernel
theorem s185_0 {x0 : Nat} {x1 : Option Value} : ip_WP 185 0 [some (.ref x0), x1] [] (G, F, I, J) b post px ↔ ip_WP 185 1 [some (.ref x0), x1] [.ref x0] (G, F, I, J) b post px := ip_nx_iff ((ip_st_of f185_0).trans rfl)
theorem f185_1 : ip_fetch 185 1 = some (.aload_n 0, 1) := by decide +kernel
theorem s185_1 {x0 : Nat} {x1 : Option Value} {s0 : Nat} : ip_WP 185 1 [some (.ref x0), x1] [.ref s0] (G, F, I, J) b post px ↔ ip_WP 185 2 [some (.ref x0), x1] [.ref x0, .ref s0] (G, F, I, J) b post px := ip_nx_iff ((ip_st_of f185_1).trans rfl)
theorem f185_2 : ip_fetch 185 2 = some (.getfield 15, 3) := by decide +kernel
set_option maxRecDepth 100000 in
theorem s185_2 {x0 : Nat} {x1 : Option Value} {s0 : Nat} {s1 : Nat} : ip_WP 185 2 [some (.ref x0), x1] [.ref s1, .ref s0] (G, F, I, J) b post px ↔ (ip_isO G s1 8 = true ∧ ip_WP 185 5 [some (.ref x0), x1] [F s1 1, .ref s0] (G, F, I, J) b post px) := ip_s_getf f185_2 (by decide +kernel)
theorem f185_5 : ip_fetch 185 5 = some (.getfield 113, 3) := by decide +kernel
set_option maxRecDepth 100000 in
theorem s185_5 {x0 : Nat} {x1 : Option Value} {s0 : Nat} {s1 : Nat} : ip_WP 185 5 [some (.ref x0), x1] [.ref s1, .ref s0] (G, F, I, J) b post px ↔ (ip_isO G s1 3 = true ∧ ip_WP 185 8 [some (.ref x0), x1] [F s1 1, .ref s0] (G, F, I, J) b post px) := ip_s_getf f185_5 (by decide +kernel)
theorem f185_8 : ip_fetch 185 8 = some (.invokevirtual 208, 3) := by decide +kernel
set_option maxRecDepth 100000 in
theorem s185_8 {x0 : Nat} {x1 : Option Value} {s0 : Nat} {s1 : Nat} : ip_WP 185 8 [some (.ref x0), x1] [.ref s1, .ref s0] (G, F, I, J) b post px ↔ (ip_isO G s0 8 = true ∧ ip_WP 180 0 [some (.ref s0), some (.ref s1)] [] (G, F, I, J) (0, 0) (fun r h' => ip_WP 185 11 [some (.ref x0), x1] (r.toList ++ []) h' b post px) (fun _ _ => False)) := ip_ck_iff (x := ip_cl 180 [some (.ref s0), some (.ref s1)] [] (0, 0) b) ((ip_st_of f185_8).trans rfl) (ip_cl_iff)
theorem f185_11 : ip_fetch 185 11 = some (.istore_n 1, 1) := by decide +kernel
theorem s185_11 {x0 : Nat} {x1 : Option Value} {s0 : Int32} : ip_WP 185 11 [some (.ref x0), x1] [.int s0] (G, F, I, J) b post px ↔ ip_WP 185 12 [some (.ref x0), some (.int s0)] [] (G, F, I, J) b post px := ip_nx_iff ((ip_st_of f185_11).trans rfl)
theorem f185_12 : ip_fetch 185 12 = some (.aload_n 0, 1) := by decide +kernel
theorem s185_12 {x0 : Nat} {x1 : Int32} : ip_WP 185 12 [some (.ref x0), some (.int x1)] [] (G, F, I, J) b post px ↔ ip_WP 185 13 [some (.ref x0), some (.int x1)] [.ref x0] (G, F, I, J) b post px := ip_nx_iff ((ip_st_of f185_12).trans rfl)
theorem f185_13 : ip_fetch 185 13 = some (.aload_n 0, 1) := by decide +kernel
theorem s185_13 {x0 : Nat} {x1 : Int32} {s0 : Nat} : ip_WP 185 13 [some (.ref x0), some (.int x1)] [.ref s0] (G, F, I, J) b post px ↔ ip_WP 185 14 [some (.ref x0), some (.int x1)] [.ref x0, .ref s0] (G, F, I, J) b post px := ip_nx_iff ((ip_st_of f185_13).trans rfl)
theorem f185_14 : ip_fetch 185 14 = some (.getfield 71, 3) := by decide +kernel
set_option maxRecDepth 100000 in
theorem s185_14 {x0 : Nat} {x1 : Int32} {s0 : Nat} {s1 : Nat} : ip_WP 185 14 [some (.ref x0), some (.int x1)] [.ref s1, .ref s0] (G, F, I, J) b post px ↔ (ip_isO G s1 8 = true ∧ ip_WP 185 17 [some (.ref x0), some (.int x1)] [F s1 8, .ref s0] (G, F, I, J) b post px) := ip_s_getf f185_14 (by decide +kernel)
theorem f185_17 : ip_fetch 185 17 = some (.putfield 68, 3) := by decide +kernel
set_option maxRecDepth 100000 in
theorem s185_17 {x0 : Nat} {x1 : Int32} {s0 : Nat} {s1 : Int32} : ip_WP 185 17 [some (.ref x0), some (.int x1)] [.int s1, .ref s0] (G, F, I, J) b post px ↔ (ip_isO G s0 8 = true ∧ ip_WP 185 20 [some (.ref x0), some (.int x1)] [] (G, ip_up F s0 7 (.int s1), I, J) b post px) := ip_s_put f185_17 (by decide +kernel) rfl
theorem f185_20 : ip_fetch 185 20 = some (.iload_n 1, 1) := by decide +kernel
theorem s185_20 {x0 : Nat} {x1 : Int32} : ip_WP 185 20 [some (.ref x0), some (.int x1)] [] (G, F, I, J) b post px ↔ ip_WP 185 21 [some (.ref x0), some (.int x1)] [.int x1] (G, F, I, J) b post px := ip_nx_iff ((ip_st_of f185_20).trans rfl)
theorem f185_21 : ip_fetch 185 21 = some (.ireturn, 1) := by decide +kernel
theorem s185_21 {x0 : Nat} {x1 : Int32} {s0 : Int32} : ip_WP 185 21 [some (.ref x0), some (.int x1)] [.int s0] (G, F, I, J) b post px ↔ post (some (.int s0)) (G, F, I, J) := ip_rt_iff ((ip_st_of f185_21).trans rfl)
theorem f186_0 : ip_fetch 186 0 = some (.aload_n 0, 1) := by decide +kernel
theorem s186_0 {x0 : Nat} {x1 : Option Value} : ip_WP 186 0 [some (.ref x0), x1] [] (G, F, I, J) b post px ↔ ip_WP 186 1 [some (.ref x0), x1] [.ref x0] (G, F, I, J) b post px := ip_nx_iff ((ip_st_of f186_0).trans rfl)
theorem f186_1 : ip_fetch 186 1 = some (.getfield 24, 3) := by decide +kernel
set_option maxRecDepth 100000 in
theorem s186_1 {x0 : Nat} {x1 : Option Value} {s0 : Nat} : ip_WP 186 1 [some (.ref x0), x1] [.ref s0] (G, F, I, J) b post px ↔ (ip_isO G s0 8 = true ∧ ip_WP 186 4 [some (.ref x0), x1] [F s0 2] (G, F, I, J) b post px) := ip_s_getf f186_1 (by decide +kernel)
theorem f186_4 : ip_fetch 186 4 = some (.invokevirtual 52, 3) := by decide +kernel
set_option maxRecDepth 100000 in
theorem s186_4 {x0 : Nat} {x1 : Option Value} {s0 : Nat} : ip_WP 186 4 [some (.ref x0), x1] [.ref s0] (G, F, I, J) b post px ↔ (ip_isO G s0 5 = true ∧ ip_WP 127 0 [some (.ref s0)] [] (G, F, I, J) (0, 0) (fun r h' => ip_WP 186 7 [some (.ref x0), x1] (r.toList ++ []) h' b post px) (fun _ _ => False)) := ip_ck_iff (x := ip_cl 127 [some (.ref s0)] [] (0, 0) b) ((ip_st_of f186_4).trans rfl) (ip_cl_iff)
theorem f186_7 : ip_fetch 186 7 = some (.iconst 2, 1) := by decide +kernel
theorem s186_7 {x0 : Nat} {x1 : Option Value} {s0 : Int32} : ip_WP 186 7 [some (.ref x0), x1] [.int s0] (G, F, I, J) b post px ↔ ip_WP 186 8 [some (.ref x0), x1] [.int 2, .int s0] (G, F, I, J) b post px := ip_s_iconst f186_7 (by decide)
theorem f186_8 : ip_fetch 186 8 = some (.if_icmp .ne 15, 3) := by decide +kernel
theorem s186_8 {x0 : Nat} {x1 : Option Value} {s0 : Int32} {s1 : Int32} : ip_WP 186 8 [some (.ref x0), x1] [.int s1, .int s0] (G, F, I, J) b post px ↔ if ¬ s0 = s1 then ip_WP 186 23 [some (.ref x0), x1] [] (G, F, I, J) b post px else ip_WP 186 11 [some (.ref x0), x1] [] (G, F, I, J) b post px := ip_s_ic_ne f186_8 rfl
theorem f186_11 : ip_fetch 186 11 = some (.aload_n 0, 1) := by decide +kernel
theorem s186_11 {x0 : Nat} {x1 : Option Value} : ip_WP 186 11 [some (.ref x0), x1] [] (G, F, I, J) b post px ↔ ip_WP 186 12 [some (.ref x0), x1] [.ref x0] (G, F, I, J) b post px := ip_nx_iff ((ip_st_of f186_11).trans rfl)
theorem f186_12 : ip_fetch 186 12 = some (.getfield 15, 3) := by decide +kernel
set_option maxRecDepth 100000 in
theorem s186_12 {x0 : Nat} {x1 : Option Value} {s0 : Nat} : ip_WP 186 12 [some (.ref x0), x1] [.ref s0] (G, F, I, J) b post px ↔ (ip_isO G s0 8 = true ∧ ip_WP 186 15 [some (.ref x0), x1] [F s0 1] (G, F, I, J) b post px) := ip_s_getf f186_12 (by decide +kernel)
theorem f186_15 : ip_fetch 186 15 = some (.invokevirtual 214, 3) := by decide +kernel
set_option maxRecDepth 100000 in
theorem s186_15 {x0 : Nat} {x1 : Option Value} {s0 : Nat} : ip_WP 186 15 [some (.ref x0), x1] [.ref s0] (G, F, I, J) b post px ↔ (ip_isO G s0 3 = true ∧ ip_WP 111 0 [some (.ref s0)] [] (G, F, I, J) (0, 0) (fun r h' => ip_WP 186 18 [some (.ref x0), x1] (r.toList ++ []) h' b post px) (fun _ _ => False)) := ip_ck_iff (x := ip_cl 111 [some (.ref s0)] [] (0, 0) b) ((ip_st_of f186_15).trans rfl) (ip_cl_iff)
theorem f186_18 : ip_fetch 186 18 = some (.ifCond .eq 5, 3) := by decide +kernel
theorem s186_18 {x0 : Nat} {x1 : Option Value} {s0 : Int32} : ip_WP 186 18 [some (.ref x0), x1] [.int s0] (G, F, I, J) b post px ↔ if s0 = 0 then ip_WP 186 23 [some (.ref x0), x1] [] (G, F, I, J) b post px else ip_WP 186 21 [some (.ref x0), x1] [] (G, F, I, J) b post px := ip_s_if_eq f186_18 rfl
theorem f186_21 : ip_fetch 186 21 = some (.iconst 3, 1) := by decide +kernel
theorem s186_21 {x0 : Nat} {x1 : Option Value} : ip_WP 186 21 [some (.ref x0), x1] [] (G, F, I, J) b post px ↔ ip_WP 186 22 [some (.ref x0), x1] [.int 3] (G, F, I, J) b post px := ip_s_iconst f186_21 (by decide)
theorem f186_22 : ip_fetch 186 22 = some (.ireturn, 1) := by decide +kernel
theorem s186_22 {x0 : Nat} {x1 : Option Value} {s0 : Int32} : ip_WP 186 22 [some (.ref x0), x1] [.int s0] (G, F, I, J) b post px ↔ post (some (.int s0)) (G, F, I, J) := ip_rt_iff ((ip_st_of f186_22).trans rfl)
theorem f186_23 : ip_fetch 186 23 = some (.aload_n 0, 1) := by decide +kernel
theorem s186_23 {x0 : Nat} {x1 : Option Value} : ip_WP 186 23 [some (.ref x0), x1] [] (G, F, I, J) b post px ↔ ip_WP 186 24 [some (.ref x0), x1] [.ref x0] (G, F, I, J) b post px := ip_nx_iff ((ip_st_of f186_23).trans rfl)
theorem f186_24 : ip_fetch 186 24 = some (.aload_n 0, 1) := by decide +kernel
theorem s186_24 {x0 : Nat} {x1 : Option Value} {s0 : Nat} : ip_WP 186 24 [some (.ref x0), x1] [.ref s0] (G, F, I, J) b post px ↔ ip_WP 186 25 [some (.ref x0), x1] [.ref x0, .ref s0] (G, F, I, J) b post px := ip_nx_iff ((ip_st_of f186_24).trans rfl)
theorem f186_25 : ip_fetch 186 25 = some (.getfield 15, 3) := by decide +kernel
set_option maxRecDepth 100000 in
theorem s186_25 {x0 : Nat} {x1 : Option Value} {s0 : Nat} {s1 : Nat} : ip_WP 186 25 [some (.ref x0), x1] [.ref s1, .ref s0] (G, F, I, J) b post px ↔ (ip_isO G s1 8 = true ∧ ip_WP 186 28 [some (.ref x0), x1] [F s1 1, .ref s0] (G, F, I, J) b post px) := ip_s_getf f186_25 (by decide +kernel)
theorem f186_28 : ip_fetch 186 28 = some (.getfield 113, 3) := by decide +kernel
set_option maxRecDepth 100000 in
theorem s186_28 {x0 : Nat} {x1 : Option Value} {s0 : Nat} {s1 : Nat} : ip_WP 186 28 [some (.ref x0), x1] [.ref s1, .ref s0] (G, F, I, J) b post px ↔ (ip_isO G s1 3 = true ∧ ip_WP 186 31 [some (.ref x0), x1] [F s1 1, .ref s0] (G, F, I, J) b post px) := ip_s_getf f186_28 (by decide +kernel)
theorem f186_31 : ip_fetch 186 31 = some (.invokevirtual 208, 3) := by decide +kernel
set_option maxRecDepth 100000 in
theorem s186_31 {x0 : Nat} {x1 : Option Value} {s0 : Nat} {s1 : Nat} : ip_WP 186 31 [some (.ref x0), x1] [.ref s1, .ref s0] (G, F, I, J) b post px ↔ (ip_isO G s0 8 = true ∧ ip_WP 180 0 [some (.ref s0), some (.ref s1)] [] (G, F, I, J) (0, 0) (fun r h' => ip_WP 186 34 [some (.ref x0), x1] (r.toList ++ []) h' b post px) (fun _ _ => False)) := ip_ck_iff (x := ip_cl 180 [some (.ref s0), some (.ref s1)] [] (0, 0) b) ((ip_st_of f186_31).trans rfl) (ip_cl_iff)
theorem f186_34 : ip_fetch 186 34 = some (.istore_n 1, 1) := by decide +kernel
theorem s186_34 {x0 : Nat} {x1 : Option Value} {s0 : Int32} : ip_WP 186 34 [some (.ref x0), x1] [.int s0] (G, F, I, J) b post px ↔ ip_WP 186 35 [some (.ref x0), some (.int s0)] [] (G, F, I, J) b post px := ip_nx_iff ((ip_st_of f186_34).trans rfl)
theorem f186_35 : ip_fetch 186 35 = some (.iload_n 1, 1) := by decide +kernel
theorem s186_35 {x0 : Nat} {x1 : Int32} : ip_WP 186 35 [some (.ref x0), some (.int x1)] [] (G, F, I, J) b post px ↔ ip_WP 186 36 [some (.ref x0), some (.int x1)] [.int x1] (G, F, I, J) b post px := ip_nx_iff ((ip_st_of f186_35).trans rfl)
theorem f186_36 : ip_fetch 186 36 = some (.ifCond .eq 5, 3) := by decide +kernel
theorem s186_36 {x0 : Nat} {x1 : Int32} {s0 : Int32} : ip_WP 186 36 [some (.ref x0), some (.int x1)] [.int s0] (G, F, I, J) b post px ↔ if s0 = 0 then ip_WP 186 41 [some (.ref x0), some (.int x1)] [] (G, F, I, J) b post px else ip_WP 186 39 [some (.ref x0), some (.int x1)] [] (G, F, I, J) b post px := ip_s_if_eq f186_36 rfl
theorem f186_39 : ip_fetch 186 39 = some (.iload_n 1, 1) := by decide +kernel
theorem s186_39 {x0 : Nat} {x1 : Int32} : ip_WP 186 39 [some (.ref x0), some (.int x1)] [] (G, F, I, J) b post px ↔ ip_WP 186 40 [some (.ref x0), some (.int x1)] [.int x1] (G, F, I, J) b post px := ip_nx_iff ((ip_st_of f186_39).trans rfl)
theorem f186_40 : ip_fetch 186 40 = some (.ireturn, 1) := by decide +kernel
theorem s186_40 {x0 : Nat} {x1 : Int32} {s0 : Int32} : ip_WP 186 40 [some (.ref x0), some (.int x1)] [.int s0] (G, F, I, J) b post px ↔ post (some (.int s0)) (G, F, I, J) := ip_rt_iff ((ip_st_of f186_40).trans rfl)
theorem f186_41 : ip_fetch 186 41 = some (.aload_n 0, 1) := by decide +kernel
theorem s186_41 {x0 : Nat} {x1 : Int32} : ip_WP 186 41 [some (.ref x0), some (.int x1)] [] (G, F, I, J) b post px ↔ ip_WP 186 42 [some (.ref x0), some (.int x1)] [.ref x0] (G, F, I, J) b post px := ip_nx_iff ((ip_st_of f186_41).trans rfl)
theorem f186_42 : ip_fetch 186 42 = some (.getfield 15, 3) := by decide +kernel
set_option maxRecDepth 100000 in
theorem s186_42 {x0 : Nat} {x1 : Int32} {s0 : Nat} : ip_WP 186 42 [some (.ref x0), some (.int x1)] [.ref s0] (G, F, I, J) b post px ↔ (ip_isO G s0 8 = true ∧ ip_WP 186 45 [some (.ref x0), some (.int x1)] [F s0 1] (G, F, I, J) b post px) := ip_s_getf f186_42 (by decide +kernel)
theorem f186_45 : ip_fetch 186 45 = some (.aload_n 0, 1) := by decide +kernel
theorem s186_45 {x0 : Nat} {x1 : Int32} {s0 : Nat} : ip_WP 186 45 [some (.ref x0), some (.int x1)] [.ref s0] (G, F, I, J) b post px ↔ ip_WP 186 46 [some (.ref x0), some (.int x1)] [.ref x0, .ref s0] (G, F, I, J) b post px := ip_nx_iff ((ip_st_of f186_45).trans rfl)
theorem f186_46 : ip_fetch 186 46 = some (.getfield 68, 3) := by decide +kernel
set_option maxRecDepth 100000 in
theorem s186_46 {x0 : Nat} {x1 : Int32} {s0 : Nat} {s1 : Nat} : ip_WP 186 46 [some (.ref x0), some (.int x1)] [.ref s1, .ref s0] (G, F, I, J) b post px ↔ (ip_isO G s1 8 = true ∧ ip_WP 186 49 [some (.ref x0), some (.int x1)] [F s1 7, .ref s0] (G, F, I, J) b post px) := ip_s_getf f186_46 (by decide +kernel)
theorem f186_49 : ip_fetch 186 49 = some (.aload_n 0, 1) := by decide +kernel
theorem s186_49 {x0 : Nat} {x1 : Int32} {s0 : Nat} {s1 : Int32} : ip_WP 186 49 [some (.ref x0), some (.int x1)] [.int s1, .ref s0] (G, F, I, J) b post px ↔ ip_WP 186 50 [some (.ref x0), some (.int x1)] [.ref x0, .int s1, .ref s0] (G, F, I, J) b post px := ip_nx_iff ((ip_st_of f186_49).trans rfl)
theorem f186_50 : ip_fetch 186 50 = some (.getfield 71, 3) := by decide +kernel
set_option maxRecDepth 100000 in
theorem s186_50 {x0 : Nat} {x1 : Int32} {s0 : Nat} {s1 : Int32} {s2 : Nat} : ip_WP 186 50 [some (.ref x0), some (.int x1)] [.ref s2, .int s1, .ref s0] (G, F, I, J) b post px ↔ (ip_isO G s2 8 = true ∧ ip_WP 186 53 [some (.ref x0), some (.int x1)] [F s2 8, .int s1, .ref s0] (G, F, I, J) b post px) := ip_s_getf f186_50 (by decide +kernel)
theorem f186_53 : ip_fetch 186 53 = some (.invokevirtual 217, 3) := by decide +kernel
set_option maxRecDepth 100000 in
theorem s186_53 {x0 : Nat} {x1 : Int32} {s0 : Nat} {s1 : Int32} {s2 : Int32} : ip_WP 186 53 [some (.ref x0), some (.int x1)] [.int s2, .int s1, .ref s0] (G, F, I, J) b post px ↔ (ip_isO G s0 3 = true ∧ ip_WP 113 0 [some (.ref s0), some (.int s1), some (.int s2), none] [] (G, F, I, J) (0, 0) (fun r h' => ip_WP 186 56 [some (.ref x0), some (.int x1)] (r.toList ++ []) h' b post px) (fun _ _ => False)) := ip_ck_iff (x := ip_cl 113 [some (.ref s0), some (.int s1), some (.int s2), none] [] (0, 0) b) ((ip_st_of f186_53).trans rfl) (ip_cl_iff)
theorem f186_56 : ip_fetch 186 56 = some (.ifCond .eq 6, 3) := by decide +kernel
theorem s186_56 {x0 : Nat} {x1 : Int32} {s0 : Int32} : ip_WP 186 56 [some (.ref x0), some (.int x1)] [.int s0] (G, F, I, J) b post px ↔ if s0 = 0 then ip_WP 186 62 [some (.ref x0), some (.int x1)] [] (G, F, I, J) b post px else ip_WP 186 59 [some (.ref x0), some (.int x1)] [] (G, F, I, J) b post px := ip_s_if_eq f186_56 rfl
theorem f186_59 : ip_fetch 186 59 = some (.bipush 7, 2) := by decide +kernel
theorem s186_59 {x0 : Nat} {x1 : Int32} : ip_WP 186 59 [some (.ref x0), some (.int x1)] [] (G, F, I, J) b post px ↔ ip_WP 186 61 [some (.ref x0), some (.int x1)] [.int 7] (G, F, I, J) b post px := ip_s_bipush f186_59 (by decide)
theorem f186_61 : ip_fetch 186 61 = some (.ireturn, 1) := by decide +kernel
theorem s186_61 {x0 : Nat} {x1 : Int32} {s0 : Int32} : ip_WP 186 61 [some (.ref x0), some (.int x1)] [.int s0] (G, F, I, J) b post px ↔ post (some (.int s0)) (G, F, I, J) := ip_rt_iff ((ip_st_of f186_61).trans rfl)
theorem f186_62 : ip_fetch 186 62 = some (.aload_n 0, 1) := by decide +kernel
theorem s186_62 {x0 : Nat} {x1 : Int32} : ip_WP 186 62 [some (.ref x0), some (.int x1)] [] (G, F, I, J) b post px ↔ ip_WP 186 63 [some (.ref x0), some (.int x1)] [.ref x0] (G, F, I, J) b post px := ip_nx_iff ((ip_st_of f186_62).trans rfl)
theorem f186_63 : ip_fetch 186 63 = some (.getfield 15, 3) := by decide +kernel
set_option maxRecDepth 100000 in
theorem s186_63 {x0 : Nat} {x1 : Int32} {s0 : Nat} : ip_WP 186 63 [some (.ref x0), some (.int x1)] [.ref s0] (G, F, I, J) b post px ↔ (ip_isO G s0 8 = true ∧ ip_WP 186 66 [some (.ref x0), some (.int x1)] [F s0 1] (G, F, I, J) b post px) := ip_s_getf f186_63 (by decide +kernel)
theorem f186_66 : ip_fetch 186 66 = some (.aload_n 0, 1) := by decide +kernel
theorem s186_66 {x0 : Nat} {x1 : Int32} {s0 : Nat} : ip_WP 186 66 [some (.ref x0), some (.int x1)] [.ref s0] (G, F, I, J) b post px ↔ ip_WP 186 67 [some (.ref x0), some (.int x1)] [.ref x0, .ref s0] (G, F, I, J) b post px := ip_nx_iff ((ip_st_of f186_66).trans rfl)
theorem f186_67 : ip_fetch 186 67 = some (.getfield 68, 3) := by decide +kernel
set_option maxRecDepth 100000 in
theorem s186_67 {x0 : Nat} {x1 : Int32} {s0 : Nat} {s1 : Nat} : ip_WP 186 67 [some (.ref x0), some (.int x1)] [.ref s1, .ref s0] (G, F, I, J) b post px ↔ (ip_isO G s1 8 = true ∧ ip_WP 186 70 [some (.ref x0), some (.int x1)] [F s1 7, .ref s0] (G, F, I, J) b post px) := ip_s_getf f186_67 (by decide +kernel)
theorem f186_70 : ip_fetch 186 70 = some (.aload_n 0, 1) := by decide +kernel
theorem s186_70 {x0 : Nat} {x1 : Int32} {s0 : Nat} {s1 : Int32} : ip_WP 186 70 [some (.ref x0), some (.int x1)] [.int s1, .ref s0] (G, F, I, J) b post px ↔ ip_WP 186 71 [some (.ref x0), some (.int x1)] [.ref x0, .int s1, .ref s0] (G, F, I, J) b post px := ip_nx_iff ((ip_st_of f186_70).trans rfl)
theorem f186_71 : ip_fetch 186 71 = some (.getfield 71, 3) := by decide +kernel
set_option maxRecDepth 100000 in
theorem s186_71 {x0 : Nat} {x1 : Int32} {s0 : Nat} {s1 : Int32} {s2 : Nat} : ip_WP 186 71 [some (.ref x0), some (.int x1)] [.ref s2, .int s1, .ref s0] (G, F, I, J) b post px ↔ (ip_isO G s2 8 = true ∧ ip_WP 186 74 [some (.ref x0), some (.int x1)] [F s2 8, .int s1, .ref s0] (G, F, I, J) b post px) := ip_s_getf f186_71 (by decide +kernel)
theorem f186_74 : ip_fetch 186 74 = some (.invokevirtual 221, 3) := by decide +kernel
set_option maxRecDepth 100000 in
theorem s186_74 {x0 : Nat} {x1 : Int32} {s0 : Nat} {s1 : Int32} {s2 : Int32} : ip_WP 186 74 [some (.ref x0), some (.int x1)] [.int s2, .int s1, .ref s0] (G, F, I, J) b post px ↔ (ip_isO G s0 3 = true ∧ ip_WP 112 0 [some (.ref s0), some (.int s1), some (.int s2)] [] (G, F, I, J) (0, 0) (fun r h' => ip_WP 186 77 [some (.ref x0), some (.int x1)] (r.toList ++ []) h' b post px) (fun _ _ => False)) := ip_ck_iff (x := ip_cl 112 [some (.ref s0), some (.int s1), some (.int s2)] [] (0, 0) b) ((ip_st_of f186_74).trans rfl) (ip_cl_iff)
theorem f186_77 : ip_fetch 186 77 = some (.iconst 0, 1) := by decide +kernel
theorem s186_77 {x0 : Nat} {x1 : Int32} : ip_WP 186 77 [some (.ref x0), some (.int x1)] [] (G, F, I, J) b post px ↔ ip_WP 186 78 [some (.ref x0), some (.int x1)] [.int 0] (G, F, I, J) b post px := ip_s_iconst f186_77 (by decide)
theorem f186_78 : ip_fetch 186 78 = some (.ireturn, 1) := by decide +kernel
theorem s186_78 {x0 : Nat} {x1 : Int32} {s0 : Int32} : ip_WP 186 78 [some (.ref x0), some (.int x1)] [.int s0] (G, F, I, J) b post px ↔ post (some (.int s0)) (G, F, I, J) := ip_rt_iff ((ip_st_of f186_78).trans rfl)
theorem f187_0 : ip_fetch 187 0 = some (.aload_n 0, 1) := by decide +kernel
theorem s187_0 {x0 : Nat} {x1 : Option Value} : ip_WP 187 0 [some (.ref x0), x1] [] (G, F, I, J) b post px ↔ ip_WP 187 1 [some (.ref x0), x1] [.ref x0] (G, F, I, J) b post px := ip_nx_iff ((ip_st_of f187_0).trans rfl)
theorem f187_1 : ip_fetch 187 1 = some (.aload_n 0, 1) := by decide +kernel
theorem s187_1 {x0 : Nat} {x1 : Option Value} {s0 : Nat} : ip_WP 187 1 [some (.ref x0), x1] [.ref s0] (G, F, I, J) b post px ↔ ip_WP 187 2 [some (.ref x0), x1] [.ref x0, .ref s0] (G, F, I, J) b post px := ip_nx_iff ((ip_st_of f187_1).trans rfl)
theorem f187_2 : ip_fetch 187 2 = some (.getfield 15, 3) := by decide +kernel
set_option maxRecDepth 100000 in
theorem s187_2 {x0 : Nat} {x1 : Option Value} {s0 : Nat} {s1 : Nat} : ip_WP 187 2 [some (.ref x0), x1] [.ref s1, .ref s0] (G, F, I, J) b post px ↔ (ip_isO G s1 8 = true ∧ ip_WP 187 5 [some (.ref x0), x1] [F s1 1, .ref s0] (G, F, I, J) b post px) := ip_s_getf f187_2 (by decide +kernel)
theorem f187_5 : ip_fetch 187 5 = some (.getfield 102, 3) := by decide +kernel
set_option maxRecDepth 100000 in
theorem s187_5 {x0 : Nat} {x1 : Option Value} {s0 : Nat} {s1 : Nat} : ip_WP 187 5 [some (.ref x0), x1] [.ref s1, .ref s0] (G, F, I, J) b post px ↔ (ip_isO G s1 3 = true ∧ ip_WP 187 8 [some (.ref x0), x1] [F s1 0, .ref s0] (G, F, I, J) b post px) := ip_s_getf f187_5 (by decide +kernel)
theorem f187_8 : ip_fetch 187 8 = some (.invokevirtual 208, 3) := by decide +kernel
set_option maxRecDepth 100000 in
theorem s187_8 {x0 : Nat} {x1 : Option Value} {s0 : Nat} {s1 : Nat} : ip_WP 187 8 [some (.ref x0), x1] [.ref s1, .ref s0] (G, F, I, J) b post px ↔ (ip_isO G s0 8 = true ∧ ip_WP 180 0 [some (.ref s0), some (.ref s1)] [] (G, F, I, J) (0, 0) (fun r h' => ip_WP 187 11 [some (.ref x0), x1] (r.toList ++ []) h' b post px) (fun _ _ => False)) := ip_ck_iff (x := ip_cl 180 [some (.ref s0), some (.ref s1)] [] (0, 0) b) ((ip_st_of f187_8).trans rfl) (ip_cl_iff)
theorem f187_11 : ip_fetch 187 11 = some (.istore_n 1, 1) := by decide +kernel
theorem s187_11 {x0 : Nat} {x1 : Option Value} {s0 : Int32} : ip_WP 187 11 [some (.ref x0), x1] [.int s0] (G, F, I, J) b post px ↔ ip_WP 187 12 [some (.ref x0), some (.int s0)] [] (G, F, I, J) b post px := ip_nx_iff ((ip_st_of f187_11).trans rfl)
theorem f187_12 : ip_fetch 187 12 = some (.iload_n 1, 1) := by decide +kernel
theorem s187_12 {x0 : Nat} {x1 : Int32} : ip_WP 187 12 [some (.ref x0), some (.int x1)] [] (G, F, I, J) b post px ↔ ip_WP 187 13 [some (.ref x0), some (.int x1)] [.int x1] (G, F, I, J) b post px := ip_nx_iff ((ip_st_of f187_12).trans rfl)
theorem f187_13 : ip_fetch 187 13 = some (.ifCond .eq 5, 3) := by decide +kernel
theorem s187_13 {x0 : Nat} {x1 : Int32} {s0 : Int32} : ip_WP 187 13 [some (.ref x0), some (.int x1)] [.int s0] (G, F, I, J) b post px ↔ if s0 = 0 then ip_WP 187 18 [some (.ref x0), some (.int x1)] [] (G, F, I, J) b post px else ip_WP 187 16 [some (.ref x0), some (.int x1)] [] (G, F, I, J) b post px := ip_s_if_eq f187_13 rfl
theorem f187_16 : ip_fetch 187 16 = some (.iload_n 1, 1) := by decide +kernel
theorem s187_16 {x0 : Nat} {x1 : Int32} : ip_WP 187 16 [some (.ref x0), some (.int x1)] [] (G, F, I, J) b post px ↔ ip_WP 187 17 [some (.ref x0), some (.int x1)] [.int x1] (G, F, I, J) b post px := ip_nx_iff ((ip_st_of f187_16).trans rfl)
theorem f187_17 : ip_fetch 187 17 = some (.ireturn, 1) := by decide +kernel
theorem s187_17 {x0 : Nat} {x1 : Int32} {s0 : Int32} : ip_WP 187 17 [some (.ref x0), some (.int x1)] [.int s0] (G, F, I, J) b post px ↔ post (some (.int s0)) (G, F, I, J) := ip_rt_iff ((ip_st_of f187_17).trans rfl)
theorem f187_18 : ip_fetch 187 18 = some (.aload_n 0, 1) := by decide +kernel
theorem s187_18 {x0 : Nat} {x1 : Int32} : ip_WP 187 18 [some (.ref x0), some (.int x1)] [] (G, F, I, J) b post px ↔ ip_WP 187 19 [some (.ref x0), some (.int x1)] [.ref x0] (G, F, I, J) b post px := ip_nx_iff ((ip_st_of f187_18).trans rfl)
theorem f187_19 : ip_fetch 187 19 = some (.getfield 15, 3) := by decide +kernel
set_option maxRecDepth 100000 in
theorem s187_19 {x0 : Nat} {x1 : Int32} {s0 : Nat} : ip_WP 187 19 [some (.ref x0), some (.int x1)] [.ref s0] (G, F, I, J) b post px ↔ (ip_isO G s0 8 = true ∧ ip_WP 187 22 [some (.ref x0), some (.int x1)] [F s0 1] (G, F, I, J) b post px) := ip_s_getf f187_19 (by decide +kernel)
theorem f187_22 : ip_fetch 187 22 = some (.aload_n 0, 1) := by decide +kernel
theorem s187_22 {x0 : Nat} {x1 : Int32} {s0 : Nat} : ip_WP 187 22 [some (.ref x0), some (.int x1)] [.ref s0] (G, F, I, J) b post px ↔ ip_WP 187 23 [some (.ref x0), some (.int x1)] [.ref x0, .ref s0] (G, F, I, J) b post px := ip_nx_iff ((ip_st_of f187_22).trans rfl)
theorem f187_23 : ip_fetch 187 23 = some (.getfield 71, 3) := by decide +kernel
set_option maxRecDepth 100000 in
theorem s187_23 {x0 : Nat} {x1 : Int32} {s0 : Nat} {s1 : Nat} : ip_WP 187 23 [some (.ref x0), some (.int x1)] [.ref s1, .ref s0] (G, F, I, J) b post px ↔ (ip_isO G s1 8 = true ∧ ip_WP 187 26 [some (.ref x0), some (.int x1)] [F s1 8, .ref s0] (G, F, I, J) b post px) := ip_s_getf f187_23 (by decide +kernel)
theorem f187_26 : ip_fetch 187 26 = some (.invokevirtual 224, 3) := by decide +kernel
set_option maxRecDepth 100000 in
theorem s187_26 {x0 : Nat} {x1 : Int32} {s0 : Nat} {s1 : Int32} : ip_WP 187 26 [some (.ref x0), some (.int x1)] [.int s1, .ref s0] (G, F, I, J) b post px ↔ (ip_isO G s0 3 = true ∧ ip_WP 108 0 [some (.ref s0), some (.int s1)] [] (G, F, I, J) (0, 0) (fun r h' => ip_WP 187 29 [some (.ref x0), some (.int x1)] (r.toList ++ []) h' b post px) (fun _ _ => False)) := ip_ck_iff (x := ip_cl 108 [some (.ref s0), some (.int s1)] [] (0, 0) b) ((ip_st_of f187_26).trans rfl) (ip_cl_iff)
theorem f187_29 : ip_fetch 187 29 = some (.ifCond .eq 6, 3) := by decide +kernel
theorem s187_29 {x0 : Nat} {x1 : Int32} {s0 : Int32} : ip_WP 187 29 [some (.ref x0), some (.int x1)] [.int s0] (G, F, I, J) b post px ↔ if s0 = 0 then ip_WP 187 35 [some (.ref x0), some (.int x1)] [] (G, F, I, J) b post px else ip_WP 187 32 [some (.ref x0), some (.int x1)] [] (G, F, I, J) b post px := ip_s_if_eq f187_29 rfl
theorem f187_32 : ip_fetch 187 32 = some (.bipush 7, 2) := by decide +kernel
theorem s187_32 {x0 : Nat} {x1 : Int32} : ip_WP 187 32 [some (.ref x0), some (.int x1)] [] (G, F, I, J) b post px ↔ ip_WP 187 34 [some (.ref x0), some (.int x1)] [.int 7] (G, F, I, J) b post px := ip_s_bipush f187_32 (by decide)
theorem f187_34 : ip_fetch 187 34 = some (.ireturn, 1) := by decide +kernel
theorem s187_34 {x0 : Nat} {x1 : Int32} {s0 : Int32} : ip_WP 187 34 [some (.ref x0), some (.int x1)] [.int s0] (G, F, I, J) b post px ↔ post (some (.int s0)) (G, F, I, J) := ip_rt_iff ((ip_st_of f187_34).trans rfl)
theorem f187_35 : ip_fetch 187 35 = some (.aload_n 0, 1) := by decide +kernel
theorem s187_35 {x0 : Nat} {x1 : Int32} : ip_WP 187 35 [some (.ref x0), some (.int x1)] [] (G, F, I, J) b post px ↔ ip_WP 187 36 [some (.ref x0), some (.int x1)] [.ref x0] (G, F, I, J) b post px := ip_nx_iff ((ip_st_of f187_35).trans rfl)
theorem f187_36 : ip_fetch 187 36 = some (.getfield 15, 3) := by decide +kernel
set_option maxRecDepth 100000 in
theorem s187_36 {x0 : Nat} {x1 : Int32} {s0 : Nat} : ip_WP 187 36 [some (.ref x0), some (.int x1)] [.ref s0] (G, F, I, J) b post px ↔ (ip_isO G s0 8 = true ∧ ip_WP 187 39 [some (.ref x0), some (.int x1)] [F s0 1] (G, F, I, J) b post px) := ip_s_getf f187_36 (by decide +kernel)
theorem f187_39 : ip_fetch 187 39 = some (.getfield 228, 3) := by decide +kernel
set_option maxRecDepth 100000 in
theorem s187_39 {x0 : Nat} {x1 : Int32} {s0 : Nat} : ip_WP 187 39 [some (.ref x0), some (.int x1)] [.ref s0] (G, F, I, J) b post px ↔ (ip_isO G s0 3 = true ∧ ip_WP 187 42 [some (.ref x0), some (.int x1)] [F s0 6] (G, F, I, J) b post px) := ip_s_getf f187_39 (by decide +kernel)
theorem f187_42 : ip_fetch 187 42 = some (.aload_n 0, 1) := by decide +kernel
theorem s187_42 {x0 : Nat} {x1 : Int32} {s0 : Nat} : ip_WP 187 42 [some (.ref x0), some (.int x1)] [.ref s0] (G, F, I, J) b post px ↔ ip_WP 187 43 [some (.ref x0), some (.int x1)] [.ref x0, .ref s0] (G, F, I, J) b post px := ip_nx_iff ((ip_st_of f187_42).trans rfl)
theorem f187_43 : ip_fetch 187 43 = some (.getfield 71, 3) := by decide +kernel
set_option maxRecDepth 100000 in
theorem s187_43 {x0 : Nat} {x1 : Int32} {s0 : Nat} {s1 : Nat} : ip_WP 187 43 [some (.ref x0), some (.int x1)] [.ref s1, .ref s0] (G, F, I, J) b post px ↔ (ip_isO G s1 8 = true ∧ ip_WP 187 46 [some (.ref x0), some (.int x1)] [F s1 8, .ref s0] (G, F, I, J) b post px) := ip_s_getf f187_43 (by decide +kernel)
theorem f187_46 : ip_fetch 187 46 = some (.iconst 1, 1) := by decide +kernel
theorem s187_46 {x0 : Nat} {x1 : Int32} {s0 : Nat} {s1 : Int32} : ip_WP 187 46 [some (.ref x0), some (.int x1)] [.int s1, .ref s0] (G, F, I, J) b post px ↔ ip_WP 187 47 [some (.ref x0), some (.int x1)] [.int 1, .int s1, .ref s0] (G, F, I, J) b post px := ip_s_iconst f187_46 (by decide)
theorem f187_47 : ip_fetch 187 47 = some (.invokevirtual 204, 3) := by decide +kernel
set_option maxRecDepth 100000 in
theorem s187_47 {x0 : Nat} {x1 : Int32} {s0 : Nat} {s1 : Int32} {s2 : Int32} : ip_WP 187 47 [some (.ref x0), some (.int x1)] [.int s2, .int s1, .ref s0] (G, F, I, J) b post px ↔ (ip_isO G s0 9 = true ∧ ip_WP 192 0 [some (.ref s0), some (.int s1), some (.int s2)] [] (G, F, I, J) (0, 0) (fun r h' => ip_WP 187 50 [some (.ref x0), some (.int x1)] (r.toList ++ []) h' b post px) (fun _ _ => False)) := ip_ck_iff (x := ip_cl 192 [some (.ref s0), some (.int s1), some (.int s2)] [] (0, 0) b) ((ip_st_of f187_47).trans rfl) (ip_cl_iff)
theorem f187_50 : ip_fetch 187 50 = some (.iconst 0, 1) := by decide +kernel
theorem s187_50 {x0 : Nat} {x1 : Int32} : ip_WP 187 50 [some (.ref x0), some (.int x1)] [] (G, F, I, J) b post px ↔ ip_WP 187 51 [some (.ref x0), some (.int x1)] [.int 0] (G, F, I, J) b post px := ip_s_iconst f187_50 (by decide)
theorem f187_51 : ip_fetch 187 51 = some (.ireturn, 1) := by decide +kernel
theorem s187_51 {x0 : Nat} {x1 : Int32} {s0 : Int32} : ip_WP 187 51 [some (.ref x0), some (.int x1)] [.int s0] (G, F, I, J) b post px ↔ post (some (.int s0)) (G, F, I, J) := ip_rt_iff ((ip_st_of f187_51).trans rfl)
theorem f188_0 : ip_fetch 188 0 = some (.aload_n 0, 1) := by decide +kernel
theorem s188_0 {x0 : Nat} {x1 : Option Value} : ip_WP 188 0 [some (.ref x0), x1] [] (G, F, I, J) b post px ↔ ip_WP 188 1 [some (.ref x0), x1] [.ref x0] (G, F, I, J) b post px := ip_nx_iff ((ip_st_of f188_0).trans rfl)
theorem f188_1 : ip_fetch 188 1 = some (.aload_n 0, 1) := by decide +kernel
theorem s188_1 {x0 : Nat} {x1 : Option Value} {s0 : Nat} : ip_WP 188 1 [some (.ref x0), x1] [.ref s0] (G, F, I, J) b post px ↔ ip_WP 188 2 [some (.ref x0), x1] [.ref x0, .ref s0] (G, F, I, J) b post px := ip_nx_iff ((ip_st_of f188_1).trans rfl)
theorem f188_2 : ip_fetch 188 2 = some (.getfield 15, 3) := by decide +kernel
set_option maxRecDepth 100000 in
theorem s188_2 {x0 : Nat} {x1 : Option Value} {s0 : Nat} {s1 : Nat} : ip_WP 188 2 [some (.ref x0), x1] [.ref s1, .ref s0] (G, F, I, J) b post px ↔ (ip_isO G s1 8 = true ∧ ip_WP 188 5 [some (.ref x0), x1] [F s1 1, .ref s0] (G, F, I, J) b post px) := ip_s_getf f188_2 (by decide +kernel)
theorem f188_5 : ip_fetch 188 5 = some (.getfield 102, 3) := by decide +kernel
set_option maxRecDepth 100000 in
theorem s188_5 {x0 : Nat} {x1 : Option Value} {s0 : Nat} {s1 : Nat} : ip_WP 188 5 [some (.ref x0), x1] [.ref s1, .ref s0] (G, F, I, J) b post px ↔ (ip_isO G s1 3 = true ∧ ip_WP 188 8 [some (.ref x0), x1] [F s1 0, .ref s0] (G, F, I, J) b post px) := ip_s_getf f188_5 (by decide +kernel)
theorem f188_8 : ip_fetch 188 8 = some (.invokevirtual 208, 3) := by decide +kernel
set_option maxRecDepth 100000 in
theorem s188_8 {x0 : Nat} {x1 : Option Value} {s0 : Nat} {s1 : Nat} : ip_WP 188 8 [some (.ref x0), x1] [.ref s1, .ref s0] (G, F, I, J) b post px ↔ (ip_isO G s0 8 = true ∧ ip_WP 180 0 [some (.ref s0), some (.ref s1)] [] (G, F, I, J) (0, 0) (fun r h' => ip_WP 188 11 [some (.ref x0), x1] (r.toList ++ []) h' b post px) (fun _ _ => False)) := ip_ck_iff (x := ip_cl 180 [some (.ref s0), some (.ref s1)] [] (0, 0) b) ((ip_st_of f188_8).trans rfl) (ip_cl_iff)
theorem f188_11 : ip_fetch 188 11 = some (.istore_n 1, 1) := by decide +kernel
theorem s188_11 {x0 : Nat} {x1 : Option Value} {s0 : Int32} : ip_WP 188 11 [some (.ref x0), x1] [.int s0] (G, F, I, J) b post px ↔ ip_WP 188 12 [some (.ref x0), some (.int s0)] [] (G, F, I, J) b post px := ip_nx_iff ((ip_st_of f188_11).trans rfl)
theorem f188_12 : ip_fetch 188 12 = some (.iload_n 1, 1) := by decide +kernel
theorem s188_12 {x0 : Nat} {x1 : Int32} : ip_WP 188 12 [some (.ref x0), some (.int x1)] [] (G, F, I, J) b post px ↔ ip_WP 188 13 [some (.ref x0), some (.int x1)] [.int x1] (G, F, I, J) b post px := ip_nx_iff ((ip_st_of f188_12).trans rfl)
theorem f188_13 : ip_fetch 188 13 = some (.ifCond .eq 5, 3) := by decide +kernel
theorem s188_13 {x0 : Nat} {x1 : Int32} {s0 : Int32} : ip_WP 188 13 [some (.ref x0), some (.int x1)] [.int s0] (G, F, I, J) b post px ↔ if s0 = 0 then ip_WP 188 18 [some (.ref x0), some (.int x1)] [] (G, F, I, J) b post px else ip_WP 188 16 [some (.ref x0), some (.int x1)] [] (G, F, I, J) b post px := ip_s_if_eq f188_13 rfl
theorem f188_16 : ip_fetch 188 16 = some (.iload_n 1, 1) := by decide +kernel
theorem s188_16 {x0 : Nat} {x1 : Int32} : ip_WP 188 16 [some (.ref x0), some (.int x1)] [] (G, F, I, J) b post px ↔ ip_WP 188 17 [some (.ref x0), some (.int x1)] [.int x1] (G, F, I, J) b post px := ip_nx_iff ((ip_st_of f188_16).trans rfl)
theorem f188_17 : ip_fetch 188 17 = some (.ireturn, 1) := by decide +kernel
theorem s188_17 {x0 : Nat} {x1 : Int32} {s0 : Int32} : ip_WP 188 17 [some (.ref x0), some (.int x1)] [.int s0] (G, F, I, J) b post px ↔ post (some (.int s0)) (G, F, I, J) := ip_rt_iff ((ip_st_of f188_17).trans rfl)
theorem f188_18 : ip_fetch 188 18 = some (.aload_n 0, 1) := by decide +kernel
theorem s188_18 {x0 : Nat} {x1 : Int32} : ip_WP 188 18 [some (.ref x0), some (.int x1)] [] (G, F, I, J) b post px ↔ ip_WP 188 19 [some (.ref x0), some (.int x1)] [.ref x0] (G, F, I, J) b post px := ip_nx_iff ((ip_st_of f188_18).trans rfl)
theorem f188_19 : ip_fetch 188 19 = some (.getfield 15, 3) := by decide +kernel
set_option maxRecDepth 100000 in
theorem s188_19 {x0 : Nat} {x1 : Int32} {s0 : Nat} : ip_WP 188 19 [some (.ref x0), some (.int x1)] [.ref s0] (G, F, I, J) b post px ↔ (ip_isO G s0 8 = true ∧ ip_WP 188 22 [some (.ref x0), some (.int x1)] [F s0 1] (G, F, I, J) b post px) := ip_s_getf f188_19 (by decide +kernel)
theorem f188_22 : ip_fetch 188 22 = some (.aload_n 0, 1) := by decide +kernel
theorem s188_22 {x0 : Nat} {x1 : Int32} {s0 : Nat} : ip_WP 188 22 [some (.ref x0), some (.int x1)] [.ref s0] (G, F, I, J) b post px ↔ ip_WP 188 23 [some (.ref x0), some (.int x1)] [.ref x0, .ref s0] (G, F, I, J) b post px := ip_nx_iff ((ip_st_of f188_22).trans rfl)
theorem f188_23 : ip_fetch 188 23 = some (.getfield 68, 3) := by decide +kernel
set_option maxRecDepth 100000 in
theorem s188_23 {x0 : Nat} {x1 : Int32} {s0 : Nat} {s1 : Nat} : ip_WP 188 23 [some (.ref x0), some (.int x1)] [.ref s1, .ref s0] (G, F, I, J) b post px ↔ (ip_isO G s1 8 = true ∧ ip_WP 188 26 [some (.ref x0), some (.int x1)] [F s1 7, .ref s0] (G, F, I, J) b post px) := ip_s_getf f188_23 (by decide +kernel)
theorem f188_26 : ip_fetch 188 26 = some (.aload_n 0, 1) := by decide +kernel
theorem s188_26 {x0 : Nat} {x1 : Int32} {s0 : Nat} {s1 : Int32} : ip_WP 188 26 [some (.ref x0), some (.int x1)] [.int s1, .ref s0] (G, F, I, J) b post px ↔ ip_WP 188 27 [some (.ref x0), some (.int x1)] [.ref x0, .int s1, .ref s0] (G, F, I, J) b post px := ip_nx_iff ((ip_st_of f188_26).trans rfl)
theorem f188_27 : ip_fetch 188 27 = some (.getfield 71, 3) := by decide +kernel
set_option maxRecDepth 100000 in
theorem s188_27 {x0 : Nat} {x1 : Int32} {s0 : Nat} {s1 : Int32} {s2 : Nat} : ip_WP 188 27 [some (.ref x0), some (.int x1)] [.ref s2, .int s1, .ref s0] (G, F, I, J) b post px ↔ (ip_isO G s2 8 = true ∧ ip_WP 188 30 [some (.ref x0), some (.int x1)] [F s2 8, .int s1, .ref s0] (G, F, I, J) b post px) := ip_s_getf f188_27 (by decide +kernel)
theorem f188_30 : ip_fetch 188 30 = some (.invokevirtual 231, 3) := by decide +kernel
set_option maxRecDepth 100000 in
theorem s188_30 {x0 : Nat} {x1 : Int32} {s0 : Nat} {s1 : Int32} {s2 : Int32} : ip_WP 188 30 [some (.ref x0), some (.int x1)] [.int s2, .int s1, .ref s0] (G, F, I, J) b post px ↔ (ip_isO G s0 3 = true ∧ ip_WP 114 0 [some (.ref s0), some (.int s1), some (.int s2)] [] (G, F, I, J) (0, 0) (fun r h' => ip_WP 188 33 [some (.ref x0), some (.int x1)] (r.toList ++ []) h' b post px) (fun _ _ => False)) := ip_ck_iff (x := ip_cl 114 [some (.ref s0), some (.int s1), some (.int s2)] [] (0, 0) b) ((ip_st_of f188_30).trans rfl) (ip_cl_iff)
theorem f188_33 : ip_fetch 188 33 = some (.ifCond .eq 6, 3) := by decide +kernel
theorem s188_33 {x0 : Nat} {x1 : Int32} {s0 : Int32} : ip_WP 188 33 [some (.ref x0), some (.int x1)] [.int s0] (G, F, I, J) b post px ↔ if s0 = 0 then ip_WP 188 39 [some (.ref x0), some (.int x1)] [] (G, F, I, J) b post px else ip_WP 188 36 [some (.ref x0), some (.int x1)] [] (G, F, I, J) b post px := ip_s_if_eq f188_33 rfl
theorem f188_36 : ip_fetch 188 36 = some (.bipush 7, 2) := by decide +kernel
theorem s188_36 {x0 : Nat} {x1 : Int32} : ip_WP 188 36 [some (.ref x0), some (.int x1)] [] (G, F, I, J) b post px ↔ ip_WP 188 38 [some (.ref x0), some (.int x1)] [.int 7] (G, F, I, J) b post px := ip_s_bipush f188_36 (by decide)
theorem f188_38 : ip_fetch 188 38 = some (.ireturn, 1) := by decide +kernel
theorem s188_38 {x0 : Nat} {x1 : Int32} {s0 : Int32} : ip_WP 188 38 [some (.ref x0), some (.int x1)] [.int s0] (G, F, I, J) b post px ↔ post (some (.int s0)) (G, F, I, J) := ip_rt_iff ((ip_st_of f188_38).trans rfl)
theorem f188_39 : ip_fetch 188 39 = some (.aload_n 0, 1) := by decide +kernel
theorem s188_39 {x0 : Nat} {x1 : Int32} : ip_WP 188 39 [some (.ref x0), some (.int x1)] [] (G, F, I, J) b post px ↔ ip_WP 188 40 [some (.ref x0), some (.int x1)] [.ref x0] (G, F, I, J) b post px := ip_nx_iff ((ip_st_of f188_39).trans rfl)
theorem f188_40 : ip_fetch 188 40 = some (.getfield 15, 3) := by decide +kernel
set_option maxRecDepth 100000 in
theorem s188_40 {x0 : Nat} {x1 : Int32} {s0 : Nat} : ip_WP 188 40 [some (.ref x0), some (.int x1)] [.ref s0] (G, F, I, J) b post px ↔ (ip_isO G s0 8 = true ∧ ip_WP 188 43 [some (.ref x0), some (.int x1)] [F s0 1] (G, F, I, J) b post px) := ip_s_getf f188_40 (by decide +kernel)
theorem f188_43 : ip_fetch 188 43 = some (.aload_n 0, 1) := by decide +kernel
theorem s188_43 {x0 : Nat} {x1 : Int32} {s0 : Nat} : ip_WP 188 43 [some (.ref x0), some (.int x1)] [.ref s0] (G, F, I, J) b post px ↔ ip_WP 188 44 [some (.ref x0), some (.int x1)] [.ref x0, .ref s0] (G, F, I, J) b post px := ip_nx_iff ((ip_st_of f188_43).trans rfl)
theorem f188_44 : ip_fetch 188 44 = some (.getfield 68, 3) := by decide +kernel
set_option maxRecDepth 100000 in
theorem s188_44 {x0 : Nat} {x1 : Int32} {s0 : Nat} {s1 : Nat} : ip_WP 188 44 [some (.ref x0), some (.int x1)] [.ref s1, .ref s0] (G, F, I, J) b post px ↔ (ip_isO G s1 8 = true ∧ ip_WP 188 47 [some (.ref x0), some (.int x1)] [F s1 7, .ref s0] (G, F, I, J) b post px) := ip_s_getf f188_44 (by decide +kernel)
theorem f188_47 : ip_fetch 188 47 = some (.aload_n 0, 1) := by decide +kernel
theorem s188_47 {x0 : Nat} {x1 : Int32} {s0 : Nat} {s1 : Int32} : ip_WP 188 47 [some (.ref x0), some (.int x1)] [.int s1, .ref s0] (G, F, I, J) b post px ↔ ip_WP 188 48 [some (.ref x0), some (.int x1)] [.ref x0, .int s1, .ref s0] (G, F, I, J) b post px := ip_nx_iff ((ip_st_of f188_47).trans rfl)
theorem f188_48 : ip_fetch 188 48 = some (.getfield 71, 3) := by decide +kernel
set_option maxRecDepth 100000 in
theorem s188_48 {x0 : Nat} {x1 : Int32} {s0 : Nat} {s1 : Int32} {s2 : Nat} : ip_WP 188 48 [some (.ref x0), some (.int x1)] [.ref s2, .int s1, .ref s0] (G, F, I, J) b post px ↔ (ip_isO G s2 8 = true ∧ ip_WP 188 51 [some (.ref x0), some (.int x1)] [F s2 8, .int s1, .ref s0] (G, F, I, J) b post px) := ip_s_getf f188_48 (by decide +kernel)
theorem f188_51 : ip_fetch 188 51 = some (.invokevirtual 234, 3) := by decide +kernel
set_option maxRecDepth 100000 in
theorem s188_51 {x0 : Nat} {x1 : Int32} {s0 : Nat} {s1 : Int32} {s2 : Int32} : ip_WP 188 51 [some (.ref x0), some (.int x1)] [.int s2, .int s1, .ref s0] (G, F, I, J) b post px ↔ (ip_isO G s0 3 = true ∧ ip_WP 115 0 [some (.ref s0), some (.int s1), some (.int s2)] [] (G, F, I, J) (0, 0) (fun r h' => ip_WP 188 54 [some (.ref x0), some (.int x1)] (r.toList ++ []) h' b post px) (fun _ _ => False)) := ip_ck_iff (x := ip_cl 115 [some (.ref s0), some (.int s1), some (.int s2)] [] (0, 0) b) ((ip_st_of f188_51).trans rfl) (ip_cl_iff)
theorem f188_54 : ip_fetch 188 54 = some (.iconst 0, 1) := by decide +kernel
theorem s188_54 {x0 : Nat} {x1 : Int32} : ip_WP 188 54 [some (.ref x0), some (.int x1)] [] (G, F, I, J) b post px ↔ ip_WP 188 55 [some (.ref x0), some (.int x1)] [.int 0] (G, F, I, J) b post px := ip_s_iconst f188_54 (by decide)
theorem f188_55 : ip_fetch 188 55 = some (.ireturn, 1) := by decide +kernel
theorem s188_55 {x0 : Nat} {x1 : Int32} {s0 : Int32} : ip_WP 188 55 [some (.ref x0), some (.int x1)] [.int s0] (G, F, I, J) b post px ↔ post (some (.int s0)) (G, F, I, J) := ip_rt_iff ((ip_st_of f188_55).trans rfl)
theorem f189_0 : ip_fetch 189 0 = some (.aload_n 0, 1) := by decide +kernel
theorem s189_0 {x0 : Nat} {x1 : Int32} {x2 : Int32} : ip_WP 189 0 [some (.ref x0), some (.int x1), some (.int x2)] [] (G, F, I, J) b post px ↔ ip_WP 189 1 [some (.ref x0), some (.int x1), some (.int x2)] [.ref x0] (G, F, I, J) b post px := ip_nx_iff ((ip_st_of f189_0).trans rfl)
theorem f189_1 : ip_fetch 189 1 = some (.invokespecial 1, 3) := by decide +kernel
set_option maxRecDepth 100000 in
theorem s189_1 {x0 : Nat} {x1 : Int32} {x2 : Int32} {s0 : Nat} : ip_WP 189 1 [some (.ref x0), some (.int x1), some (.int x2)] [.ref s0] (G, F, I, J) b post px ↔ ip_WP 189 4 [some (.ref x0), some (.int x1), some (.int x2)] [] (G, F, I, J) b post px := ip_s_obj f189_1 rfl (Nat.le_of_ble_eq_true rfl)
theorem f189_4 : ip_fetch 189 4 = some (.aload_n 0, 1) := by decide +kernel
theorem s189_4 {x0 : Nat} {x1 : Int32} {x2 : Int32} : ip_WP 189 4 [some (.ref x0), some (.int x1), some (.int x2)] [] (G, F, I, J) b post px ↔ ip_WP 189 5 [some (.ref x0), some (.int x1), some (.int x2)] [.ref x0] (G, F, I, J) b post px := ip_nx_iff ((ip_st_of f189_4).trans rfl)
theorem f189_5 : ip_fetch 189 5 = some (.iload_n 1, 1) := by decide +kernel
theorem s189_5 {x0 : Nat} {x1 : Int32} {x2 : Int32} {s0 : Nat} : ip_WP 189 5 [some (.ref x0), some (.int x1), some (.int x2)] [.ref s0] (G, F, I, J) b post px ↔ ip_WP 189 6 [some (.ref x0), some (.int x1), some (.int x2)] [.int x1, .ref s0] (G, F, I, J) b post px := ip_nx_iff ((ip_st_of f189_5).trans rfl)
theorem f189_6 : ip_fetch 189 6 = some (.ifCond .le 7, 3) := by decide +kernel
theorem s189_6 {x0 : Nat} {x1 : Int32} {x2 : Int32} {s0 : Nat} {s1 : Int32} : ip_WP 189 6 [some (.ref x0), some (.int x1), some (.int x2)] [.int s1, .ref s0] (G, F, I, J) b post px ↔ if s1 ≤ 0 then ip_WP 189 13 [some (.ref x0), some (.int x1), some (.int x2)] [.ref s0] (G, F, I, J) b post px else ip_WP 189 9 [some (.ref x0), some (.int x1), some (.int x2)] [.ref s0] (G, F, I, J) b post px := ip_s_if_le f189_6 rfl
theorem f189_9 : ip_fetch 189 9 = some (.iload_n 1, 1) := by decide +kernel
theorem s189_9 {x0 : Nat} {x1 : Int32} {x2 : Int32} {s0 : Nat} : ip_WP 189 9 [some (.ref x0), some (.int x1), some (.int x2)] [.ref s0] (G, F, I, J) b post px ↔ ip_WP 189 10 [some (.ref x0), some (.int x1), some (.int x2)] [.int x1, .ref s0] (G, F, I, J) b post px := ip_nx_iff ((ip_st_of f189_9).trans rfl)
theorem f189_10 : ip_fetch 189 10 = some (.goto 4, 3) := by decide +kernel
theorem s189_10 {x0 : Nat} {x1 : Int32} {x2 : Int32} {s0 : Nat} {s1 : Int32} : ip_WP 189 10 [some (.ref x0), some (.int x1), some (.int x2)] [.int s1, .ref s0] (G, F, I, J) b post px ↔ ip_WP 189 14 [some (.ref x0), some (.int x1), some (.int x2)] [.int s1, .ref s0] (G, F, I, J) b post px := ip_nx_iff ((ip_st_of f189_10).trans rfl)
theorem f189_13 : ip_fetch 189 13 = some (.iconst 0, 1) := by decide +kernel
theorem s189_13 {x0 : Nat} {x1 : Int32} {x2 : Int32} {s0 : Nat} : ip_WP 189 13 [some (.ref x0), some (.int x1), some (.int x2)] [.ref s0] (G, F, I, J) b post px ↔ ip_WP 189 14 [some (.ref x0), some (.int x1), some (.int x2)] [.int 0, .ref s0] (G, F, I, J) b post px := ip_s_iconst f189_13 (by decide)
theorem f189_14 : ip_fetch 189 14 = some (.newarray .int, 2) := by decide +kernel
set_option maxRecDepth 100000 in
theorem s189_14 {x0 : Nat} {x1 : Int32} {x2 : Int32} {s0 : Nat} {s1 : Int32} : ip_WP 189 14 [some (.ref x0), some (.int x1), some (.int x2)] [.int s1, .ref s0] (G, F, I, J) b post px ↔ (ip_wfc G.length [some (.ref x0), some (.int x1), some (.int x2)] [.ref s0] = true ∧ (1 ≤ b.1 ∧ s1.toNatClampNeg ≤ b.2 ∧ G.length < ip_SC ∧ ¬ s1 < 0 ∧ s1.toNatClampNeg ≤ 60000000) ∧ ip_WP 189 16 [some (.ref x0), some (.int x1), some (.int x2)] [.ref G.length, .ref s0] (G ++ [.inl (0, s1.toNatClampNeg)], F, fun a j => if a = G.length then 0 else I a j, fun a j => if a = G.length then 0 else J a j) (b.1 - 1, b.2 - s1.toNatClampNeg) post px) := ip_s_newa f189_14 rfl rfl
theorem f189_16 : ip_fetch 189 16 = some (.putfield 7, 3) := by decide +kernel
set_option maxRecDepth 100000 in
theorem s189_16 {x0 : Nat} {x1 : Int32} {x2 : Int32} {s0 : Nat} {s1 : Nat} : ip_WP 189 16 [some (.ref x0), some (.int x1), some (.int x2)] [.ref s1, .ref s0] (G, F, I, J) b post px ↔ (ip_isO G s0 9 = true ∧ s1 < G.length ∧ ip_WP 189 19 [some (.ref x0), some (.int x1), some (.int x2)] [] (G, ip_up F s0 0 (.ref s1), I, J) b post px) := ip_s_putR f189_16 (by decide +kernel) rfl
theorem f189_19 : ip_fetch 189 19 = some (.aload_n 0, 1) := by decide +kernel
theorem s189_19 {x0 : Nat} {x1 : Int32} {x2 : Int32} : ip_WP 189 19 [some (.ref x0), some (.int x1), some (.int x2)] [] (G, F, I, J) b post px ↔ ip_WP 189 20 [some (.ref x0), some (.int x1), some (.int x2)] [.ref x0] (G, F, I, J) b post px := ip_nx_iff ((ip_st_of f189_19).trans rfl)
theorem f189_20 : ip_fetch 189 20 = some (.iload_n 2, 1) := by decide +kernel
theorem s189_20 {x0 : Nat} {x1 : Int32} {x2 : Int32} {s0 : Nat} : ip_WP 189 20 [some (.ref x0), some (.int x1), some (.int x2)] [.ref s0] (G, F, I, J) b post px ↔ ip_WP 189 21 [some (.ref x0), some (.int x1), some (.int x2)] [.int x2, .ref s0] (G, F, I, J) b post px := ip_nx_iff ((ip_st_of f189_20).trans rfl)
theorem f189_21 : ip_fetch 189 21 = some (.putfield 13, 3) := by decide +kernel
set_option maxRecDepth 100000 in
theorem s189_21 {x0 : Nat} {x1 : Int32} {x2 : Int32} {s0 : Nat} {s1 : Int32} : ip_WP 189 21 [some (.ref x0), some (.int x1), some (.int x2)] [.int s1, .ref s0] (G, F, I, J) b post px ↔ (ip_isO G s0 9 = true ∧ ip_WP 189 24 [some (.ref x0), some (.int x1), some (.int x2)] [] (G, ip_up F s0 1 (.int s1), I, J) b post px) := ip_s_put f189_21 (by decide +kernel) rfl
theorem f189_24 : ip_fetch 189 24 = some (.aload_n 0, 1) := by decide +kernel
theorem s189_24 {x0 : Nat} {x1 : Int32} {x2 : Int32} : ip_WP 189 24 [some (.ref x0), some (.int x1), some (.int x2)] [] (G, F, I, J) b post px ↔ ip_WP 189 25 [some (.ref x0), some (.int x1), some (.int x2)] [.ref x0] (G, F, I, J) b post px := ip_nx_iff ((ip_st_of f189_24).trans rfl)
theorem f189_25 : ip_fetch 189 25 = some (.invokevirtual 17, 3) := by decide +kernel
set_option maxRecDepth 100000 in
theorem s189_25 {x0 : Nat} {x1 : Int32} {x2 : Int32} {s0 : Nat} : ip_WP 189 25 [some (.ref x0), some (.int x1), some (.int x2)] [.ref s0] (G, F, I, J) b post px ↔ (ip_isO G s0 9 = true ∧ ip_WP 190 0 [some (.ref s0), none] [] (G, F, I, J) (0, 0) (fun r h' => ip_WP 189 28 [some (.ref x0), some (.int x1), some (.int x2)] (r.toList ++ []) h' b post px) (fun _ _ => False)) := ip_ck_iff (x := ip_cl 190 [some (.ref s0), none] [] (0, 0) b) ((ip_st_of f189_25).trans rfl) (ip_cl_iff)
theorem f189_28 : ip_fetch 189 28 = some (.return_, 1) := by decide +kernel
theorem s189_28 {x0 : Nat} {x1 : Int32} {x2 : Int32} : ip_WP 189 28 [some (.ref x0), some (.int x1), some (.int x2)] [] (G, F, I, J) b post px ↔ post none (G, F, I, J) := ip_rt_iff ((ip_st_of f189_28).trans rfl)
theorem f190_0 : ip_fetch 190 0 = some (.iconst 0, 1) := by decide +kernel
theorem s190_0 {x0 : Nat} {x1 : Option Value} : ip_WP 190 0 [some (.ref x0), x1] [] (G, F, I, J) b post px ↔ ip_WP 190 1 [some (.ref x0), x1] [.int 0] (G, F, I, J) b post px := ip_s_iconst f190_0 (by decide)
theorem f190_1 : ip_fetch 190 1 = some (.istore_n 1, 1) := by decide +kernel
theorem s190_1 {x0 : Nat} {x1 : Option Value} {s0 : Int32} : ip_WP 190 1 [some (.ref x0), x1] [.int s0] (G, F, I, J) b post px ↔ ip_WP 190 2 [some (.ref x0), some (.int s0)] [] (G, F, I, J) b post px := ip_nx_iff ((ip_st_of f190_1).trans rfl)
theorem f190_2 : ip_fetch 190 2 = some (.iload_n 1, 1) := by decide +kernel
theorem s190_2 {x0 : Nat} {x1 : Int32} : ip_WP 190 2 [some (.ref x0), some (.int x1)] [] (G, F, I, J) b post px ↔ ip_WP 190 3 [some (.ref x0), some (.int x1)] [.int x1] (G, F, I, J) b post px := ip_nx_iff ((ip_st_of f190_2).trans rfl)
theorem f190_3 : ip_fetch 190 3 = some (.aload_n 0, 1) := by decide +kernel
theorem s190_3 {x0 : Nat} {x1 : Int32} {s0 : Int32} : ip_WP 190 3 [some (.ref x0), some (.int x1)] [.int s0] (G, F, I, J) b post px ↔ ip_WP 190 4 [some (.ref x0), some (.int x1)] [.ref x0, .int s0] (G, F, I, J) b post px := ip_nx_iff ((ip_st_of f190_3).trans rfl)
theorem f190_4 : ip_fetch 190 4 = some (.getfield 7, 3) := by decide +kernel
set_option maxRecDepth 100000 in
theorem s190_4 {x0 : Nat} {x1 : Int32} {s0 : Int32} {s1 : Nat} : ip_WP 190 4 [some (.ref x0), some (.int x1)] [.ref s1, .int s0] (G, F, I, J) b post px ↔ (ip_isO G s1 9 = true ∧ ip_WP 190 7 [some (.ref x0), some (.int x1)] [F s1 0, .int s0] (G, F, I, J) b post px) := ip_s_getf f190_4 (by decide +kernel)
theorem f190_7 : ip_fetch 190 7 = some (.arraylength, 1) := by decide +kernel
theorem s190_7 {x0 : Nat} {x1 : Int32} {s0 : Int32} {s1 : Nat} : ip_WP 190 7 [some (.ref x0), some (.int x1)] [.ref s1, .int s0] (G, F, I, J) b post px ↔ ip_on (ip_lenA G s1) (fun n => ip_WP 190 8 [some (.ref x0), some (.int x1)] [.int (Int32.ofNat n), .int s0] (G, F, I, J) b post px) := ip_s_alen (by decide) f190_7
theorem f190_8 : ip_fetch 190 8 = some (.if_icmp .ge 19, 3) := by decide +kernel
theorem s190_8 {x0 : Nat} {x1 : Int32} {s0 : Int32} {s1 : Int32} : ip_WP 190 8 [some (.ref x0), some (.int x1)] [.int s1, .int s0] (G, F, I, J) b post px ↔ if s1 ≤ s0 then ip_WP 190 27 [some (.ref x0), some (.int x1)] [] (G, F, I, J) b post px else ip_WP 190 11 [some (.ref x0), some (.int x1)] [] (G, F, I, J) b post px := ip_s_ic_ge f190_8 rfl
theorem f190_11 : ip_fetch 190 11 = some (.aload_n 0, 1) := by decide +kernel
theorem s190_11 {x0 : Nat} {x1 : Int32} : ip_WP 190 11 [some (.ref x0), some (.int x1)] [] (G, F, I, J) b post px ↔ ip_WP 190 12 [some (.ref x0), some (.int x1)] [.ref x0] (G, F, I, J) b post px := ip_nx_iff ((ip_st_of f190_11).trans rfl)
theorem f190_12 : ip_fetch 190 12 = some (.getfield 7, 3) := by decide +kernel
set_option maxRecDepth 100000 in
theorem s190_12 {x0 : Nat} {x1 : Int32} {s0 : Nat} : ip_WP 190 12 [some (.ref x0), some (.int x1)] [.ref s0] (G, F, I, J) b post px ↔ (ip_isO G s0 9 = true ∧ ip_WP 190 15 [some (.ref x0), some (.int x1)] [F s0 0] (G, F, I, J) b post px) := ip_s_getf f190_12 (by decide +kernel)
theorem f190_15 : ip_fetch 190 15 = some (.iload_n 1, 1) := by decide +kernel
theorem s190_15 {x0 : Nat} {x1 : Int32} {s0 : Nat} : ip_WP 190 15 [some (.ref x0), some (.int x1)] [.ref s0] (G, F, I, J) b post px ↔ ip_WP 190 16 [some (.ref x0), some (.int x1)] [.int x1, .ref s0] (G, F, I, J) b post px := ip_nx_iff ((ip_st_of f190_15).trans rfl)
theorem f190_16 : ip_fetch 190 16 = some (.aload_n 0, 1) := by decide +kernel
theorem s190_16 {x0 : Nat} {x1 : Int32} {s0 : Nat} {s1 : Int32} : ip_WP 190 16 [some (.ref x0), some (.int x1)] [.int s1, .ref s0] (G, F, I, J) b post px ↔ ip_WP 190 17 [some (.ref x0), some (.int x1)] [.ref x0, .int s1, .ref s0] (G, F, I, J) b post px := ip_nx_iff ((ip_st_of f190_16).trans rfl)
theorem f190_17 : ip_fetch 190 17 = some (.getfield 13, 3) := by decide +kernel
set_option maxRecDepth 100000 in
theorem s190_17 {x0 : Nat} {x1 : Int32} {s0 : Nat} {s1 : Int32} {s2 : Nat} : ip_WP 190 17 [some (.ref x0), some (.int x1)] [.ref s2, .int s1, .ref s0] (G, F, I, J) b post px ↔ (ip_isO G s2 9 = true ∧ ip_WP 190 20 [some (.ref x0), some (.int x1)] [F s2 1, .int s1, .ref s0] (G, F, I, J) b post px) := ip_s_getf f190_17 (by decide +kernel)
theorem f190_20 : ip_fetch 190 20 = some (.iastore, 1) := by decide +kernel
theorem s190_20 {x0 : Nat} {x1 : Int32} {s0 : Nat} {s1 : Int32} {s2 : Int32} : ip_WP 190 20 [some (.ref x0), some (.int x1)] [.int s2, .int s1, .ref s0] (G, F, I, J) b post px ↔ (ip_inA G s0 0 s1 = true ∧ ip_WP 190 21 [some (.ref x0), some (.int x1)] [] (G, F, ip_up I s0 s1.toNatClampNeg s2, J) b post px) := ip_ck_iff ((ip_st_of f190_20).trans rfl) ip_nx_iff
theorem f190_21 : ip_fetch 190 21 = some (.iinc 1 1, 3) := by decide +kernel
theorem s190_21 {x0 : Nat} {x1 : Int32} : ip_WP 190 21 [some (.ref x0), some (.int x1)] [] (G, F, I, J) b post px ↔ ip_WP 190 24 [some (.ref x0), some (.int (x1 + 1))] [] (G, F, I, J) b post px := ip_s_iinc f190_21 rfl (by decide)
theorem f190_24 : ip_fetch 190 24 = some (.goto (-22), 3) := by decide +kernel
theorem s190_24 {x0 : Nat} {x1 : Int32} : ip_WP 190 24 [some (.ref x0), some (.int x1)] [] (G, F, I, J) b post px ↔ ip_WP 190 2 [some (.ref x0), some (.int x1)] [] (G, F, I, J) b post px := ip_nx_iff ((ip_st_of f190_24).trans rfl)
theorem f190_27 : ip_fetch 190 27 = some (.return_, 1) := by decide +kernel
theorem s190_27 {x0 : Nat} {x1 : Int32} : ip_WP 190 27 [some (.ref x0), some (.int x1)] [] (G, F, I, J) b post px ↔ post none (G, F, I, J) := ip_rt_iff ((ip_st_of f190_27).trans rfl)
theorem f191_0 : ip_fetch 191 0 = some (.iload_n 1, 1) := by decide +kernel
theorem s191_0 {x0 : Nat} {x1 : Int32} : ip_WP 191 0 [some (.ref x0), some (.int x1)] [] (G, F, I, J) b post px ↔ ip_WP 191 1 [some (.ref x0), some (.int x1)] [.int x1] (G, F, I, J) b post px := ip_nx_iff ((ip_st_of f191_0).trans rfl)
theorem f191_1 : ip_fetch 191 1 = some (.ifCond .lt 21, 3) := by decide +kernel
theorem s191_1 {x0 : Nat} {x1 : Int32} {s0 : Int32} : ip_WP 191 1 [some (.ref x0), some (.int x1)] [.int s0] (G, F, I, J) b post px ↔ if s0 < 0 then ip_WP 191 22 [some (.ref x0), some (.int x1)] [] (G, F, I, J) b post px else ip_WP 191 4 [some (.ref x0), some (.int x1)] [] (G, F, I, J) b post px := ip_s_if_lt f191_1 rfl
theorem f191_4 : ip_fetch 191 4 = some (.iload_n 1, 1) := by decide +kernel
theorem s191_4 {x0 : Nat} {x1 : Int32} : ip_WP 191 4 [some (.ref x0), some (.int x1)] [] (G, F, I, J) b post px ↔ ip_WP 191 5 [some (.ref x0), some (.int x1)] [.int x1] (G, F, I, J) b post px := ip_nx_iff ((ip_st_of f191_4).trans rfl)
theorem f191_5 : ip_fetch 191 5 = some (.aload_n 0, 1) := by decide +kernel
theorem s191_5 {x0 : Nat} {x1 : Int32} {s0 : Int32} : ip_WP 191 5 [some (.ref x0), some (.int x1)] [.int s0] (G, F, I, J) b post px ↔ ip_WP 191 6 [some (.ref x0), some (.int x1)] [.ref x0, .int s0] (G, F, I, J) b post px := ip_nx_iff ((ip_st_of f191_5).trans rfl)
theorem f191_6 : ip_fetch 191 6 = some (.getfield 7, 3) := by decide +kernel
set_option maxRecDepth 100000 in
theorem s191_6 {x0 : Nat} {x1 : Int32} {s0 : Int32} {s1 : Nat} : ip_WP 191 6 [some (.ref x0), some (.int x1)] [.ref s1, .int s0] (G, F, I, J) b post px ↔ (ip_isO G s1 9 = true ∧ ip_WP 191 9 [some (.ref x0), some (.int x1)] [F s1 0, .int s0] (G, F, I, J) b post px) := ip_s_getf f191_6 (by decide +kernel)
theorem f191_9 : ip_fetch 191 9 = some (.arraylength, 1) := by decide +kernel
theorem s191_9 {x0 : Nat} {x1 : Int32} {s0 : Int32} {s1 : Nat} : ip_WP 191 9 [some (.ref x0), some (.int x1)] [.ref s1, .int s0] (G, F, I, J) b post px ↔ ip_on (ip_lenA G s1) (fun n => ip_WP 191 10 [some (.ref x0), some (.int x1)] [.int (Int32.ofNat n), .int s0] (G, F, I, J) b post px) := ip_s_alen (by decide) f191_9
theorem f191_10 : ip_fetch 191 10 = some (.if_icmp .ge 12, 3) := by decide +kernel
theorem s191_10 {x0 : Nat} {x1 : Int32} {s0 : Int32} {s1 : Int32} : ip_WP 191 10 [some (.ref x0), some (.int x1)] [.int s1, .int s0] (G, F, I, J) b post px ↔ if s1 ≤ s0 then ip_WP 191 22 [some (.ref x0), some (.int x1)] [] (G, F, I, J) b post px else ip_WP 191 13 [some (.ref x0), some (.int x1)] [] (G, F, I, J) b post px := ip_s_ic_ge f191_10 rfl
theorem f191_13 : ip_fetch 191 13 = some (.aload_n 0, 1) := by decide +kernel
theorem s191_13 {x0 : Nat} {x1 : Int32} : ip_WP 191 13 [some (.ref x0), some (.int x1)] [] (G, F, I, J) b post px ↔ ip_WP 191 14 [some (.ref x0), some (.int x1)] [.ref x0] (G, F, I, J) b post px := ip_nx_iff ((ip_st_of f191_13).trans rfl)
theorem f191_14 : ip_fetch 191 14 = some (.getfield 7, 3) := by decide +kernel
set_option maxRecDepth 100000 in
theorem s191_14 {x0 : Nat} {x1 : Int32} {s0 : Nat} : ip_WP 191 14 [some (.ref x0), some (.int x1)] [.ref s0] (G, F, I, J) b post px ↔ (ip_isO G s0 9 = true ∧ ip_WP 191 17 [some (.ref x0), some (.int x1)] [F s0 0] (G, F, I, J) b post px) := ip_s_getf f191_14 (by decide +kernel)
theorem f191_17 : ip_fetch 191 17 = some (.iload_n 1, 1) := by decide +kernel
theorem s191_17 {x0 : Nat} {x1 : Int32} {s0 : Nat} : ip_WP 191 17 [some (.ref x0), some (.int x1)] [.ref s0] (G, F, I, J) b post px ↔ ip_WP 191 18 [some (.ref x0), some (.int x1)] [.int x1, .ref s0] (G, F, I, J) b post px := ip_nx_iff ((ip_st_of f191_17).trans rfl)
theorem f191_18 : ip_fetch 191 18 = some (.iaload, 1) := by decide +kernel
theorem s191_18 {x0 : Nat} {x1 : Int32} {s0 : Nat} {s1 : Int32} : ip_WP 191 18 [some (.ref x0), some (.int x1)] [.int s1, .ref s0] (G, F, I, J) b post px ↔ (ip_inA G s0 0 s1 = true ∧ ip_WP 191 19 [some (.ref x0), some (.int x1)] [.int (I s0 s1.toNatClampNeg)] (G, F, I, J) b post px) := ip_ck_iff ((ip_st_of f191_18).trans rfl) ip_nx_iff
theorem f191_19 : ip_fetch 191 19 = some (.goto 7, 3) := by decide +kernel
theorem s191_19 {x0 : Nat} {x1 : Int32} {s0 : Int32} : ip_WP 191 19 [some (.ref x0), some (.int x1)] [.int s0] (G, F, I, J) b post px ↔ ip_WP 191 26 [some (.ref x0), some (.int x1)] [.int s0] (G, F, I, J) b post px := ip_nx_iff ((ip_st_of f191_19).trans rfl)
theorem f191_22 : ip_fetch 191 22 = some (.aload_n 0, 1) := by decide +kernel
theorem s191_22 {x0 : Nat} {x1 : Int32} : ip_WP 191 22 [some (.ref x0), some (.int x1)] [] (G, F, I, J) b post px ↔ ip_WP 191 23 [some (.ref x0), some (.int x1)] [.ref x0] (G, F, I, J) b post px := ip_nx_iff ((ip_st_of f191_22).trans rfl)
theorem f191_23 : ip_fetch 191 23 = some (.getfield 13, 3) := by decide +kernel
set_option maxRecDepth 100000 in
theorem s191_23 {x0 : Nat} {x1 : Int32} {s0 : Nat} : ip_WP 191 23 [some (.ref x0), some (.int x1)] [.ref s0] (G, F, I, J) b post px ↔ (ip_isO G s0 9 = true ∧ ip_WP 191 26 [some (.ref x0), some (.int x1)] [F s0 1] (G, F, I, J) b post px) := ip_s_getf f191_23 (by decide +kernel)
theorem f191_26 : ip_fetch 191 26 = some (.ireturn, 1) := by decide +kernel
theorem s191_26 {x0 : Nat} {x1 : Int32} {s0 : Int32} : ip_WP 191 26 [some (.ref x0), some (.int x1)] [.int s0] (G, F, I, J) b post px ↔ post (some (.int s0)) (G, F, I, J) := ip_rt_iff ((ip_st_of f191_26).trans rfl)
theorem f192_0 : ip_fetch 192 0 = some (.iload_n 1, 1) := by decide +kernel
theorem s192_0 {x0 : Nat} {x1 : Int32} {x2 : Int32} : ip_WP 192 0 [some (.ref x0), some (.int x1), some (.int x2)] [] (G, F, I, J) b post px ↔ ip_WP 192 1 [some (.ref x0), some (.int x1), some (.int x2)] [.int x1] (G, F, I, J) b post px := ip_nx_iff ((ip_st_of f192_0).trans rfl)
theorem f192_1 : ip_fetch 192 1 = some (.ifCond .lt 19, 3) := by decide +kernel
theorem s192_1 {x0 : Nat} {x1 : Int32} {x2 : Int32} {s0 : Int32} : ip_WP 192 1 [some (.ref x0), some (.int x1), some (.int x2)] [.int s0] (G, F, I, J) b post px ↔ if s0 < 0 then ip_WP 192 20 [some (.ref x0), some (.int x1), some (.int x2)] [] (G, F, I, J) b post px else ip_WP 192 4 [some (.ref x0), some (.int x1), some (.int x2)] [] (G, F, I, J) b post px := ip_s_if_lt f192_1 rfl
theorem f192_4 : ip_fetch 192 4 = some (.iload_n 1, 1) := by decide +kernel
theorem s192_4 {x0 : Nat} {x1 : Int32} {x2 : Int32} : ip_WP 192 4 [some (.ref x0), some (.int x1), some (.int x2)] [] (G, F, I, J) b post px ↔ ip_WP 192 5 [some (.ref x0), some (.int x1), some (.int x2)] [.int x1] (G, F, I, J) b post px := ip_nx_iff ((ip_st_of f192_4).trans rfl)
theorem f192_5 : ip_fetch 192 5 = some (.aload_n 0, 1) := by decide +kernel
theorem s192_5 {x0 : Nat} {x1 : Int32} {x2 : Int32} {s0 : Int32} : ip_WP 192 5 [some (.ref x0), some (.int x1), some (.int x2)] [.int s0] (G, F, I, J) b post px ↔ ip_WP 192 6 [some (.ref x0), some (.int x1), some (.int x2)] [.ref x0, .int s0] (G, F, I, J) b post px := ip_nx_iff ((ip_st_of f192_5).trans rfl)
theorem f192_6 : ip_fetch 192 6 = some (.getfield 7, 3) := by decide +kernel
set_option maxRecDepth 100000 in
theorem s192_6 {x0 : Nat} {x1 : Int32} {x2 : Int32} {s0 : Int32} {s1 : Nat} : ip_WP 192 6 [some (.ref x0), some (.int x1), some (.int x2)] [.ref s1, .int s0] (G, F, I, J) b post px ↔ (ip_isO G s1 9 = true ∧ ip_WP 192 9 [some (.ref x0), some (.int x1), some (.int x2)] [F s1 0, .int s0] (G, F, I, J) b post px) := ip_s_getf f192_6 (by decide +kernel)
theorem f192_9 : ip_fetch 192 9 = some (.arraylength, 1) := by decide +kernel
theorem s192_9 {x0 : Nat} {x1 : Int32} {x2 : Int32} {s0 : Int32} {s1 : Nat} : ip_WP 192 9 [some (.ref x0), some (.int x1), some (.int x2)] [.ref s1, .int s0] (G, F, I, J) b post px ↔ ip_on (ip_lenA G s1) (fun n => ip_WP 192 10 [some (.ref x0), some (.int x1), some (.int x2)] [.int (Int32.ofNat n), .int s0] (G, F, I, J) b post px) := ip_s_alen (by decide) f192_9
theorem f192_10 : ip_fetch 192 10 = some (.if_icmp .ge 10, 3) := by decide +kernel
theorem s192_10 {x0 : Nat} {x1 : Int32} {x2 : Int32} {s0 : Int32} {s1 : Int32} : ip_WP 192 10 [some (.ref x0), some (.int x1), some (.int x2)] [.int s1, .int s0] (G, F, I, J) b post px ↔ if s1 ≤ s0 then ip_WP 192 20 [some (.ref x0), some (.int x1), some (.int x2)] [] (G, F, I, J) b post px else ip_WP 192 13 [some (.ref x0), some (.int x1), some (.int x2)] [] (G, F, I, J) b post px := ip_s_ic_ge f192_10 rfl
theorem f192_13 : ip_fetch 192 13 = some (.aload_n 0, 1) := by decide +kernel
theorem s192_13 {x0 : Nat} {x1 : Int32} {x2 : Int32} : ip_WP 192 13 [some (.ref x0), some (.int x1), some (.int x2)] [] (G, F, I, J) b post px ↔ ip_WP 192 14 [some (.ref x0), some (.int x1), some (.int x2)] [.ref x0] (G, F, I, J) b post px := ip_nx_iff ((ip_st_of f192_13).trans rfl)
theorem f192_14 : ip_fetch 192 14 = some (.getfield 7, 3) := by decide +kernel
set_option maxRecDepth 100000 in
theorem s192_14 {x0 : Nat} {x1 : Int32} {x2 : Int32} {s0 : Nat} : ip_WP 192 14 [some (.ref x0), some (.int x1), some (.int x2)] [.ref s0] (G, F, I, J) b post px ↔ (ip_isO G s0 9 = true ∧ ip_WP 192 17 [some (.ref x0), some (.int x1), some (.int x2)] [F s0 0] (G, F, I, J) b post px) := ip_s_getf f192_14 (by decide +kernel)
theorem f192_17 : ip_fetch 192 17 = some (.iload_n 1, 1) := by decide +kernel
theorem s192_17 {x0 : Nat} {x1 : Int32} {x2 : Int32} {s0 : Nat} : ip_WP 192 17 [some (.ref x0), some (.int x1), some (.int x2)] [.ref s0] (G, F, I, J) b post px ↔ ip_WP 192 18 [some (.ref x0), some (.int x1), some (.int x2)] [.int x1, .ref s0] (G, F, I, J) b post px := ip_nx_iff ((ip_st_of f192_17).trans rfl)
theorem f192_18 : ip_fetch 192 18 = some (.iload_n 2, 1) := by decide +kernel
theorem s192_18 {x0 : Nat} {x1 : Int32} {x2 : Int32} {s0 : Nat} {s1 : Int32} : ip_WP 192 18 [some (.ref x0), some (.int x1), some (.int x2)] [.int s1, .ref s0] (G, F, I, J) b post px ↔ ip_WP 192 19 [some (.ref x0), some (.int x1), some (.int x2)] [.int x2, .int s1, .ref s0] (G, F, I, J) b post px := ip_nx_iff ((ip_st_of f192_18).trans rfl)
theorem f192_19 : ip_fetch 192 19 = some (.iastore, 1) := by decide +kernel
theorem s192_19 {x0 : Nat} {x1 : Int32} {x2 : Int32} {s0 : Nat} {s1 : Int32} {s2 : Int32} : ip_WP 192 19 [some (.ref x0), some (.int x1), some (.int x2)] [.int s2, .int s1, .ref s0] (G, F, I, J) b post px ↔ (ip_inA G s0 0 s1 = true ∧ ip_WP 192 20 [some (.ref x0), some (.int x1), some (.int x2)] [] (G, F, ip_up I s0 s1.toNatClampNeg s2, J) b post px) := ip_ck_iff ((ip_st_of f192_19).trans rfl) ip_nx_iff
theorem f192_20 : ip_fetch 192 20 = some (.return_, 1) := by decide +kernel
theorem s192_20 {x0 : Nat} {x1 : Int32} {x2 : Int32} : ip_WP 192 20 [some (.ref x0), some (.int x1), some (.int x2)] [] (G, F, I, J) b post px ↔ post none (G, F, I, J) := ip_rt_iff ((ip_st_of f192_20).trans rfl)
theorem f193_0 : ip_fetch 193 0 = some (.aload_n 0, 1) := by decide +kernel
theorem s193_0 {x0 : Nat} {x1 : Option Value} : ip_WP 193 0 [some (.ref x0), x1] [] (G, F, I, J) b post px ↔ ip_WP 193 1 [some (.ref x0), x1] [.ref x0] (G, F, I, J) b post px := ip_nx_iff ((ip_st_of f193_0).trans rfl)
theorem f193_1 : ip_fetch 193 1 = some (.invokespecial 3, 3) := by decide +kernel
set_option maxRecDepth 100000 in
theorem s193_1 {x0 : Nat} {x1 : Option Value} {s0 : Nat} : ip_WP 193 1 [some (.ref x0), x1] [.ref s0] (G, F, I, J) b post px ↔ ip_WP 193 4 [some (.ref x0), x1] [] (G, F, I, J) b post px := ip_s_obj f193_1 rfl (Nat.le_of_ble_eq_true rfl)
theorem f193_4 : ip_fetch 193 4 = some (.aload_n 0, 1) := by decide +kernel
theorem s193_4 {x0 : Nat} {x1 : Option Value} : ip_WP 193 4 [some (.ref x0), x1] [] (G, F, I, J) b post px ↔ ip_WP 193 5 [some (.ref x0), x1] [.ref x0] (G, F, I, J) b post px := ip_nx_iff ((ip_st_of f193_4).trans rfl)
theorem f193_5 : ip_fetch 193 5 = some (.bipush 17, 2) := by decide +kernel
theorem s193_5 {x0 : Nat} {x1 : Option Value} {s0 : Nat} : ip_WP 193 5 [some (.ref x0), x1] [.ref s0] (G, F, I, J) b post px ↔ ip_WP 193 7 [some (.ref x0), x1] [.int 17, .ref s0] (G, F, I, J) b post px := ip_s_bipush f193_5 (by decide)
theorem f193_7 : ip_fetch 193 7 = some (.newarray .long, 2) := by decide +kernel
set_option maxRecDepth 100000 in
theorem s193_7 {x0 : Nat} {x1 : Option Value} {s0 : Nat} {s1 : Int32} : ip_WP 193 7 [some (.ref x0), x1] [.int s1, .ref s0] (G, F, I, J) b post px ↔ (ip_wfc G.length [some (.ref x0), x1] [.ref s0] = true ∧ (1 ≤ b.1 ∧ s1.toNatClampNeg ≤ b.2 ∧ G.length < ip_SC ∧ ¬ s1 < 0 ∧ s1.toNatClampNeg ≤ 60000000) ∧ ip_WP 193 9 [some (.ref x0), x1] [.ref G.length, .ref s0] (G ++ [.inl (2, s1.toNatClampNeg)], F, fun a j => if a = G.length then 0 else I a j, fun a j => if a = G.length then 0 else J a j) (b.1 - 1, b.2 - s1.toNatClampNeg) post px) := ip_s_newa f193_7 rfl rfl
theorem f193_9 : ip_fetch 193 9 = some (.putfield 11, 3) := by decide +kernel
set_option maxRecDepth 100000 in
theorem s193_9 {x0 : Nat} {x1 : Option Value} {s0 : Nat} {s1 : Nat} : ip_WP 193 9 [some (.ref x0), x1] [.ref s1, .ref s0] (G, F, I, J) b post px ↔ (ip_isO G s0 10 = true ∧ s1 < G.length ∧ ip_WP 193 12 [some (.ref x0), x1] [] (G, ip_up F s0 0 (.ref s1), I, J) b post px) := ip_s_putR f193_9 (by decide +kernel) rfl
theorem f193_12 : ip_fetch 193 12 = some (.iconst 0, 1) := by decide +kernel
theorem s193_12 {x0 : Nat} {x1 : Option Value} : ip_WP 193 12 [some (.ref x0), x1] [] (G, F, I, J) b post px ↔ ip_WP 193 13 [some (.ref x0), x1] [.int 0] (G, F, I, J) b post px := ip_s_iconst f193_12 (by decide)
theorem f193_13 : ip_fetch 193 13 = some (.istore_n 1, 1) := by decide +kernel
theorem s193_13 {x0 : Nat} {x1 : Option Value} {s0 : Int32} : ip_WP 193 13 [some (.ref x0), x1] [.int s0] (G, F, I, J) b post px ↔ ip_WP 193 14 [some (.ref x0), some (.int s0)] [] (G, F, I, J) b post px := ip_nx_iff ((ip_st_of f193_13).trans rfl)
theorem f193_14 : ip_fetch 193 14 = some (.iload_n 1, 1) := by decide +kernel
theorem s193_14 {x0 : Nat} {x1 : Int32} : ip_WP 193 14 [some (.ref x0), some (.int x1)] [] (G, F, I, J) b post px ↔ ip_WP 193 15 [some (.ref x0), some (.int x1)] [.int x1] (G, F, I, J) b post px := ip_nx_iff ((ip_st_of f193_14).trans rfl)
theorem f193_15 : ip_fetch 193 15 = some (.bipush 17, 2) := by decide +kernel
theorem s193_15 {x0 : Nat} {x1 : Int32} {s0 : Int32} : ip_WP 193 15 [some (.ref x0), some (.int x1)] [.int s0] (G, F, I, J) b post px ↔ ip_WP 193 17 [some (.ref x0), some (.int x1)] [.int 17, .int s0] (G, F, I, J) b post px := ip_s_bipush f193_15 (by decide)
theorem f193_17 : ip_fetch 193 17 = some (.if_icmp .ge 26, 3) := by decide +kernel
theorem s193_17 {x0 : Nat} {x1 : Int32} {s0 : Int32} {s1 : Int32} : ip_WP 193 17 [some (.ref x0), some (.int x1)] [.int s1, .int s0] (G, F, I, J) b post px ↔ if s1 ≤ s0 then ip_WP 193 43 [some (.ref x0), some (.int x1)] [] (G, F, I, J) b post px else ip_WP 193 20 [some (.ref x0), some (.int x1)] [] (G, F, I, J) b post px := ip_s_ic_ge f193_17 rfl
theorem f193_20 : ip_fetch 193 20 = some (.aload_n 0, 1) := by decide +kernel
theorem s193_20 {x0 : Nat} {x1 : Int32} : ip_WP 193 20 [some (.ref x0), some (.int x1)] [] (G, F, I, J) b post px ↔ ip_WP 193 21 [some (.ref x0), some (.int x1)] [.ref x0] (G, F, I, J) b post px := ip_nx_iff ((ip_st_of f193_20).trans rfl)
theorem f193_21 : ip_fetch 193 21 = some (.getfield 11, 3) := by decide +kernel
set_option maxRecDepth 100000 in
theorem s193_21 {x0 : Nat} {x1 : Int32} {s0 : Nat} : ip_WP 193 21 [some (.ref x0), some (.int x1)] [.ref s0] (G, F, I, J) b post px ↔ (ip_isO G s0 10 = true ∧ ip_WP 193 24 [some (.ref x0), some (.int x1)] [F s0 0] (G, F, I, J) b post px) := ip_s_getf f193_21 (by decide +kernel)
theorem f193_24 : ip_fetch 193 24 = some (.iload_n 1, 1) := by decide +kernel
theorem s193_24 {x0 : Nat} {x1 : Int32} {s0 : Nat} : ip_WP 193 24 [some (.ref x0), some (.int x1)] [.ref s0] (G, F, I, J) b post px ↔ ip_WP 193 25 [some (.ref x0), some (.int x1)] [.int x1, .ref s0] (G, F, I, J) b post px := ip_nx_iff ((ip_st_of f193_24).trans rfl)
theorem f193_25 : ip_fetch 193 25 = some (.sipush 256, 3) := by decide +kernel
theorem s193_25 {x0 : Nat} {x1 : Int32} {s0 : Nat} {s1 : Int32} : ip_WP 193 25 [some (.ref x0), some (.int x1)] [.int s1, .ref s0] (G, F, I, J) b post px ↔ ip_WP 193 28 [some (.ref x0), some (.int x1)] [.int 256, .int s1, .ref s0] (G, F, I, J) b post px := ip_s_sipush f193_25 (by decide)
theorem f193_28 : ip_fetch 193 28 = some (.iload_n 1, 1) := by decide +kernel
theorem s193_28 {x0 : Nat} {x1 : Int32} {s0 : Nat} {s1 : Int32} {s2 : Int32} : ip_WP 193 28 [some (.ref x0), some (.int x1)] [.int s2, .int s1, .ref s0] (G, F, I, J) b post px ↔ ip_WP 193 29 [some (.ref x0), some (.int x1)] [.int x1, .int s2, .int s1, .ref s0] (G, F, I, J) b post px := ip_nx_iff ((ip_st_of f193_28).trans rfl)
theorem f193_29 : ip_fetch 193 29 = some (.iadd, 1) := by decide +kernel
theorem s193_29 {x0 : Nat} {x1 : Int32} {s0 : Nat} {s1 : Int32} {s2 : Int32} {s3 : Int32} : ip_WP 193 29 [some (.ref x0), some (.int x1)] [.int s3, .int s2, .int s1, .ref s0] (G, F, I, J) b post px ↔ ip_WP 193 30 [some (.ref x0), some (.int x1)] [.int (s2 + s3), .int s1, .ref s0] (G, F, I, J) b post px := ip_nx_iff ((ip_st_of f193_29).trans rfl)
theorem f193_30 : ip_fetch 193 30 = some (.invokestatic 15, 3) := by decide +kernel
set_option maxRecDepth 100000 in
theorem s193_30 {x0 : Nat} {x1 : Int32} {s0 : Nat} {s1 : Int32} {s2 : Int32} : ip_WP 193 30 [some (.ref x0), some (.int x1)] [.int s2, .int s1, .ref s0] (G, F, I, J) b post px ↔ ip_WP 194 0 [some (.int s2)] [] (G, F, I, J) (0, 0) (fun r h' => ip_WP 193 33 [some (.ref x0), some (.int x1)] (r.toList ++ [.int s1, .ref s0]) h' b post px) (fun _ _ => False) := ip_cl_iff ((ip_st_of f193_30).trans (rfl : _ = ip_cl 194 [some (.int s2)] [.int s1, .ref s0] (0, 0) b))
theorem f193_33 : ip_fetch 193 33 = some (.invokestatic 19, 3) := by decide +kernel
set_option maxRecDepth 100000 in
theorem s193_33 {x0 : Nat} {x1 : Int32} {s0 : Nat} {s1 : Int32} {s2 : Nat} : ip_WP 193 33 [some (.ref x0), some (.int x1)] [.ref s2, .int s1, .ref s0] (G, F, I, J) b post px ↔ ip_WP 142 0 [some (.ref s2), none, none, none] [] (G, F, I, J) (0, 0) (fun r h' => ip_WP 193 36 [some (.ref x0), some (.int x1)] (r.toList ++ [.int s1, .ref s0]) h' b post px) (fun _ _ => False) := ip_cl_iff ((ip_st_of f193_33).trans (rfl : _ = ip_cl 142 [some (.ref s2), none, none, none] [.int s1, .ref s0] (0, 0) b))
theorem f193_36 : ip_fetch 193 36 = some (.lastore, 1) := by decide +kernel
theorem s193_36 {x0 : Nat} {x1 : Int32} {s0 : Nat} {s1 : Int32} {s2 : Int64} : ip_WP 193 36 [some (.ref x0), some (.int x1)] [.long s2, .int s1, .ref s0] (G, F, I, J) b post px ↔ (ip_inA G s0 2 s1 = true ∧ ip_WP 193 37 [some (.ref x0), some (.int x1)] [] (G, F, I, ip_up J s0 s1.toNatClampNeg s2) b post px) := ip_ck_iff ((ip_st_of f193_36).trans rfl) ip_nx_iff
theorem f193_37 : ip_fetch 193 37 = some (.iinc 1 1, 3) := by decide +kernel
theorem s193_37 {x0 : Nat} {x1 : Int32} : ip_WP 193 37 [some (.ref x0), some (.int x1)] [] (G, F, I, J) b post px ↔ ip_WP 193 40 [some (.ref x0), some (.int (x1 + 1))] [] (G, F, I, J) b post px := ip_s_iinc f193_37 rfl (by decide)
theorem f193_40 : ip_fetch 193 40 = some (.goto (-26), 3) := by decide +kernel
theorem s193_40 {x0 : Nat} {x1 : Int32} : ip_WP 193 40 [some (.ref x0), some (.int x1)] [] (G, F, I, J) b post px ↔ ip_WP 193 14 [some (.ref x0), some (.int x1)] [] (G, F, I, J) b post px := ip_nx_iff ((ip_st_of f193_40).trans rfl)
theorem f193_43 : ip_fetch 193 43 = some (.return_, 1) := by decide +kernel
theorem s193_43 {x0 : Nat} {x1 : Int32} : ip_WP 193 43 [some (.ref x0), some (.int x1)] [] (G, F, I, J) b post px ↔ post none (G, F, I, J) := ip_rt_iff ((ip_st_of f193_43).trans rfl)
theorem f194_0 : ip_fetch 194 0 = some (.iload_n 0, 1) := by decide +kernel
theorem s194_0 {x0 : Int32} : ip_WP 194 0 [some (.int x0)] [] (G, F, I, J) b post px ↔ ip_WP 194 1 [some (.int x0)] [.int x0] (G, F, I, J) b post px := ip_nx_iff ((ip_st_of f194_0).trans rfl)
-- switch 194 1
theorem f194_1 : ip_fetch 194 1 = some (.tableswitch 85 256 265 #[55, 58, 61, 64, 67, 70, 73, 76, 79, 82], 55) := by decide +kernel
theorem s194_1 {x0 : Int32} {s0 : Int32} : ip_WP 194 1 [some (.int x0)] [.int s0] (G, F, I, J) b post px ↔ if s0 = 256 then ip_WP 194 56 [some (.int x0)] [] (G, F, I, J) b post px else if s0 = 257 then ip_WP 194 59 [some (.int x0)] [] (G, F, I, J) b post px else if s0 = 258 then ip_WP 194 62 [some (.int x0)] [] (G, F, I, J) b post px else if s0 = 259 then ip_WP 194 65 [some (.int x0)] [] (G, F, I, J) b post px else if s0 = 260 then ip_WP 194 68 [some (.int x0)] [] (G, F, I, J) b post px else if s0 = 261 then ip_WP 194 71 [some (.int x0)] [] (G, F, I, J) b post px else if s0 = 262 then ip_WP 194 74 [some (.int x0)] [] (G, F, I, J) b post px else if s0 = 263 then ip_WP 194 77 [some (.int x0)] [] (G, F, I, J) b post px else if s0 = 264 then ip_WP 194 80 [some (.int x0)] [] (G, F, I, J) b post px else if s0 = 265 then ip_WP 194 83 [some (.int x0)] [] (G, F, I, J) b post px else ip_WP 194 86 [some (.int x0)] [] (G, F, I, J) b post px := by
  by_cases h0 : s0 = 256
  · subst h0
    rw [if_pos rfl]
    exact ip_nx_iff ((ip_st_of f194_1).trans rfl)
  rw [if_neg h0]
  by_cases h1 : s0 = 257
  · subst h1
    rw [if_pos rfl]
    exact ip_nx_iff ((ip_st_of f194_1).trans rfl)
  rw [if_neg h1]
  by_cases h2 : s0 = 258
  · subst h2
    rw [if_pos rfl]
    exact ip_nx_iff ((ip_st_of f194_1).trans rfl)
  rw [if_neg h2]
  by_cases h3 : s0 = 259
  · subst h3
    rw [if_pos rfl]
    exact ip_nx_iff ((ip_st_of f194_1).trans rfl)
  rw [if_neg h3]
  by_cases h4 : s0 = 260
  · subst h4
    rw [if_pos rfl]
    exact ip_nx_iff ((ip_st_of f194_1).trans rfl)
  rw [if_neg h4]
  by_cases h5 : s0 = 261
  · subst h5
    rw [if_pos rfl]
    exact ip_nx_iff ((ip_st_of f194_1).trans rfl)
  rw [if_neg h5]
  by_cases h6 : s0 = 262
  · subst h6
    rw [if_pos rfl]
    exact ip_nx_iff ((ip_st_of f194_1).trans rfl)
  rw [if_neg h6]
  by_cases h7 : s0 = 263
  · subst h7
    rw [if_pos rfl]
    exact ip_nx_iff ((ip_st_of f194_1).trans rfl)
  rw [if_neg h7]
  by_cases h8 : s0 = 264
  · subst h8
    rw [if_pos rfl]
    exact ip_nx_iff ((ip_st_of f194_1).trans rfl)
  rw [if_neg h8]
  by_cases h9 : s0 = 265
  · subst h9
    rw [if_pos rfl]
    exact ip_nx_iff ((ip_st_of f194_1).trans rfl)
  rw [if_neg h9]
  have g0 := lv_neT (a := 256) h0 (by decide)
  have g1 := lv_neT (a := 257) h1 (by decide)
  have g2 := lv_neT (a := 258) h2 (by decide)
  have g3 := lv_neT (a := 259) h3 (by decide)
  have g4 := lv_neT (a := 260) h4 (by decide)
  have g5 := lv_neT (a := 261) h5 (by decide)
  have g6 := lv_neT (a := 262) h6 (by decide)
  have g7 := lv_neT (a := 263) h7 (by decide)
  have g8 := lv_neT (a := 264) h8 (by decide)
  have g9 := lv_neT (a := 265) h9 (by decide)
  exact ip_s_tsd f194_1 (by omega) rfl rfl
theorem f194_56 : ip_fetch 194 56 = some (.ldc 25, 2) := by decide +kernel
set_option maxRecDepth 100000 in
theorem s194_56 {x0 : Int32} : ip_WP 194 56 [some (.int x0)] [] (G, F, I, J) b post px ↔ ip_WP 194 58 [some (.int x0)] [.ref 1000022] (G, F, I, J) b post px := ip_nx_iff ((ip_st_of f194_56).trans rfl)
theorem f194_58 : ip_fetch 194 58 = some (.areturn, 1) := by decide +kernel
theorem s194_58 {x0 : Int32} {s0 : Nat} : ip_WP 194 58 [some (.int x0)] [.ref s0] (G, F, I, J) b post px ↔ post (some (.ref s0)) (G, F, I, J) := ip_rt_iff ((ip_st_of f194_58).trans rfl)
theorem f194_59 : ip_fetch 194 59 = some (.ldc 27, 2) := by decide +kernel
set_option maxRecDepth 100000 in
theorem s194_59 {x0 : Int32} : ip_WP 194 59 [some (.int x0)] [] (G, F, I, J) b post px ↔ ip_WP 194 61 [some (.int x0)] [.ref 1000023] (G, F, I, J) b post px := ip_nx_iff ((ip_st_of f194_59).trans rfl)
theorem f194_61 : ip_fetch 194 61 = some (.areturn, 1) := by decide +kernel
theorem s194_61 {x0 : Int32} {s0 : Nat} : ip_WP 194 61 [some (.int x0)] [.ref s0] (G, F, I, J) b post px ↔ post (some (.ref s0)) (G, F, I, J) := ip_rt_iff ((ip_st_of f194_61).trans rfl)
theorem f194_62 : ip_fetch 194 62 = some (.ldc 29, 2) := by decide +kernel
set_option maxRecDepth 100000 in
theorem s194_62 {x0 : Int32} : ip_WP 194 62 [some (.int x0)] [] (G, F, I, J) b post px ↔ ip_WP 194 64 [some (.int x0)] [.ref 1000024] (G, F, I, J) b post px := ip_nx_iff ((ip_st_of f194_62).trans rfl)
theorem f194_64 : ip_fetch 194 64 = some (.areturn, 1) := by decide +kernel
theorem s194_64 {x0 : Int32} {s0 : Nat} : ip_WP 194 64 [some (.int x0)] [.ref s0] (G, F, I, J) b post px ↔ post (some (.ref s0)) (G, F, I, J) := ip_rt_iff ((ip_st_of f194_64).trans rfl)
theorem f194_65 : ip_fetch 194 65 = some (.ldc 31, 2) := by decide +kernel
set_option maxRecDepth 100000 in
theorem s194_65 {x0 : Int32} : ip_WP 194 65 [some (.int x0)] [] (G, F, I, J) b post px ↔ ip_WP 194 67 [some (.int x0)] [.ref 1000025] (G, F, I, J) b post px := ip_nx_iff ((ip_st_of f194_65).trans rfl)
theorem f194_67 : ip_fetch 194 67 = some (.areturn, 1) := by decide +kernel
theorem s194_67 {x0 : Int32} {s0 : Nat} : ip_WP 194 67 [some (.int x0)] [.ref s0] (G, F, I, J) b post px ↔ post (some (.ref s0)) (G, F, I, J) := ip_rt_iff ((ip_st_of f194_67).trans rfl)
theorem f194_68 : ip_fetch 194 68 = some (.ldc 33, 2) := by decide +kernel
set_option maxRecDepth 100000 in
theorem s194_68 {x0 : Int32} : ip_WP 194 68 [some (.int x0)] [] (G, F, I, J) b post px ↔ ip_WP 194 70 [some (.int x0)] [.ref 1000026] (G, F, I, J) b post px := ip_nx_iff ((ip_st_of f194_68).trans rfl)
theorem f194_70 : ip_fetch 194 70 = some (.areturn, 1) := by decide +kernel
theorem s194_70 {x0 : Int32} {s0 : Nat} : ip_WP 194 70 [some (.int x0)] [.ref s0] (G, F, I, J) b post px ↔ post (some (.ref s0)) (G, F, I, J) := ip_rt_iff ((ip_st_of f194_70).trans rfl)
theorem f194_71 : ip_fetch 194 71 = some (.ldc 35, 2) := by decide +kernel
set_option maxRecDepth 100000 in
theorem s194_71 {x0 : Int32} : ip_WP 194 71 [some (.int x0)] [] (G, F, I, J) b post px ↔ ip_WP 194 73 [some (.int x0)] [.ref 1000027] (G, F, I, J) b post px := ip_nx_iff ((ip_st_of f194_71).trans rfl)
theorem f194_73 : ip_fetch 194 73 = some (.areturn, 1) := by decide +kernel
theorem s194_73 {x0 : Int32} {s0 : Nat} : ip_WP 194 73 [some (.int x0)] [.ref s0] (G, F, I, J) b post px ↔ post (some (.ref s0)) (G, F, I, J) := ip_rt_iff ((ip_st_of f194_73).trans rfl)
theorem f194_74 : ip_fetch 194 74 = some (.ldc 37, 2) := by decide +kernel
set_option maxRecDepth 100000 in
theorem s194_74 {x0 : Int32} : ip_WP 194 74 [some (.int x0)] [] (G, F, I, J) b post px ↔ ip_WP 194 76 [some (.int x0)] [.ref 1000028] (G, F, I, J) b post px := ip_nx_iff ((ip_st_of f194_74).trans rfl)
theorem f194_76 : ip_fetch 194 76 = some (.areturn, 1) := by decide +kernel
theorem s194_76 {x0 : Int32} {s0 : Nat} : ip_WP 194 76 [some (.int x0)] [.ref s0] (G, F, I, J) b post px ↔ post (some (.ref s0)) (G, F, I, J) := ip_rt_iff ((ip_st_of f194_76).trans rfl)
theorem f194_77 : ip_fetch 194 77 = some (.ldc 39, 2) := by decide +kernel
set_option maxRecDepth 100000 in
theorem s194_77 {x0 : Int32} : ip_WP 194 77 [some (.int x0)] [] (G, F, I, J) b post px ↔ ip_WP 194 79 [some (.int x0)] [.ref 1000029] (G, F, I, J) b post px := ip_nx_iff ((ip_st_of f194_77).trans rfl)
theorem f194_79 : ip_fetch 194 79 = some (.areturn, 1) := by decide +kernel
theorem s194_79 {x0 : Int32} {s0 : Nat} : ip_WP 194 79 [some (.int x0)] [.ref s0] (G, F, I, J) b post px ↔ post (some (.ref s0)) (G, F, I, J) := ip_rt_iff ((ip_st_of f194_79).trans rfl)
theorem f194_80 : ip_fetch 194 80 = some (.ldc 41, 2) := by decide +kernel
set_option maxRecDepth 100000 in
theorem s194_80 {x0 : Int32} : ip_WP 194 80 [some (.int x0)] [] (G, F, I, J) b post px ↔ ip_WP 194 82 [some (.int x0)] [.ref 1000030] (G, F, I, J) b post px := ip_nx_iff ((ip_st_of f194_80).trans rfl)
theorem f194_82 : ip_fetch 194 82 = some (.areturn, 1) := by decide +kernel
theorem s194_82 {x0 : Int32} {s0 : Nat} : ip_WP 194 82 [some (.int x0)] [.ref s0] (G, F, I, J) b post px ↔ post (some (.ref s0)) (G, F, I, J) := ip_rt_iff ((ip_st_of f194_82).trans rfl)
theorem f194_83 : ip_fetch 194 83 = some (.ldc 43, 2) := by decide +kernel
set_option maxRecDepth 100000 in
theorem s194_83 {x0 : Int32} : ip_WP 194 83 [some (.int x0)] [] (G, F, I, J) b post px ↔ ip_WP 194 85 [some (.int x0)] [.ref 1000031] (G, F, I, J) b post px := ip_nx_iff ((ip_st_of f194_83).trans rfl)
theorem f194_85 : ip_fetch 194 85 = some (.areturn, 1) := by decide +kernel
theorem s194_85 {x0 : Int32} {s0 : Nat} : ip_WP 194 85 [some (.int x0)] [.ref s0] (G, F, I, J) b post px ↔ post (some (.ref s0)) (G, F, I, J) := ip_rt_iff ((ip_st_of f194_85).trans rfl)
theorem f194_86 : ip_fetch 194 86 = some (.iload_n 0, 1) := by decide +kernel
theorem s194_86 {x0 : Int32} : ip_WP 194 86 [some (.int x0)] [] (G, F, I, J) b post px ↔ ip_WP 194 87 [some (.int x0)] [.int x0] (G, F, I, J) b post px := ip_nx_iff ((ip_st_of f194_86).trans rfl)
theorem f194_87 : ip_fetch 194 87 = some (.sipush 266, 3) := by decide +kernel
theorem s194_87 {x0 : Int32} {s0 : Int32} : ip_WP 194 87 [some (.int x0)] [.int s0] (G, F, I, J) b post px ↔ ip_WP 194 90 [some (.int x0)] [.int 266, .int s0] (G, F, I, J) b post px := ip_s_sipush f194_87 (by decide)
theorem f194_90 : ip_fetch 194 90 = some (.isub, 1) := by decide +kernel
theorem s194_90 {x0 : Int32} {s0 : Int32} {s1 : Int32} : ip_WP 194 90 [some (.int x0)] [.int s1, .int s0] (G, F, I, J) b post px ↔ ip_WP 194 91 [some (.int x0)] [.int (s0 - s1)] (G, F, I, J) b post px := ip_nx_iff ((ip_st_of f194_90).trans rfl)
theorem f194_91 : ip_fetch 194 91 = some (.invokestatic 45, 3) := by decide +kernel
set_option maxRecDepth 100000 in
theorem s194_91 {x0 : Int32} {s0 : Int32} : ip_WP 194 91 [some (.int x0)] [.int s0] (G, F, I, J) b post px ↔ ip_WP 195 0 [some (.int s0)] [] (G, F, I, J) (0, 0) (fun r h' => ip_WP 194 94 [some (.int x0)] (r.toList ++ []) h' b post px) (fun _ _ => False) := ip_cl_iff ((ip_st_of f194_91).trans (rfl : _ = ip_cl 195 [some (.int s0)] [] (0, 0) b))
theorem f194_94 : ip_fetch 194 94 = some (.areturn, 1) := by decide +kernel
theorem s194_94 {x0 : Int32} {s0 : Nat} : ip_WP 194 94 [some (.int x0)] [.ref s0] (G, F, I, J) b post px ↔ post (some (.ref s0)) (G, F, I, J) := ip_rt_iff ((ip_st_of f194_94).trans rfl)
theorem f195_0 : ip_fetch 195 0 = some (.iload_n 0, 1) := by decide +kernel
theorem s195_0 {x0 : Int32} : ip_WP 195 0 [some (.int x0)] [] (G, F, I, J) b post px ↔ ip_WP 195 1 [some (.int x0)] [.int x0] (G, F, I, J) b post px := ip_nx_iff ((ip_st_of f195_0).trans rfl)
-- switch 195 1
theorem f195_1 : ip_fetch 195 1 = some (.tableswitch 57 0 5 #[39, 42, 45, 48, 51, 54], 39) := by decide +kernel
theorem s195_1 {x0 : Int32} {s0 : Int32} : ip_WP 195 1 [some (.int x0)] [.int s0] (G, F, I, J) b post px ↔ if s0 = 0 then ip_WP 195 40 [some (.int x0)] [] (G, F, I, J) b post px else if s0 = 1 then ip_WP 195 43 [some (.int x0)] [] (G, F, I, J) b post px else if s0 = 2 then ip_WP 195 46 [some (.int x0)] [] (G, F, I, J) b post px else if s0 = 3 then ip_WP 195 49 [some (.int x0)] [] (G, F, I, J) b post px else if s0 = 4 then ip_WP 195 52 [some (.int x0)] [] (G, F, I, J) b post px else if s0 = 5 then ip_WP 195 55 [some (.int x0)] [] (G, F, I, J) b post px else ip_WP 195 58 [some (.int x0)] [] (G, F, I, J) b post px := by
  by_cases h0 : s0 = 0
  · subst h0
    rw [if_pos rfl]
    exact ip_nx_iff ((ip_st_of f195_1).trans rfl)
  rw [if_neg h0]
  by_cases h1 : s0 = 1
  · subst h1
    rw [if_pos rfl]
    exact ip_nx_iff ((ip_st_of f195_1).trans rfl)
  rw [if_neg h1]
  by_cases h2 : s0 = 2
  · subst h2
    rw [if_pos rfl]
    exact ip_nx_iff ((ip_st_of f195_1).trans rfl)
  rw [if_neg h2]
  by_cases h3 : s0 = 3
  · subst h3
    rw [if_pos rfl]
    exact ip_nx_iff ((ip_st_of f195_1).trans rfl)
  rw [if_neg h3]
  by_cases h4 : s0 = 4
  · subst h4
    rw [if_pos rfl]
    exact ip_nx_iff ((ip_st_of f195_1).trans rfl)
  rw [if_neg h4]
  by_cases h5 : s0 = 5
  · subst h5
    rw [if_pos rfl]
    exact ip_nx_iff ((ip_st_of f195_1).trans rfl)
  rw [if_neg h5]
  have g0 := lv_neT (a := 0) h0 (by decide)
  have g1 := lv_neT (a := 1) h1 (by decide)
  have g2 := lv_neT (a := 2) h2 (by decide)
  have g3 := lv_neT (a := 3) h3 (by decide)
  have g4 := lv_neT (a := 4) h4 (by decide)
  have g5 := lv_neT (a := 5) h5 (by decide)
  exact ip_s_tsd f195_1 (by omega) rfl rfl
theorem f195_40 : ip_fetch 195 40 = some (.ldc 48, 2) := by decide +kernel
set_option maxRecDepth 100000 in
theorem s195_40 {x0 : Int32} : ip_WP 195 40 [some (.int x0)] [] (G, F, I, J) b post px ↔ ip_WP 195 42 [some (.int x0)] [.ref 1000032] (G, F, I, J) b post px := ip_nx_iff ((ip_st_of f195_40).trans rfl)
theorem f195_42 : ip_fetch 195 42 = some (.areturn, 1) := by decide +kernel
theorem s195_42 {x0 : Int32} {s0 : Nat} : ip_WP 195 42 [some (.int x0)] [.ref s0] (G, F, I, J) b post px ↔ post (some (.ref s0)) (G, F, I, J) := ip_rt_iff ((ip_st_of f195_42).trans rfl)
theorem f195_43 : ip_fetch 195 43 = some (.ldc 50, 2) := by decide +kernel
set_option maxRecDepth 100000 in
theorem s195_43 {x0 : Int32} : ip_WP 195 43 [some (.int x0)] [] (G, F, I, J) b post px ↔ ip_WP 195 45 [some (.int x0)] [.ref 1000033] (G, F, I, J) b post px := ip_nx_iff ((ip_st_of f195_43).trans rfl)
theorem f195_45 : ip_fetch 195 45 = some (.areturn, 1) := by decide +kernel
theorem s195_45 {x0 : Int32} {s0 : Nat} : ip_WP 195 45 [some (.int x0)] [.ref s0] (G, F, I, J) b post px ↔ post (some (.ref s0)) (G, F, I, J) := ip_rt_iff ((ip_st_of f195_45).trans rfl)
theorem f195_46 : ip_fetch 195 46 = some (.ldc 52, 2) := by decide +kernel
set_option maxRecDepth 100000 in
theorem s195_46 {x0 : Int32} : ip_WP 195 46 [some (.int x0)] [] (G, F, I, J) b post px ↔ ip_WP 195 48 [some (.int x0)] [.ref 1000034] (G, F, I, J) b post px := ip_nx_iff ((ip_st_of f195_46).trans rfl)
theorem f195_48 : ip_fetch 195 48 = some (.areturn, 1) := by decide +kernel
theorem s195_48 {x0 : Int32} {s0 : Nat} : ip_WP 195 48 [some (.int x0)] [.ref s0] (G, F, I, J) b post px ↔ post (some (.ref s0)) (G, F, I, J) := ip_rt_iff ((ip_st_of f195_48).trans rfl)
theorem f195_49 : ip_fetch 195 49 = some (.ldc 54, 2) := by decide +kernel
set_option maxRecDepth 100000 in
theorem s195_49 {x0 : Int32} : ip_WP 195 49 [some (.int x0)] [] (G, F, I, J) b post px ↔ ip_WP 195 51 [some (.int x0)] [.ref 1000035] (G, F, I, J) b post px := ip_nx_iff ((ip_st_of f195_49).trans rfl)
theorem f195_51 : ip_fetch 195 51 = some (.areturn, 1) := by decide +kernel
theorem s195_51 {x0 : Int32} {s0 : Nat} : ip_WP 195 51 [some (.int x0)] [.ref s0] (G, F, I, J) b post px ↔ post (some (.ref s0)) (G, F, I, J) := ip_rt_iff ((ip_st_of f195_51).trans rfl)
theorem f195_52 : ip_fetch 195 52 = some (.ldc 56, 2) := by decide +kernel
set_option maxRecDepth 100000 in
theorem s195_52 {x0 : Int32} : ip_WP 195 52 [some (.int x0)] [] (G, F, I, J) b post px ↔ ip_WP 195 54 [some (.int x0)] [.ref 1000036] (G, F, I, J) b post px := ip_nx_iff ((ip_st_of f195_52).trans rfl)
theorem f195_54 : ip_fetch 195 54 = some (.areturn, 1) := by decide +kernel
theorem s195_54 {x0 : Int32} {s0 : Nat} : ip_WP 195 54 [some (.int x0)] [.ref s0] (G, F, I, J) b post px ↔ post (some (.ref s0)) (G, F, I, J) := ip_rt_iff ((ip_st_of f195_54).trans rfl)
theorem f195_55 : ip_fetch 195 55 = some (.ldc 58, 2) := by decide +kernel
set_option maxRecDepth 100000 in
theorem s195_55 {x0 : Int32} : ip_WP 195 55 [some (.int x0)] [] (G, F, I, J) b post px ↔ ip_WP 195 57 [some (.int x0)] [.ref 1000037] (G, F, I, J) b post px := ip_nx_iff ((ip_st_of f195_55).trans rfl)
theorem f195_57 : ip_fetch 195 57 = some (.areturn, 1) := by decide +kernel
theorem s195_57 {x0 : Int32} {s0 : Nat} : ip_WP 195 57 [some (.int x0)] [.ref s0] (G, F, I, J) b post px ↔ post (some (.ref s0)) (G, F, I, J) := ip_rt_iff ((ip_st_of f195_57).trans rfl)
theorem f195_58 : ip_fetch 195 58 = some (.ldc 60, 2) := by decide +kernel
set_option maxRecDepth 100000 in
theorem s195_58 {x0 : Int32} : ip_WP 195 58 [some (.int x0)] [] (G, F, I, J) b post px ↔ ip_WP 195 60 [some (.int x0)] [.ref 1000038] (G, F, I, J) b post px := ip_nx_iff ((ip_st_of f195_58).trans rfl)
theorem f195_60 : ip_fetch 195 60 = some (.areturn, 1) := by decide +kernel
theorem s195_60 {x0 : Int32} {s0 : Nat} : ip_WP 195 60 [some (.int x0)] [.ref s0] (G, F, I, J) b post px ↔ post (some (.ref s0)) (G, F, I, J) := ip_rt_iff ((ip_st_of f195_60).trans rfl)
theorem f196_0 : ip_fetch 196 0 = some (.iconst 0, 1) := by decide +kernel
theorem s196_0 {x0 : Nat} {x1 : Int64} {x3 : Option Value} : ip_WP 196 0 [some (.ref x0), some (.long x1), none, x3] [] (G, F, I, J) b post px ↔ ip_WP 196 1 [some (.ref x0), some (.long x1), none, x3] [.int 0] (G, F, I, J) b post px := ip_s_iconst f196_0 (by decide)
theorem f196_1 : ip_fetch 196 1 = some (.istore_n 3, 1) := by decide +kernel
theorem s196_1 {x0 : Nat} {x1 : Int64} {x3 : Option Value} {s0 : Int32} : ip_WP 196 1 [some (.ref x0), some (.long x1), none, x3] [.int s0] (G, F, I, J) b post px ↔ ip_WP 196 2 [some (.ref x0), some (.long x1), none, some (.int s0)] [] (G, F, I, J) b post px := ip_nx_iff ((ip_st_of f196_1).trans rfl)
theorem f196_2 : ip_fetch 196 2 = some (.iload_n 3, 1) := by decide +kernel
theorem s196_2 {x0 : Nat} {x1 : Int64} {x3 : Int32} : ip_WP 196 2 [some (.ref x0), some (.long x1), none, some (.int x3)] [] (G, F, I, J) b post px ↔ ip_WP 196 3 [some (.ref x0), some (.long x1), none, some (.int x3)] [.int x3] (G, F, I, J) b post px := ip_nx_iff ((ip_st_of f196_2).trans rfl)
theorem f196_3 : ip_fetch 196 3 = some (.bipush 17, 2) := by decide +kernel
theorem s196_3 {x0 : Nat} {x1 : Int64} {x3 : Int32} {s0 : Int32} : ip_WP 196 3 [some (.ref x0), some (.long x1), none, some (.int x3)] [.int s0] (G, F, I, J) b post px ↔ ip_WP 196 5 [some (.ref x0), some (.long x1), none, some (.int x3)] [.int 17, .int s0] (G, F, I, J) b post px := ip_s_bipush f196_3 (by decide)
theorem f196_5 : ip_fetch 196 5 = some (.if_icmp .ge 26, 3) := by decide +kernel
theorem s196_5 {x0 : Nat} {x1 : Int64} {x3 : Int32} {s0 : Int32} {s1 : Int32} : ip_WP 196 5 [some (.ref x0), some (.long x1), none, some (.int x3)] [.int s1, .int s0] (G, F, I, J) b post px ↔ if s1 ≤ s0 then ip_WP 196 31 [some (.ref x0), some (.long x1), none, some (.int x3)] [] (G, F, I, J) b post px else ip_WP 196 8 [some (.ref x0), some (.long x1), none, some (.int x3)] [] (G, F, I, J) b post px := ip_s_ic_ge f196_5 rfl
theorem f196_8 : ip_fetch 196 8 = some (.aload_n 0, 1) := by decide +kernel
theorem s196_8 {x0 : Nat} {x1 : Int64} {x3 : Int32} : ip_WP 196 8 [some (.ref x0), some (.long x1), none, some (.int x3)] [] (G, F, I, J) b post px ↔ ip_WP 196 9 [some (.ref x0), some (.long x1), none, some (.int x3)] [.ref x0] (G, F, I, J) b post px := ip_nx_iff ((ip_st_of f196_8).trans rfl)
theorem f196_9 : ip_fetch 196 9 = some (.getfield 11, 3) := by decide +kernel
set_option maxRecDepth 100000 in
theorem s196_9 {x0 : Nat} {x1 : Int64} {x3 : Int32} {s0 : Nat} : ip_WP 196 9 [some (.ref x0), some (.long x1), none, some (.int x3)] [.ref s0] (G, F, I, J) b post px ↔ (ip_isO G s0 10 = true ∧ ip_WP 196 12 [some (.ref x0), some (.long x1), none, some (.int x3)] [F s0 0] (G, F, I, J) b post px) := ip_s_getf f196_9 (by decide +kernel)
theorem f196_12 : ip_fetch 196 12 = some (.iload_n 3, 1) := by decide +kernel
theorem s196_12 {x0 : Nat} {x1 : Int64} {x3 : Int32} {s0 : Nat} : ip_WP 196 12 [some (.ref x0), some (.long x1), none, some (.int x3)] [.ref s0] (G, F, I, J) b post px ↔ ip_WP 196 13 [some (.ref x0), some (.long x1), none, some (.int x3)] [.int x3, .ref s0] (G, F, I, J) b post px := ip_nx_iff ((ip_st_of f196_12).trans rfl)
theorem f196_13 : ip_fetch 196 13 = some (.laload, 1) := by decide +kernel
theorem s196_13 {x0 : Nat} {x1 : Int64} {x3 : Int32} {s0 : Nat} {s1 : Int32} : ip_WP 196 13 [some (.ref x0), some (.long x1), none, some (.int x3)] [.int s1, .ref s0] (G, F, I, J) b post px ↔ (ip_inA G s0 2 s1 = true ∧ ip_WP 196 14 [some (.ref x0), some (.long x1), none, some (.int x3)] [.long (J s0 s1.toNatClampNeg)] (G, F, I, J) b post px) := ip_ck_iff ((ip_st_of f196_13).trans rfl) ip_nx_iff
theorem f196_14 : ip_fetch 196 14 = some (.lload_n 1, 1) := by decide +kernel
theorem s196_14 {x0 : Nat} {x1 : Int64} {x3 : Int32} {s0 : Int64} : ip_WP 196 14 [some (.ref x0), some (.long x1), none, some (.int x3)] [.long s0] (G, F, I, J) b post px ↔ ip_WP 196 15 [some (.ref x0), some (.long x1), none, some (.int x3)] [.long x1, .long s0] (G, F, I, J) b post px := ip_nx_iff ((ip_st_of f196_14).trans rfl)
theorem f196_15 : ip_fetch 196 15 = some (.lcmp, 1) := by decide +kernel
theorem s196_15 {x0 : Nat} {x1 : Int64} {x3 : Int32} {s0 : Int64} {s1 : Int64} : ip_WP 196 15 [some (.ref x0), some (.long x1), none, some (.int x3)] [.long s1, .long s0] (G, F, I, J) b post px ↔ ip_WP 196 16 [some (.ref x0), some (.long x1), none, some (.int x3)] [.int (lg_cmp s0 s1)] (G, F, I, J) b post px := ip_nx_iff ((ip_st_of f196_15).trans rfl)
theorem f196_16 : ip_fetch 196 16 = some (.ifCond .ne 9, 3) := by decide +kernel
theorem s196_16 {x0 : Nat} {x1 : Int64} {x3 : Int32} {s0 : Int32} : ip_WP 196 16 [some (.ref x0), some (.long x1), none, some (.int x3)] [.int s0] (G, F, I, J) b post px ↔ if ¬ s0 = 0 then ip_WP 196 25 [some (.ref x0), some (.long x1), none, some (.int x3)] [] (G, F, I, J) b post px else ip_WP 196 19 [some (.ref x0), some (.long x1), none, some (.int x3)] [] (G, F, I, J) b post px := ip_s_if_ne f196_16 rfl
theorem f196_19 : ip_fetch 196 19 = some (.sipush 256, 3) := by decide +kernel
theorem s196_19 {x0 : Nat} {x1 : Int64} {x3 : Int32} : ip_WP 196 19 [some (.ref x0), some (.long x1), none, some (.int x3)] [] (G, F, I, J) b post px ↔ ip_WP 196 22 [some (.ref x0), some (.long x1), none, some (.int x3)] [.int 256] (G, F, I, J) b post px := ip_s_sipush f196_19 (by decide)
theorem f196_22 : ip_fetch 196 22 = some (.iload_n 3, 1) := by decide +kernel
theorem s196_22 {x0 : Nat} {x1 : Int64} {x3 : Int32} {s0 : Int32} : ip_WP 196 22 [some (.ref x0), some (.long x1), none, some (.int x3)] [.int s0] (G, F, I, J) b post px ↔ ip_WP 196 23 [some (.ref x0), some (.long x1), none, some (.int x3)] [.int x3, .int s0] (G, F, I, J) b post px := ip_nx_iff ((ip_st_of f196_22).trans rfl)
theorem f196_23 : ip_fetch 196 23 = some (.iadd, 1) := by decide +kernel
theorem s196_23 {x0 : Nat} {x1 : Int64} {x3 : Int32} {s0 : Int32} {s1 : Int32} : ip_WP 196 23 [some (.ref x0), some (.long x1), none, some (.int x3)] [.int s1, .int s0] (G, F, I, J) b post px ↔ ip_WP 196 24 [some (.ref x0), some (.long x1), none, some (.int x3)] [.int (s0 + s1)] (G, F, I, J) b post px := ip_nx_iff ((ip_st_of f196_23).trans rfl)
theorem f196_24 : ip_fetch 196 24 = some (.ireturn, 1) := by decide +kernel
theorem s196_24 {x0 : Nat} {x1 : Int64} {x3 : Int32} {s0 : Int32} : ip_WP 196 24 [some (.ref x0), some (.long x1), none, some (.int x3)] [.int s0] (G, F, I, J) b post px ↔ post (some (.int s0)) (G, F, I, J) := ip_rt_iff ((ip_st_of f196_24).trans rfl)
theorem f196_25 : ip_fetch 196 25 = some (.iinc 3 1, 3) := by decide +kernel
theorem s196_25 {x0 : Nat} {x1 : Int64} {x3 : Int32} : ip_WP 196 25 [some (.ref x0), some (.long x1), none, some (.int x3)] [] (G, F, I, J) b post px ↔ ip_WP 196 28 [some (.ref x0), some (.long x1), none, some (.int (x3 + 1))] [] (G, F, I, J) b post px := ip_s_iinc f196_25 rfl (by decide)
theorem f196_28 : ip_fetch 196 28 = some (.goto (-26), 3) := by decide +kernel
theorem s196_28 {x0 : Nat} {x1 : Int64} {x3 : Int32} : ip_WP 196 28 [some (.ref x0), some (.long x1), none, some (.int x3)] [] (G, F, I, J) b post px ↔ ip_WP 196 2 [some (.ref x0), some (.long x1), none, some (.int x3)] [] (G, F, I, J) b post px := ip_nx_iff ((ip_st_of f196_28).trans rfl)
theorem f196_31 : ip_fetch 196 31 = some (.iconst (-1), 1) := by decide +kernel
theorem s196_31 {x0 : Nat} {x1 : Int64} {x3 : Int32} : ip_WP 196 31 [some (.ref x0), some (.long x1), none, some (.int x3)] [] (G, F, I, J) b post px ↔ ip_WP 196 32 [some (.ref x0), some (.long x1), none, some (.int x3)] [.int (-1)] (G, F, I, J) b post px := ip_s_iconst f196_31 (by decide)
theorem f196_32 : ip_fetch 196 32 = some (.ireturn, 1) := by decide +kernel
theorem s196_32 {x0 : Nat} {x1 : Int64} {x3 : Int32} {s0 : Int32} : ip_WP 196 32 [some (.ref x0), some (.long x1), none, some (.int x3)] [.int s0] (G, F, I, J) b post px ↔ post (some (.int s0)) (G, F, I, J) := ip_rt_iff ((ip_st_of f196_32).trans rfl)
end
