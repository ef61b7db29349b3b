section
variable {G : List ip_K} {F : Nat → Nat → Value} {I : Nat → Nat → Int32} {J : Nat → Nat → Int64} {b : ip_B} {post : Option Value → ip_H → Prop} {px : String → ip_H → Prop}
theorem f87_0 : ip_fetch 87 0 = some (.aload_n 0, 1) := by decide +kernel
theorem s87_0 {x0 : Nat} : ip_WP 87 0 [some (.ref x0)] [] (G, F, I, J) b post px ↔ ip_WP 87 1 [some (.ref x0)] [.ref x0] (G, F, I, J) b post px := ip_nx_iff ((ip_st_of f87_0).trans rfl)
theorem f87_1 : ip_fetch 87 1 = some (.invokespecial 3, 3) := by decide +kernel
set_option maxRecDepth 100000 in
theorem s87_1 {x0 : Nat} {s0 : Nat} : ip_WP 87 1 [some (.ref x0)] [.ref s0] (G, F, I, J) b post px ↔ ip_WP 87 4 [some (.ref x0)] [] (G, F, I, J) b post px := ip_s_obj f87_1 rfl (Nat.le_of_ble_eq_true rfl)
theorem f87_4 : ip_fetch 87 4 = some (.aload_n 0, 1) := by decide +kernel
theorem s87_4 {x0 : Nat} : ip_WP 87 4 [some (.ref x0)] [] (G, F, I, J) b post px ↔ ip_WP 87 5 [some (.ref x0)] [.ref x0] (G, F, I, J) b post px := ip_nx_iff ((ip_st_of f87_4).trans rfl)
theorem f87_5 : ip_fetch 87 5 = some (.sipush 4160, 3) := by decide +kernel
theorem s87_5 {x0 : Nat} {s0 : Nat} : ip_WP 87 5 [some (.ref x0)] [.ref s0] (G, F, I, J) b post px ↔ ip_WP 87 8 [some (.ref x0)] [.int 4160, .ref s0] (G, F, I, J) b post px := ip_s_sipush f87_5 (by decide)
theorem f87_8 : ip_fetch 87 8 = some (.newarray .byte, 2) := by decide +kernel
set_option maxRecDepth 100000 in
theorem s87_8 {x0 : Nat} {s0 : Nat} {s1 : Int32} : ip_WP 87 8 [some (.ref x0)] [.int s1, .ref s0] (G, F, I, J) b post px ↔ (ip_wfc G.length [some (.ref x0)] [.ref s0] = true ∧ (1 ≤ b.1 ∧ s1.toNatClampNeg ≤ b.2 ∧ G.length < ip_SC ∧ ¬ s1 < 0 ∧ s1.toNatClampNeg ≤ 60000000) ∧ ip_WP 87 10 [some (.ref x0)] [.ref G.length, .ref s0] (G ++ [.inl (1, s1.toNatClampNeg)], F, fun a j => if a = G.length then 0 else I a j, fun a j => if a = G.length then 0 else J a j) (b.1 - 1, b.2 - s1.toNatClampNeg) post px) := ip_s_newa f87_8 rfl rfl
theorem f87_10 : ip_fetch 87 10 = some (.putfield 11, 3) := by decide +kernel
set_option maxRecDepth 100000 in
theorem s87_10 {x0 : Nat} {s0 : Nat} {s1 : Nat} : ip_WP 87 10 [some (.ref x0)] [.ref s1, .ref s0] (G, F, I, J) b post px ↔ (ip_isO G s0 2 = true ∧ s1 < G.length ∧ ip_WP 87 13 [some (.ref x0)] [] (G, ip_up F s0 0 (.ref s1), I, J) b post px) := ip_s_putR f87_10 (by decide +kernel) rfl
theorem f87_13 : ip_fetch 87 13 = some (.aload_n 0, 1) := by decide +kernel
theorem s87_13 {x0 : Nat} : ip_WP 87 13 [some (.ref x0)] [] (G, F, I, J) b post px ↔ ip_WP 87 14 [some (.ref x0)] [.ref x0] (G, F, I, J) b post px := ip_nx_iff ((ip_st_of f87_13).trans rfl)
theorem f87_14 : ip_fetch 87 14 = some (.iconst 0, 1) := by decide +kernel
theorem s87_14 {x0 : Nat} {s0 : Nat} : ip_WP 87 14 [some (.ref x0)] [.ref s0] (G, F, I, J) b post px ↔ ip_WP 87 15 [some (.ref x0)] [.int 0, .ref s0] (G, F, I, J) b post px := ip_s_iconst f87_14 (by decide)
theorem f87_15 : ip_fetch 87 15 = some (.putfield 15, 3) := by decide +kernel
set_option maxRecDepth 100000 in
theorem s87_15 {x0 : Nat} {s0 : Nat} {s1 : Int32} : ip_WP 87 15 [some (.ref x0)] [.int s1, .ref s0] (G, F, I, J) b post px ↔ (ip_isO G s0 2 = true ∧ ip_WP 87 18 [some (.ref x0)] [] (G, ip_up F s0 1 (.int s1), I, J) b post px) := ip_s_put f87_15 (by decide +kernel) rfl
theorem f87_18 : ip_fetch 87 18 = some (.return_, 1) := by decide +kernel
theorem s87_18 {x0 : Nat} : ip_WP 87 18 [some (.ref x0)] [] (G, F, I, J) b post px ↔ post none (G, F, I, J) := ip_rt_iff ((ip_st_of f87_18).trans rfl)
theorem f88_0 : ip_fetch 88 0 = some (.aload_n 0, 1) := by decide +kernel
theorem s88_0 {x0 : Nat} : ip_WP 88 0 [some (.ref x0)] [] (G, F, I, J) b post px ↔ ip_WP 88 1 [some (.ref x0)] [.ref x0] (G, F, I, J) b post px := ip_nx_iff ((ip_st_of f88_0).trans rfl)
theorem f88_1 : ip_fetch 88 1 = some (.getfield 15, 3) := by decide +kernel
set_option maxRecDepth 100000 in
theorem s88_1 {x0 : Nat} {s0 : Nat} : ip_WP 88 1 [some (.ref x0)] [.ref s0] (G, F, I, J) b post px ↔ (ip_isO G s0 2 = true ∧ ip_WP 88 4 [some (.ref x0)] [F s0 1] (G, F, I, J) b post px) := ip_s_getf f88_1 (by decide +kernel)
theorem f88_4 : ip_fetch 88 4 = some (.ireturn, 1) := by decide +kernel
theorem s88_4 {x0 : Nat} {s0 : Int32} : ip_WP 88 4 [some (.ref x0)] [.int s0] (G, F, I, J) b post px ↔ post (some (.int s0)) (G, F, I, J) := ip_rt_iff ((ip_st_of f88_4).trans rfl)
theorem f89_0 : ip_fetch 89 0 = some (.iload_n 1, 1) := by decide +kernel
theorem s89_0 {x0 : Nat} {x1 : Int32} : ip_WP 89 0 [some (.ref x0), some (.int x1)] [] (G, F, I, J) b post px ↔ ip_WP 89 1 [some (.ref x0), some (.int x1)] [.int x1] (G, F, I, J) b post px := ip_nx_iff ((ip_st_of f89_0).trans rfl)
theorem f89_1 : ip_fetch 89 1 = some (.ifCond .lt 24, 3) := by decide +kernel
theorem s89_1 {x0 : Nat} {x1 : Int32} {s0 : Int32} : ip_WP 89 1 [some (.ref x0), some (.int x1)] [.int s0] (G, F, I, J) b post px ↔ if s0 < 0 then ip_WP 89 25 [some (.ref x0), some (.int x1)] [] (G, F, I, J) b post px else ip_WP 89 4 [some (.ref x0), some (.int x1)] [] (G, F, I, J) b post px := ip_s_if_lt f89_1 rfl
theorem f89_4 : ip_fetch 89 4 = some (.iload_n 1, 1) := by decide +kernel
theorem s89_4 {x0 : Nat} {x1 : Int32} : ip_WP 89 4 [some (.ref x0), some (.int x1)] [] (G, F, I, J) b post px ↔ ip_WP 89 5 [some (.ref x0), some (.int x1)] [.int x1] (G, F, I, J) b post px := ip_nx_iff ((ip_st_of f89_4).trans rfl)
theorem f89_5 : ip_fetch 89 5 = some (.aload_n 0, 1) := by decide +kernel
theorem s89_5 {x0 : Nat} {x1 : Int32} {s0 : Int32} : ip_WP 89 5 [some (.ref x0), some (.int x1)] [.int s0] (G, F, I, J) b post px ↔ ip_WP 89 6 [some (.ref x0), some (.int x1)] [.ref x0, .int s0] (G, F, I, J) b post px := ip_nx_iff ((ip_st_of f89_5).trans rfl)
theorem f89_6 : ip_fetch 89 6 = some (.getfield 15, 3) := by decide +kernel
set_option maxRecDepth 100000 in
theorem s89_6 {x0 : Nat} {x1 : Int32} {s0 : Int32} {s1 : Nat} : ip_WP 89 6 [some (.ref x0), some (.int x1)] [.ref s1, .int s0] (G, F, I, J) b post px ↔ (ip_isO G s1 2 = true ∧ ip_WP 89 9 [some (.ref x0), some (.int x1)] [F s1 1, .int s0] (G, F, I, J) b post px) := ip_s_getf f89_6 (by decide +kernel)
theorem f89_9 : ip_fetch 89 9 = some (.if_icmp .ge 16, 3) := by decide +kernel
theorem s89_9 {x0 : Nat} {x1 : Int32} {s0 : Int32} {s1 : Int32} : ip_WP 89 9 [some (.ref x0), some (.int x1)] [.int s1, .int s0] (G, F, I, J) b post px ↔ if s1 ≤ s0 then ip_WP 89 25 [some (.ref x0), some (.int x1)] [] (G, F, I, J) b post px else ip_WP 89 12 [some (.ref x0), some (.int x1)] [] (G, F, I, J) b post px := ip_s_ic_ge f89_9 rfl
theorem f89_12 : ip_fetch 89 12 = some (.aload_n 0, 1) := by decide +kernel
theorem s89_12 {x0 : Nat} {x1 : Int32} : ip_WP 89 12 [some (.ref x0), some (.int x1)] [] (G, F, I, J) b post px ↔ ip_WP 89 13 [some (.ref x0), some (.int x1)] [.ref x0] (G, F, I, J) b post px := ip_nx_iff ((ip_st_of f89_12).trans rfl)
theorem f89_13 : ip_fetch 89 13 = some (.getfield 11, 3) := by decide +kernel
set_option maxRecDepth 100000 in
theorem s89_13 {x0 : Nat} {x1 : Int32} {s0 : Nat} : ip_WP 89 13 [some (.ref x0), some (.int x1)] [.ref s0] (G, F, I, J) b post px ↔ (ip_isO G s0 2 = true ∧ ip_WP 89 16 [some (.ref x0), some (.int x1)] [F s0 0] (G, F, I, J) b post px) := ip_s_getf f89_13 (by decide +kernel)
theorem f89_16 : ip_fetch 89 16 = some (.iload_n 1, 1) := by decide +kernel
theorem s89_16 {x0 : Nat} {x1 : Int32} {s0 : Nat} : ip_WP 89 16 [some (.ref x0), some (.int x1)] [.ref s0] (G, F, I, J) b post px ↔ ip_WP 89 17 [some (.ref x0), some (.int x1)] [.int x1, .ref s0] (G, F, I, J) b post px := ip_nx_iff ((ip_st_of f89_16).trans rfl)
theorem f89_17 : ip_fetch 89 17 = some (.baload, 1) := by decide +kernel
theorem s89_17 {x0 : Nat} {x1 : Int32} {s0 : Nat} {s1 : Int32} : ip_WP 89 17 [some (.ref x0), some (.int x1)] [.int s1, .ref s0] (G, F, I, J) b post px ↔ ((ip_inA G s0 1 s1 || ip_inA G s0 3 s1) = true ∧ ip_WP 89 18 [some (.ref x0), some (.int x1)] [.int (I s0 s1.toNatClampNeg)] (G, F, I, J) b post px) := ip_ck_iff ((ip_st_of f89_17).trans rfl) ip_nx_iff
theorem f89_18 : ip_fetch 89 18 = some (.sipush 255, 3) := by decide +kernel
theorem s89_18 {x0 : Nat} {x1 : Int32} {s0 : Int32} : ip_WP 89 18 [some (.ref x0), some (.int x1)] [.int s0] (G, F, I, J) b post px ↔ ip_WP 89 21 [some (.ref x0), some (.int x1)] [.int 255, .int s0] (G, F, I, J) b post px := ip_s_sipush f89_18 (by decide)
theorem f89_21 : ip_fetch 89 21 = some (.iand, 1) := by decide +kernel
theorem s89_21 {x0 : Nat} {x1 : Int32} {s0 : Int32} {s1 : Int32} : ip_WP 89 21 [some (.ref x0), some (.int x1)] [.int s1, .int s0] (G, F, I, J) b post px ↔ ip_WP 89 22 [some (.ref x0), some (.int x1)] [.int (s0 &&& s1)] (G, F, I, J) b post px := ip_nx_iff ((ip_st_of f89_21).trans rfl)
theorem f89_22 : ip_fetch 89 22 = some (.goto 4, 3) := by decide +kernel
theorem s89_22 {x0 : Nat} {x1 : Int32} {s0 : Int32} : ip_WP 89 22 [some (.ref x0), some (.int x1)] [.int s0] (G, F, I, J) b post px ↔ ip_WP 89 26 [some (.ref x0), some (.int x1)] [.int s0] (G, F, I, J) b post px := ip_nx_iff ((ip_st_of f89_22).trans rfl)
theorem f89_25 : ip_fetch 89 25 = some (.iconst (-1), 1) := by decide +kernel
theorem s89_25 {x0 : Nat} {x1 : Int32} : ip_WP 89 25 [some (.ref x0), some (.int x1)] [] (G, F, I, J) b post px ↔ ip_WP 89 26 [some (.ref x0), some (.int x1)] [.int (-1)] (G, F, I, J) b post px := ip_s_iconst f89_25 (by decide)
theorem f89_26 : ip_fetch 89 26 = some (.ireturn, 1) := by decide +kernel
theorem s89_26 {x0 : Nat} {x1 : Int32} {s0 : Int32} : ip_WP 89 26 [some (.ref x0), some (.int x1)] [.int s0] (G, F, I, J) b post px ↔ post (some (.int s0)) (G, F, I, J) := ip_rt_iff ((ip_st_of f89_26).trans rfl)
theorem f90_0 : ip_fetch 90 0 = some (.aload_n 0, 1) := by decide +kernel
theorem s90_0 {x0 : Nat} : ip_WP 90 0 [some (.ref x0)] [] (G, F, I, J) b post px ↔ ip_WP 90 1 [some (.ref x0)] [.ref x0] (G, F, I, J) b post px := ip_nx_iff ((ip_st_of f90_0).trans rfl)
theorem f90_1 : ip_fetch 90 1 = some (.iconst 0, 1) := by decide +kernel
theorem s90_1 {x0 : Nat} {s0 : Nat} : ip_WP 90 1 [some (.ref x0)] [.ref s0] (G, F, I, J) b post px ↔ ip_WP 90 2 [some (.ref x0)] [.int 0, .ref s0] (G, F, I, J) b post px := ip_s_iconst f90_1 (by decide)
theorem f90_2 : ip_fetch 90 2 = some (.putfield 15, 3) := by decide +kernel
set_option maxRecDepth 100000 in
theorem s90_2 {x0 : Nat} {s0 : Nat} {s1 : Int32} : ip_WP 90 2 [some (.ref x0)] [.int s1, .ref s0] (G, F, I, J) b post px ↔ (ip_isO G s0 2 = true ∧ ip_WP 90 5 [some (.ref x0)] [] (G, ip_up F s0 1 (.int s1), I, J) b post px) := ip_s_put f90_2 (by decide +kernel) rfl
theorem f90_5 : ip_fetch 90 5 = some (.return_, 1) := by decide +kernel
theorem s90_5 {x0 : Nat} : ip_WP 90 5 [some (.ref x0)] [] (G, F, I, J) b post px ↔ post none (G, F, I, J) := ip_rt_iff ((ip_st_of f90_5).trans rfl)
theorem f91_0 : ip_fetch 91 0 = some (.aload_n 0, 1) := by decide +kernel
theorem s91_0 {x0 : Nat} {x1 : Int32} : ip_WP 91 0 [some (.ref x0), some (.int x1)] [] (G, F, I, J) b post px ↔ ip_WP 91 1 [some (.ref x0), some (.int x1)] [.ref x0] (G, F, I, J) b post px := ip_nx_iff ((ip_st_of f91_0).trans rfl)
theorem f91_1 : ip_fetch 91 1 = some (.getfield 15, 3) := by decide +kernel
set_option maxRecDepth 100000 in
theorem s91_1 {x0 : Nat} {x1 : Int32} {s0 : Nat} : ip_WP 91 1 [some (.ref x0), some (.int x1)] [.ref s0] (G, F, I, J) b post px ↔ (ip_isO G s0 2 = true ∧ ip_WP 91 4 [some (.ref x0), some (.int x1)] [F s0 1] (G, F, I, J) b post px) := ip_s_getf f91_1 (by decide +kernel)
theorem f91_4 : ip_fetch 91 4 = some (.sipush 4160, 3) := by decide +kernel
theorem s91_4 {x0 : Nat} {x1 : Int32} {s0 : Int32} : ip_WP 91 4 [some (.ref x0), some (.int x1)] [.int s0] (G, F, I, J) b post px ↔ ip_WP 91 7 [some (.ref x0), some (.int x1)] [.int 4160, .int s0] (G, F, I, J) b post px := ip_s_sipush f91_4 (by decide)
theorem f91_7 : ip_fetch 91 7 = some (.if_icmp .ge 24, 3) := by decide +kernel
theorem s91_7 {x0 : Nat} {x1 : Int32} {s0 : Int32} {s1 : Int32} : ip_WP 91 7 [some (.ref x0), some (.int x1)] [.int s1, .int s0] (G, F, I, J) b post px ↔ if s1 ≤ s0 then ip_WP 91 31 [some (.ref x0), some (.int x1)] [] (G, F, I, J) b post px else ip_WP 91 10 [some (.ref x0), some (.int x1)] [] (G, F, I, J) b post px := ip_s_ic_ge f91_7 rfl
theorem f91_10 : ip_fetch 91 10 = some (.aload_n 0, 1) := by decide +kernel
theorem s91_10 {x0 : Nat} {x1 : Int32} : ip_WP 91 10 [some (.ref x0), some (.int x1)] [] (G, F, I, J) b post px ↔ ip_WP 91 11 [some (.ref x0), some (.int x1)] [.ref x0] (G, F, I, J) b post px := ip_nx_iff ((ip_st_of f91_10).trans rfl)
theorem f91_11 : ip_fetch 91 11 = some (.getfield 11, 3) := by decide +kernel
set_option maxRecDepth 100000 in
theorem s91_11 {x0 : Nat} {x1 : Int32} {s0 : Nat} : ip_WP 91 11 [some (.ref x0), some (.int x1)] [.ref s0] (G, F, I, J) b post px ↔ (ip_isO G s0 2 = true ∧ ip_WP 91 14 [some (.ref x0), some (.int x1)] [F s0 0] (G, F, I, J) b post px) := ip_s_getf f91_11 (by decide +kernel)
theorem f91_14 : ip_fetch 91 14 = some (.aload_n 0, 1) := by decide +kernel
theorem s91_14 {x0 : Nat} {x1 : Int32} {s0 : Nat} : ip_WP 91 14 [some (.ref x0), some (.int x1)] [.ref s0] (G, F, I, J) b post px ↔ ip_WP 91 15 [some (.ref x0), some (.int x1)] [.ref x0, .ref s0] (G, F, I, J) b post px := ip_nx_iff ((ip_st_of f91_14).trans rfl)
theorem f91_15 : ip_fetch 91 15 = some (.getfield 15, 3) := by decide +kernel
set_option maxRecDepth 100000 in
theorem s91_15 {x0 : Nat} {x1 : Int32} {s0 : Nat} {s1 : Nat} : ip_WP 91 15 [some (.ref x0), some (.int x1)] [.ref s1, .ref s0] (G, F, I, J) b post px ↔ (ip_isO G s1 2 = true ∧ ip_WP 91 18 [some (.ref x0), some (.int x1)] [F s1 1, .ref s0] (G, F, I, J) b post px) := ip_s_getf f91_15 (by decide +kernel)
theorem f91_18 : ip_fetch 91 18 = some (.iload_n 1, 1) := by decide +kernel
theorem s91_18 {x0 : Nat} {x1 : Int32} {s0 : Nat} {s1 : Int32} : ip_WP 91 18 [some (.ref x0), some (.int x1)] [.int s1, .ref s0] (G, F, I, J) b post px ↔ ip_WP 91 19 [some (.ref x0), some (.int x1)] [.int x1, .int s1, .ref s0] (G, F, I, J) b post px := ip_nx_iff ((ip_st_of f91_18).trans rfl)
theorem f91_19 : ip_fetch 91 19 = some (.i2b, 1) := by decide +kernel
theorem s91_19 {x0 : Nat} {x1 : Int32} {s0 : Nat} {s1 : Int32} {s2 : Int32} : ip_WP 91 19 [some (.ref x0), some (.int x1)] [.int s2, .int s1, .ref s0] (G, F, I, J) b post px ↔ ip_WP 91 20 [some (.ref x0), some (.int x1)] [.int s2.toInt8.toInt32, .int s1, .ref s0] (G, F, I, J) b post px := ip_nx_iff ((ip_st_of f91_19).trans rfl)
theorem f91_20 : ip_fetch 91 20 = some (.bastore, 1) := by decide +kernel
theorem s91_20 {x0 : Nat} {x1 : Int32} {s0 : Nat} {s1 : Int32} {s2 : Int32} : ip_WP 91 20 [some (.ref x0), some (.int x1)] [.int s2, .int s1, .ref s0] (G, F, I, J) b post px ↔ if ip_inA G s0 1 s1 = true then ip_WP 91 21 [some (.ref x0), some (.int x1)] [] (G, F, ip_up I s0 s1.toNatClampNeg (vp_nar .byte s2), J) b post px else (ip_inA G s0 3 s1 = true ∧ ip_WP 91 21 [some (.ref x0), some (.int x1)] [] (G, F, ip_up I s0 s1.toNatClampNeg (vp_nar .boolean s2), J) b post px) := ip_if_iff ((ip_st_of f91_20).trans rfl) ip_nx_iff (fun hs => ip_ck_iff hs ip_nx_iff)
theorem f91_21 : ip_fetch 91 21 = some (.aload_n 0, 1) := by decide +kernel
theorem s91_21 {x0 : Nat} {x1 : Int32} : ip_WP 91 21 [some (.ref x0), some (.int x1)] [] (G, F, I, J) b post px ↔ ip_WP 91 22 [some (.ref x0), some (.int x1)] [.ref x0] (G, F, I, J) b post px := ip_nx_iff ((ip_st_of f91_21).trans rfl)
theorem f91_22 : ip_fetch 91 22 = some (.dup, 1) := by decide +kernel
theorem s91_22 {x0 : Nat} {x1 : Int32} {s0 : Nat} : ip_WP 91 22 [some (.ref x0), some (.int x1)] [.ref s0] (G, F, I, J) b post px ↔ ip_WP 91 23 [some (.ref x0), some (.int x1)] [.ref s0, .ref s0] (G, F, I, J) b post px := ip_nx_iff ((ip_st_of f91_22).trans rfl)
theorem f91_23 : ip_fetch 91 23 = some (.getfield 15, 3) := by decide +kernel
set_option maxRecDepth 100000 in
theorem s91_23 {x0 : Nat} {x1 : Int32} {s0 : Nat} {s1 : Nat} : ip_WP 91 23 [some (.ref x0), some (.int x1)] [.ref s1, .ref s0] (G, F, I, J) b post px ↔ (ip_isO G s1 2 = true ∧ ip_WP 91 26 [some (.ref x0), some (.int x1)] [F s1 1, .ref s0] (G, F, I, J) b post px) := ip_s_getf f91_23 (by decide +kernel)
theorem f91_26 : ip_fetch 91 26 = some (.iconst 1, 1) := by decide +kernel
theorem s91_26 {x0 : Nat} {x1 : Int32} {s0 : Nat} {s1 : Int32} : ip_WP 91 26 [some (.ref x0), some (.int x1)] [.int s1, .ref s0] (G, F, I, J) b post px ↔ ip_WP 91 27 [some (.ref x0), some (.int x1)] [.int 1, .int s1, .ref s0] (G, F, I, J) b post px := ip_s_iconst f91_26 (by decide)
theorem f91_27 : ip_fetch 91 27 = some (.iadd, 1) := by decide +kernel
theorem s91_27 {x0 : Nat} {x1 : Int32} {s0 : Nat} {s1 : Int32} {s2 : Int32} : ip_WP 91 27 [some (.ref x0), some (.int x1)] [.int s2, .int s1, .ref s0] (G, F, I, J) b post px ↔ ip_WP 91 28 [some (.ref x0), some (.int x1)] [.int (s1 + s2), .ref s0] (G, F, I, J) b post px := ip_nx_iff ((ip_st_of f91_27).trans rfl)
theorem f91_28 : ip_fetch 91 28 = some (.putfield 15, 3) := by decide +kernel
set_option maxRecDepth 100000 in
theorem s91_28 {x0 : Nat} {x1 : Int32} {s0 : Nat} {s1 : Int32} : ip_WP 91 28 [some (.ref x0), some (.int x1)] [.int s1, .ref s0] (G, F, I, J) b post px ↔ (ip_isO G s0 2 = true ∧ ip_WP 91 31 [some (.ref x0), some (.int x1)] [] (G, ip_up F s0 1 (.int s1), I, J) b post px) := ip_s_put f91_28 (by decide +kernel) rfl
theorem f91_31 : ip_fetch 91 31 = some (.return_, 1) := by decide +kernel
theorem s91_31 {x0 : Nat} {x1 : Int32} : ip_WP 91 31 [some (.ref x0), some (.int x1)] [] (G, F, I, J) b post px ↔ post none (G, F, I, J) := ip_rt_iff ((ip_st_of f91_31).trans rfl)
theorem f92_0 : ip_fetch 92 0 = some (.bipush 24, 2) := by decide +kernel
theorem s92_0 {x0 : Nat} {x1 : Int32} {x2 : Option Value} : ip_WP 92 0 [some (.ref x0), some (.int x1), x2] [] (G, F, I, J) b post px ↔ ip_WP 92 2 [some (.ref x0), some (.int x1), x2] [.int 24] (G, F, I, J) b post px := ip_s_bipush f92_0 (by decide)
theorem f92_2 : ip_fetch 92 2 = some (.istore_n 2, 1) := by decide +kernel
theorem s92_2 {x0 : Nat} {x1 : Int32} {x2 : Option Value} {s0 : Int32} : ip_WP 92 2 [some (.ref x0), some (.int x1), x2] [.int s0] (G, F, I, J) b post px ↔ ip_WP 92 3 [some (.ref x0), some (.int x1), some (.int s0)] [] (G, F, I, J) b post px := ip_nx_iff ((ip_st_of f92_2).trans rfl)
theorem f92_3 : ip_fetch 92 3 = some (.iload_n 2, 1) := by decide +kernel
theorem s92_3 {x0 : Nat} {x1 : Int32} {x2 : Int32} : ip_WP 92 3 [some (.ref x0), some (.int x1), some (.int x2)] [] (G, F, I, J) b post px ↔ ip_WP 92 4 [some (.ref x0), some (.int x1), some (.int x2)] [.int x2] (G, F, I, J) b post px := ip_nx_iff ((ip_st_of f92_3).trans rfl)
theorem f92_4 : ip_fetch 92 4 = some (.ifCond .lt 16, 3) := by decide +kernel
theorem s92_4 {x0 : Nat} {x1 : Int32} {x2 : Int32} {s0 : Int32} : ip_WP 92 4 [some (.ref x0), some (.int x1), some (.int x2)] [.int s0] (G, F, I, J) b post px ↔ if s0 < 0 then ip_WP 92 20 [some (.ref x0), some (.int x1), some (.int x2)] [] (G, F, I, J) b post px else ip_WP 92 7 [some (.ref x0), some (.int x1), some (.int x2)] [] (G, F, I, J) b post px := ip_s_if_lt f92_4 rfl
theorem f92_7 : ip_fetch 92 7 = some (.aload_n 0, 1) := by decide +kernel
theorem s92_7 {x0 : Nat} {x1 : Int32} {x2 : Int32} : ip_WP 92 7 [some (.ref x0), some (.int x1), some (.int x2)] [] (G, F, I, J) b post px ↔ ip_WP 92 8 [some (.ref x0), some (.int x1), some (.int x2)] [.ref x0] (G, F, I, J) b post px := ip_nx_iff ((ip_st_of f92_7).trans rfl)
theorem f92_8 : ip_fetch 92 8 = some (.iload_n 1, 1) := by decide +kernel
theorem s92_8 {x0 : Nat} {x1 : Int32} {x2 : Int32} {s0 : Nat} : ip_WP 92 8 [some (.ref x0), some (.int x1), some (.int x2)] [.ref s0] (G, F, I, J) b post px ↔ ip_WP 92 9 [some (.ref x0), some (.int x1), some (.int x2)] [.int x1, .ref s0] (G, F, I, J) b post px := ip_nx_iff ((ip_st_of f92_8).trans rfl)
theorem f92_9 : ip_fetch 92 9 = some (.iload_n 2, 1) := by decide +kernel
theorem s92_9 {x0 : Nat} {x1 : Int32} {x2 : Int32} {s0 : Nat} {s1 : Int32} : ip_WP 92 9 [some (.ref x0), some (.int x1), some (.int x2)] [.int s1, .ref s0] (G, F, I, J) b post px ↔ ip_WP 92 10 [some (.ref x0), some (.int x1), some (.int x2)] [.int x2, .int s1, .ref s0] (G, F, I, J) b post px := ip_nx_iff ((ip_st_of f92_9).trans rfl)
theorem f92_10 : ip_fetch 92 10 = some (.iushr, 1) := by decide +kernel
theorem s92_10 {x0 : Nat} {x1 : Int32} {x2 : Int32} {s0 : Nat} {s1 : Int32} {s2 : Int32} : ip_WP 92 10 [some (.ref x0), some (.int x1), some (.int x2)] [.int s2, .int s1, .ref s0] (G, F, I, J) b post px ↔ ip_WP 92 11 [some (.ref x0), some (.int x1), some (.int x2)] [.int (s1.toUInt32 >>> (s2.toUInt32 &&& Int32.toUInt32 31)).toInt32, .ref s0] (G, F, I, J) b post px := ip_nx_iff ((ip_st_of f92_10).trans rfl)
theorem f92_11 : ip_fetch 92 11 = some (.invokevirtual 19, 3) := by decide +kernel
set_option maxRecDepth 100000 in
theorem s92_11 {x0 : Nat} {x1 : Int32} {x2 : Int32} {s0 : Nat} {s1 : Int32} : ip_WP 92 11 [some (.ref x0), some (.int x1), some (.int x2)] [.int s1, .ref s0] (G, F, I, J) b post px ↔ (ip_isO G s0 2 = true ∧ ip_WP 91 0 [some (.ref s0), some (.int s1)] [] (G, F, I, J) (0, 0) (fun r h' => ip_WP 92 14 [some (.ref x0), some (.int x1), some (.int x2)] (r.toList ++ []) h' b post px) (fun _ _ => False)) := ip_ck_iff (x := ip_cl 91 [some (.ref s0), some (.int s1)] [] (0, 0) b) ((ip_st_of f92_11).trans rfl) (ip_cl_iff)
theorem f92_14 : ip_fetch 92 14 = some (.iinc 2 (-8), 3) := by decide +kernel
theorem s92_14 {x0 : Nat} {x1 : Int32} {x2 : Int32} : ip_WP 92 14 [some (.ref x0), some (.int x1), some (.int x2)] [] (G, F, I, J) b post px ↔ ip_WP 92 17 [some (.ref x0), some (.int x1), some (.int (x2 + (-8)))] [] (G, F, I, J) b post px := ip_s_iinc f92_14 rfl (by decide)
theorem f92_17 : ip_fetch 92 17 = some (.goto (-14), 3) := by decide +kernel
theorem s92_17 {x0 : Nat} {x1 : Int32} {x2 : Int32} : ip_WP 92 17 [some (.ref x0), some (.int x1), some (.int x2)] [] (G, F, I, J) b post px ↔ ip_WP 92 3 [some (.ref x0), some (.int x1), some (.int x2)] [] (G, F, I, J) b post px := ip_nx_iff ((ip_st_of f92_17).trans rfl)
theorem f92_20 : ip_fetch 92 20 = some (.return_, 1) := by decide +kernel
theorem s92_20 {x0 : Nat} {x1 : Int32} {x2 : Int32} : ip_WP 92 20 [some (.ref x0), some (.int x1), some (.int x2)] [] (G, F, I, J) b post px ↔ post none (G, F, I, J) := ip_rt_iff ((ip_st_of f92_20).trans rfl)
theorem f93_0 : ip_fetch 93 0 = some (.iconst 0, 1) := by decide +kernel
theorem s93_0 {x0 : Nat} {x1 : Nat} {x2 : Option Value} : ip_WP 93 0 [some (.ref x0), some (.ref x1), x2] [] (G, F, I, J) b post px ↔ ip_WP 93 1 [some (.ref x0), some (.ref x1), x2] [.int 0] (G, F, I, J) b post px := ip_s_iconst f93_0 (by decide)
theorem f93_1 : ip_fetch 93 1 = some (.istore_n 2, 1) := by decide +kernel
theorem s93_1 {x0 : Nat} {x1 : Nat} {x2 : Option Value} {s0 : Int32} : ip_WP 93 1 [some (.ref x0), some (.ref x1), x2] [.int s0] (G, F, I, J) b post px ↔ ip_WP 93 2 [some (.ref x0), some (.ref x1), some (.int s0)] [] (G, F, I, J) b post px := ip_nx_iff ((ip_st_of f93_1).trans rfl)
theorem f93_2 : ip_fetch 93 2 = some (.iload_n 2, 1) := by decide +kernel
theorem s93_2 {x0 : Nat} {x1 : Nat} {x2 : Int32} : ip_WP 93 2 [some (.ref x0), some (.ref x1), some (.int x2)] [] (G, F, I, J) b post px ↔ ip_WP 93 3 [some (.ref x0), some (.ref x1), some (.int x2)] [.int x2] (G, F, I, J) b post px := ip_nx_iff ((ip_st_of f93_2).trans rfl)
theorem f93_3 : ip_fetch 93 3 = some (.aload_n 1, 1) := by decide +kernel
theorem s93_3 {x0 : Nat} {x1 : Nat} {x2 : Int32} {s0 : Int32} : ip_WP 93 3 [some (.ref x0), some (.ref x1), some (.int x2)] [.int s0] (G, F, I, J) b post px ↔ ip_WP 93 4 [some (.ref x0), some (.ref x1), some (.int x2)] [.ref x1, .int s0] (G, F, I, J) b post px := ip_nx_iff ((ip_st_of f93_3).trans rfl)
theorem f93_4 : ip_fetch 93 4 = some (.invokevirtual 23, 3) := by decide +kernel
set_option maxRecDepth 100000 in
theorem s93_4 {x0 : Nat} {x1 : Nat} {x2 : Int32} {s0 : Int32} {s1 : Nat} : ip_WP 93 4 [some (.ref x0), some (.ref x1), some (.int x2)] [.ref s1, .int s0] (G, F, I, J) b post px ↔ ip_on (ip_slen s1) (fun n => ip_WP 93 7 [some (.ref x0), some (.ref x1), some (.int x2)] [.int (Int32.ofNat n), .int s0] (G, F, I, J) b post px) := ip_s_slen f93_4 rfl (Nat.le_of_ble_eq_true rfl)
theorem f93_7 : ip_fetch 93 7 = some (.if_icmp .ge 18, 3) := by decide +kernel
theorem s93_7 {x0 : Nat} {x1 : Nat} {x2 : Int32} {s0 : Int32} {s1 : Int32} : ip_WP 93 7 [some (.ref x0), some (.ref x1), some (.int x2)] [.int s1, .int s0] (G, F, I, J) b post px ↔ if s1 ≤ s0 then ip_WP 93 25 [some (.ref x0), some (.ref x1), some (.int x2)] [] (G, F, I, J) b post px else ip_WP 93 10 [some (.ref x0), some (.ref x1), some (.int x2)] [] (G, F, I, J) b post px := ip_s_ic_ge f93_7 rfl
theorem f93_10 : ip_fetch 93 10 = some (.aload_n 0, 1) := by decide +kernel
theorem s93_10 {x0 : Nat} {x1 : Nat} {x2 : Int32} : ip_WP 93 10 [some (.ref x0), some (.ref x1), some (.int x2)] [] (G, F, I, J) b post px ↔ ip_WP 93 11 [some (.ref x0), some (.ref x1), some (.int x2)] [.ref x0] (G, F, I, J) b post px := ip_nx_iff ((ip_st_of f93_10).trans rfl)
theorem f93_11 : ip_fetch 93 11 = some (.aload_n 1, 1) := by decide +kernel
theorem s93_11 {x0 : Nat} {x1 : Nat} {x2 : Int32} {s0 : Nat} : ip_WP 93 11 [some (.ref x0), some (.ref x1), some (.int x2)] [.ref s0] (G, F, I, J) b post px ↔ ip_WP 93 12 [some (.ref x0), some (.ref x1), some (.int x2)] [.ref x1, .ref s0] (G, F, I, J) b post px := ip_nx_iff ((ip_st_of f93_11).trans rfl)
theorem f93_12 : ip_fetch 93 12 = some (.iload_n 2, 1) := by decide +kernel
theorem s93_12 {x0 : Nat} {x1 : Nat} {x2 : Int32} {s0 : Nat} {s1 : Nat} : ip_WP 93 12 [some (.ref x0), some (.ref x1), some (.int x2)] [.ref s1, .ref s0] (G, F, I, J) b post px ↔ ip_WP 93 13 [some (.ref x0), some (.ref x1), some (.int x2)] [.int x2, .ref s1, .ref s0] (G, F, I, J) b post px := ip_nx_iff ((ip_st_of f93_12).trans rfl)
theorem f93_13 : ip_fetch 93 13 = some (.invokevirtual 29, 3) := by decide +kernel
set_option maxRecDepth 100000 in
theorem s93_13 {x0 : Nat} {x1 : Nat} {x2 : Int32} {s0 : Nat} {s1 : Nat} {s2 : Int32} : ip_WP 93 13 [some (.ref x0), some (.ref x1), some (.int x2)] [.int s2, .ref s1, .ref s0] (G, F, I, J) b post px ↔ ip_on (ip_sch s1 s2) (fun c => ip_WP 93 16 [some (.ref x0), some (.ref x1), some (.int x2)] [.int c, .ref s0] (G, F, I, J) b post px) := ip_s_sch f93_13 rfl (Nat.le_of_ble_eq_true rfl)
theorem f93_16 : ip_fetch 93 16 = some (.invokevirtual 19, 3) := by decide +kernel
set_option maxRecDepth 100000 in
theorem s93_16 {x0 : Nat} {x1 : Nat} {x2 : Int32} {s0 : Nat} {s1 : Int32} : ip_WP 93 16 [some (.ref x0), some (.ref x1), some (.int x2)] [.int s1, .ref s0] (G, F, I, J) b post px ↔ (ip_isO G s0 2 = true ∧ ip_WP 91 0 [some (.ref s0), some (.int s1)] [] (G, F, I, J) (0, 0) (fun r h' => ip_WP 93 19 [some (.ref x0), some (.ref x1), some (.int x2)] (r.toList ++ []) h' b post px) (fun _ _ => False)) := ip_ck_iff (x := ip_cl 91 [some (.ref s0), some (.int s1)] [] (0, 0) b) ((ip_st_of f93_16).trans rfl) (ip_cl_iff)
theorem f93_19 : ip_fetch 93 19 = some (.iinc 2 1, 3) := by decide +kernel
theorem s93_19 {x0 : Nat} {x1 : Nat} {x2 : Int32} : ip_WP 93 19 [some (.ref x0), some (.ref x1), some (.int x2)] [] (G, F, I, J) b post px ↔ ip_WP 93 22 [some (.ref x0), some (.ref x1), some (.int (x2 + 1))] [] (G, F, I, J) b post px := ip_s_iinc f93_19 rfl (by decide)
theorem f93_22 : ip_fetch 93 22 = some (.goto (-20), 3) := by decide +kernel
theorem s93_22 {x0 : Nat} {x1 : Nat} {x2 : Int32} : ip_WP 93 22 [some (.ref x0), some (.ref x1), some (.int x2)] [] (G, F, I, J) b post px ↔ ip_WP 93 2 [some (.ref x0), some (.ref x1), some (.int x2)] [] (G, F, I, J) b post px := ip_nx_iff ((ip_st_of f93_22).trans rfl)
theorem f93_25 : ip_fetch 93 25 = some (.return_, 1) := by decide +kernel
theorem s93_25 {x0 : Nat} {x1 : Nat} {x2 : Int32} : ip_WP 93 25 [some (.ref x0), some (.ref x1), some (.int x2)] [] (G, F, I, J) b post px ↔ post none (G, F, I, J) := ip_rt_iff ((ip_st_of f93_25).trans rfl)
theorem f94_0 : ip_fetch 94 0 = some (.iload_n 1, 1) := by decide +kernel
theorem s94_0 {x0 : Nat} {x1 : Int32} : ip_WP 94 0 [some (.ref x0), some (.int x1)] [] (G, F, I, J) b post px ↔ ip_WP 94 1 [some (.ref x0), some (.int x1)] [.int x1] (G, F, I, J) b post px := ip_nx_iff ((ip_st_of f94_0).trans rfl)
theorem f94_1 : ip_fetch 94 1 = some (.ifCond .lt 21, 3) := by decide +kernel
theorem s94_1 {x0 : Nat} {x1 : Int32} {s0 : Int32} : ip_WP 94 1 [some (.ref x0), some (.int x1)] [.int s0] (G, F, I, J) b post px ↔ if s0 < 0 then ip_WP 94 22 [some (.ref x0), some (.int x1)] [] (G, F, I, J) b post px else ip_WP 94 4 [some (.ref x0), some (.int x1)] [] (G, F, I, J) b post px := ip_s_if_lt f94_1 rfl
theorem f94_4 : ip_fetch 94 4 = some (.iload_n 1, 1) := by decide +kernel
theorem s94_4 {x0 : Nat} {x1 : Int32} : ip_WP 94 4 [some (.ref x0), some (.int x1)] [] (G, F, I, J) b post px ↔ ip_WP 94 5 [some (.ref x0), some (.int x1)] [.int x1] (G, F, I, J) b post px := ip_nx_iff ((ip_st_of f94_4).trans rfl)
theorem f94_5 : ip_fetch 94 5 = some (.aload_n 0, 1) := by decide +kernel
theorem s94_5 {x0 : Nat} {x1 : Int32} {s0 : Int32} : ip_WP 94 5 [some (.ref x0), some (.int x1)] [.int s0] (G, F, I, J) b post px ↔ ip_WP 94 6 [some (.ref x0), some (.int x1)] [.ref x0, .int s0] (G, F, I, J) b post px := ip_nx_iff ((ip_st_of f94_5).trans rfl)
theorem f94_6 : ip_fetch 94 6 = some (.getfield 15, 3) := by decide +kernel
set_option maxRecDepth 100000 in
theorem s94_6 {x0 : Nat} {x1 : Int32} {s0 : Int32} {s1 : Nat} : ip_WP 94 6 [some (.ref x0), some (.int x1)] [.ref s1, .int s0] (G, F, I, J) b post px ↔ (ip_isO G s1 2 = true ∧ ip_WP 94 9 [some (.ref x0), some (.int x1)] [F s1 1, .int s0] (G, F, I, J) b post px) := ip_s_getf f94_6 (by decide +kernel)
theorem f94_9 : ip_fetch 94 9 = some (.if_icmp .gt 13, 3) := by decide +kernel
theorem s94_9 {x0 : Nat} {x1 : Int32} {s0 : Int32} {s1 : Int32} : ip_WP 94 9 [some (.ref x0), some (.int x1)] [.int s1, .int s0] (G, F, I, J) b post px ↔ if s1 < s0 then ip_WP 94 22 [some (.ref x0), some (.int x1)] [] (G, F, I, J) b post px else ip_WP 94 12 [some (.ref x0), some (.int x1)] [] (G, F, I, J) b post px := ip_s_ic_gt f94_9 rfl
theorem f94_12 : ip_fetch 94 12 = some (.aload_n 0, 1) := by decide +kernel
theorem s94_12 {x0 : Nat} {x1 : Int32} : ip_WP 94 12 [some (.ref x0), some (.int x1)] [] (G, F, I, J) b post px ↔ ip_WP 94 13 [some (.ref x0), some (.int x1)] [.ref x0] (G, F, I, J) b post px := ip_nx_iff ((ip_st_of f94_12).trans rfl)
theorem f94_13 : ip_fetch 94 13 = some (.dup, 1) := by decide +kernel
theorem s94_13 {x0 : Nat} {x1 : Int32} {s0 : Nat} : ip_WP 94 13 [some (.ref x0), some (.int x1)] [.ref s0] (G, F, I, J) b post px ↔ ip_WP 94 14 [some (.ref x0), some (.int x1)] [.ref s0, .ref s0] (G, F, I, J) b post px := ip_nx_iff ((ip_st_of f94_13).trans rfl)
theorem f94_14 : ip_fetch 94 14 = some (.getfield 15, 3) := by decide +kernel
set_option maxRecDepth 100000 in
theorem s94_14 {x0 : Nat} {x1 : Int32} {s0 : Nat} {s1 : Nat} : ip_WP 94 14 [some (.ref x0), some (.int x1)] [.ref s1, .ref s0] (G, F, I, J) b post px ↔ (ip_isO G s1 2 = true ∧ ip_WP 94 17 [some (.ref x0), some (.int x1)] [F s1 1, .ref s0] (G, F, I, J) b post px) := ip_s_getf f94_14 (by decide +kernel)
theorem f94_17 : ip_fetch 94 17 = some (.iload_n 1, 1) := by decide +kernel
theorem s94_17 {x0 : Nat} {x1 : Int32} {s0 : Nat} {s1 : Int32} : ip_WP 94 17 [some (.ref x0), some (.int x1)] [.int s1, .ref s0] (G, F, I, J) b post px ↔ ip_WP 94 18 [some (.ref x0), some (.int x1)] [.int x1, .int s1, .ref s0] (G, F, I, J) b post px := ip_nx_iff ((ip_st_of f94_17).trans rfl)
theorem f94_18 : ip_fetch 94 18 = some (.isub, 1) := by decide +kernel
theorem s94_18 {x0 : Nat} {x1 : Int32} {s0 : Nat} {s1 : Int32} {s2 : Int32} : ip_WP 94 18 [some (.ref x0), some (.int x1)] [.int s2, .int s1, .ref s0] (G, F, I, J) b post px ↔ ip_WP 94 19 [some (.ref x0), some (.int x1)] [.int (s1 - s2), .ref s0] (G, F, I, J) b post px := ip_nx_iff ((ip_st_of f94_18).trans rfl)
theorem f94_19 : ip_fetch 94 19 = some (.putfield 15, 3) := by decide +kernel
set_option maxRecDepth 100000 in
theorem s94_19 {x0 : Nat} {x1 : Int32} {s0 : Nat} {s1 : Int32} : ip_WP 94 19 [some (.ref x0), some (.int x1)] [.int s1, .ref s0] (G, F, I, J) b post px ↔ (ip_isO G s0 2 = true ∧ ip_WP 94 22 [some (.ref x0), some (.int x1)] [] (G, ip_up F s0 1 (.int s1), I, J) b post px) := ip_s_put f94_19 (by decide +kernel) rfl
theorem f94_22 : ip_fetch 94 22 = some (.return_, 1) := by decide +kernel
theorem s94_22 {x0 : Nat} {x1 : Int32} : ip_WP 94 22 [some (.ref x0), some (.int x1)] [] (G, F, I, J) b post px ↔ post none (G, F, I, J) := ip_rt_iff ((ip_st_of f94_22).trans rfl)
theorem f95_0 : ip_fetch 95 0 = some (.aload_n 1, 1) := by decide +kernel
theorem s95_0 {x0 : Nat} {x1 : Nat} : ip_WP 95 0 [some (.ref x0), some (.ref x1)] [] (G, F, I, J) b post px ↔ ip_WP 95 1 [some (.ref x0), some (.ref x1)] [.ref x1] (G, F, I, J) b post px := ip_nx_iff ((ip_st_of f95_0).trans rfl)
theorem f95_1 : ip_fetch 95 1 = some (.getfield 11, 3) := by decide +kernel
set_option maxRecDepth 100000 in
theorem s95_1 {x0 : Nat} {x1 : Nat} {s0 : Nat} : ip_WP 95 1 [some (.ref x0), some (.ref x1)] [.ref s0] (G, F, I, J) b post px ↔ (ip_isO G s0 2 = true ∧ ip_WP 95 4 [some (.ref x0), some (.ref x1)] [F s0 0] (G, F, I, J) b post px) := ip_s_getf f95_1 (by decide +kernel)
theorem f95_4 : ip_fetch 95 4 = some (.iconst 0, 1) := by decide +kernel
theorem s95_4 {x0 : Nat} {x1 : Nat} {s0 : Nat} : ip_WP 95 4 [some (.ref x0), some (.ref x1)] [.ref s0] (G, F, I, J) b post px ↔ ip_WP 95 5 [some (.ref x0), some (.ref x1)] [.int 0, .ref s0] (G, F, I, J) b post px := ip_s_iconst f95_4 (by decide)
theorem f95_5 : ip_fetch 95 5 = some (.aload_n 0, 1) := by decide +kernel
theorem s95_5 {x0 : Nat} {x1 : Nat} {s0 : Nat} {s1 : Int32} : ip_WP 95 5 [some (.ref x0), some (.ref x1)] [.int s1, .ref s0] (G, F, I, J) b post px ↔ ip_WP 95 6 [some (.ref x0), some (.ref x1)] [.ref x0, .int s1, .ref s0] (G, F, I, J) b post px := ip_nx_iff ((ip_st_of f95_5).trans rfl)
theorem f95_6 : ip_fetch 95 6 = some (.getfield 11, 3) := by decide +kernel
set_option maxRecDepth 100000 in
theorem s95_6 {x0 : Nat} {x1 : Nat} {s0 : Nat} {s1 : Int32} {s2 : Nat} : ip_WP 95 6 [some (.ref x0), some (.ref x1)] [.ref s2, .int s1, .ref s0] (G, F, I, J) b post px ↔ (ip_isO G s2 2 = true ∧ ip_WP 95 9 [some (.ref x0), some (.ref x1)] [F s2 0, .int s1, .ref s0] (G, F, I, J) b post px) := ip_s_getf f95_6 (by decide +kernel)
theorem f95_9 : ip_fetch 95 9 = some (.iconst 0, 1) := by decide +kernel
theorem s95_9 {x0 : Nat} {x1 : Nat} {s0 : Nat} {s1 : Int32} {s2 : Nat} : ip_WP 95 9 [some (.ref x0), some (.ref x1)] [.ref s2, .int s1, .ref s0] (G, F, I, J) b post px ↔ ip_WP 95 10 [some (.ref x0), some (.ref x1)] [.int 0, .ref s2, .int s1, .ref s0] (G, F, I, J) b post px := ip_s_iconst f95_9 (by decide)
theorem f95_10 : ip_fetch 95 10 = some (.aload_n 1, 1) := by decide +kernel
theorem s95_10 {x0 : Nat} {x1 : Nat} {s0 : Nat} {s1 : Int32} {s2 : Nat} {s3 : Int32} : ip_WP 95 10 [some (.ref x0), some (.ref x1)] [.int s3, .ref s2, .int s1, .ref s0] (G, F, I, J) b post px ↔ ip_WP 95 11 [some (.ref x0), some (.ref x1)] [.ref x1, .int s3, .ref s2, .int s1, .ref s0] (G, F, I, J) b post px := ip_nx_iff ((ip_st_of f95_10).trans rfl)
theorem f95_11 : ip_fetch 95 11 = some (.getfield 15, 3) := by decide +kernel
set_option maxRecDepth 100000 in
theorem s95_11 {x0 : Nat} {x1 : Nat} {s0 : Nat} {s1 : Int32} {s2 : Nat} {s3 : Int32} {s4 : Nat} : ip_WP 95 11 [some (.ref x0), some (.ref x1)] [.ref s4, .int s3, .ref s2, .int s1, .ref s0] (G, F, I, J) b post px ↔ (ip_isO G s4 2 = true ∧ ip_WP 95 14 [some (.ref x0), some (.ref x1)] [F s4 1, .int s3, .ref s2, .int s1, .ref s0] (G, F, I, J) b post px) := ip_s_getf f95_11 (by decide +kernel)
theorem f95_14 : ip_fetch 95 14 = some (.invokestatic 33, 3) := by decide +kernel
set_option maxRecDepth 100000 in
theorem s95_14 {x0 : Nat} {x1 : Nat} {s0 : Nat} {s1 : Int32} {s2 : Nat} {s3 : Int32} {s4 : Int32} : ip_WP 95 14 [some (.ref x0), some (.ref x1)] [.int s4, .int s3, .ref s2, .int s1, .ref s0] (G, F, I, J) b post px ↔ (ip_cpok G I s0 s1 s2 s3 s4 ∧ ip_WP 95 17 [some (.ref x0), some (.ref x1)] [] (G, F, ip_cpI I s0 s1 s2 s3 s4, J) b post px) := ip_s_copy f95_14 rfl (Nat.le_of_ble_eq_true rfl)
theorem f95_17 : ip_fetch 95 17 = some (.aload_n 0, 1) := by decide +kernel
theorem s95_17 {x0 : Nat} {x1 : Nat} : ip_WP 95 17 [some (.ref x0), some (.ref x1)] [] (G, F, I, J) b post px ↔ ip_WP 95 18 [some (.ref x0), some (.ref x1)] [.ref x0] (G, F, I, J) b post px := ip_nx_iff ((ip_st_of f95_17).trans rfl)
theorem f95_18 : ip_fetch 95 18 = some (.aload_n 1, 1) := by decide +kernel
theorem s95_18 {x0 : Nat} {x1 : Nat} {s0 : Nat} : ip_WP 95 18 [some (.ref x0), some (.ref x1)] [.ref s0] (G, F, I, J) b post px ↔ ip_WP 95 19 [some (.ref x0), some (.ref x1)] [.ref x1, .ref s0] (G, F, I, J) b post px := ip_nx_iff ((ip_st_of f95_18).trans rfl)
theorem f95_19 : ip_fetch 95 19 = some (.getfield 15, 3) := by decide +kernel
set_option maxRecDepth 100000 in
theorem s95_19 {x0 : Nat} {x1 : Nat} {s0 : Nat} {s1 : Nat} : ip_WP 95 19 [some (.ref x0), some (.ref x1)] [.ref s1, .ref s0] (G, F, I, J) b post px ↔ (ip_isO G s1 2 = true ∧ ip_WP 95 22 [some (.ref x0), some (.ref x1)] [F s1 1, .ref s0] (G, F, I, J) b post px) := ip_s_getf f95_19 (by decide +kernel)
theorem f95_22 : ip_fetch 95 22 = some (.putfield 15, 3) := by decide +kernel
set_option maxRecDepth 100000 in
theorem s95_22 {x0 : Nat} {x1 : Nat} {s0 : Nat} {s1 : Int32} : ip_WP 95 22 [some (.ref x0), some (.ref x1)] [.int s1, .ref s0] (G, F, I, J) b post px ↔ (ip_isO G s0 2 = true ∧ ip_WP 95 25 [some (.ref x0), some (.ref x1)] [] (G, ip_up F s0 1 (.int s1), I, J) b post px) := ip_s_put f95_22 (by decide +kernel) rfl
theorem f95_25 : ip_fetch 95 25 = some (.return_, 1) := by decide +kernel
theorem s95_25 {x0 : Nat} {x1 : Nat} : ip_WP 95 25 [some (.ref x0), some (.ref x1)] [] (G, F, I, J) b post px ↔ post none (G, F, I, J) := ip_rt_iff ((ip_st_of f95_25).trans rfl)
theorem f96_0 : ip_fetch 96 0 = some (.aload_n 1, 1) := by decide +kernel
theorem s96_0 {x0 : Nat} {x1 : Nat} {x2 : Option Value} {x3 : Option Value} : ip_WP 96 0 [some (.ref x0), some (.ref x1), x2, x3] [] (G, F, I, J) b post px ↔ ip_WP 96 1 [some (.ref x0), some (.ref x1), x2, x3] [.ref x1] (G, F, I, J) b post px := ip_nx_iff ((ip_st_of f96_0).trans rfl)
theorem f96_1 : ip_fetch 96 1 = some (.invokevirtual 11, 3) := by decide +kernel
set_option maxRecDepth 100000 in
theorem s96_1 {x0 : Nat} {x1 : Nat} {x2 : Option Value} {x3 : Option Value} {s0 : Nat} : ip_WP 96 1 [some (.ref x0), some (.ref x1), x2, x3] [.ref s0] (G, F, I, J) b post px ↔ (ip_isO G s0 4 = true ∧ ip_WP 121 0 [some (.ref s0)] [] (G, F, I, J) (0, 0) (fun r h' => ip_WP 96 4 [some (.ref x0), some (.ref x1), x2, x3] (r.toList ++ []) h' b post px) (fun _ _ => False)) := ip_ck_iff (x := ip_cl 121 [some (.ref s0)] [] (0, 0) b) ((ip_st_of f96_1).trans rfl) (ip_cl_iff)
theorem f96_4 : ip_fetch 96 4 = some (.aload_n 0, 1) := by decide +kernel
theorem s96_4 {x0 : Nat} {x1 : Nat} {x2 : Option Value} {x3 : Option Value} : ip_WP 96 4 [some (.ref x0), some (.ref x1), x2, x3] [] (G, F, I, J) b post px ↔ ip_WP 96 5 [some (.ref x0), some (.ref x1), x2, x3] [.ref x0] (G, F, I, J) b post px := ip_nx_iff ((ip_st_of f96_4).trans rfl)
theorem f96_5 : ip_fetch 96 5 = some (.aload_n 1, 1) := by decide +kernel
theorem s96_5 {x0 : Nat} {x1 : Nat} {x2 : Option Value} {x3 : Option Value} {s0 : Nat} : ip_WP 96 5 [some (.ref x0), some (.ref x1), x2, x3] [.ref s0] (G, F, I, J) b post px ↔ ip_WP 96 6 [some (.ref x0), some (.ref x1), x2, x3] [.ref x1, .ref s0] (G, F, I, J) b post px := ip_nx_iff ((ip_st_of f96_5).trans rfl)
theorem f96_6 : ip_fetch 96 6 = some (.iconst 0, 1) := by decide +kernel
theorem s96_6 {x0 : Nat} {x1 : Nat} {x2 : Option Value} {x3 : Option Value} {s0 : Nat} {s1 : Nat} : ip_WP 96 6 [some (.ref x0), some (.ref x1), x2, x3] [.ref s1, .ref s0] (G, F, I, J) b post px ↔ ip_WP 96 7 [some (.ref x0), some (.ref x1), x2, x3] [.int 0, .ref s1, .ref s0] (G, F, I, J) b post px := ip_s_iconst f96_6 (by decide)
theorem f96_7 : ip_fetch 96 7 = some (.invokestatic 16, 3) := by decide +kernel
set_option maxRecDepth 100000 in
theorem s96_7 {x0 : Nat} {x1 : Nat} {x2 : Option Value} {x3 : Option Value} {s0 : Nat} {s1 : Nat} {s2 : Int32} : ip_WP 96 7 [some (.ref x0), some (.ref x1), x2, x3] [.int s2, .ref s1, .ref s0] (G, F, I, J) b post px ↔ ip_WP 97 0 [some (.ref s0), some (.ref s1), some (.int s2)] [] (G, F, I, J) (0, 0) (fun r h' => ip_WP 96 10 [some (.ref x0), some (.ref x1), x2, x3] (r.toList ++ []) h' b post px) (fun _ _ => False) := ip_cl_iff ((ip_st_of f96_7).trans (rfl : _ = ip_cl 97 [some (.ref s0), some (.ref s1), some (.int s2)] [] (0, 0) b))
theorem f96_10 : ip_fetch 96 10 = some (.aload_n 0, 1) := by decide +kernel
theorem s96_10 {x0 : Nat} {x1 : Nat} {x2 : Option Value} {x3 : Option Value} : ip_WP 96 10 [some (.ref x0), some (.ref x1), x2, x3] [] (G, F, I, J) b post px ↔ ip_WP 96 11 [some (.ref x0), some (.ref x1), x2, x3] [.ref x0] (G, F, I, J) b post px := ip_nx_iff ((ip_st_of f96_10).trans rfl)
theorem f96_11 : ip_fetch 96 11 = some (.aload_n 1, 1) := by decide +kernel
theorem s96_11 {x0 : Nat} {x1 : Nat} {x2 : Option Value} {x3 : Option Value} {s0 : Nat} : ip_WP 96 11 [some (.ref x0), some (.ref x1), x2, x3] [.ref s0] (G, F, I, J) b post px ↔ ip_WP 96 12 [some (.ref x0), some (.ref x1), x2, x3] [.ref x1, .ref s0] (G, F, I, J) b post px := ip_nx_iff ((ip_st_of f96_11).trans rfl)
theorem f96_12 : ip_fetch 96 12 = some (.iconst 2, 1) := by decide +kernel
theorem s96_12 {x0 : Nat} {x1 : Nat} {x2 : Option Value} {x3 : Option Value} {s0 : Nat} {s1 : Nat} : ip_WP 96 12 [some (.ref x0), some (.ref x1), x2, x3] [.ref s1, .ref s0] (G, F, I, J) b post px ↔ ip_WP 96 13 [some (.ref x0), some (.ref x1), x2, x3] [.int 2, .ref s1, .ref s0] (G, F, I, J) b post px := ip_s_iconst f96_12 (by decide)
theorem f96_13 : ip_fetch 96 13 = some (.invokestatic 16, 3) := by decide +kernel
set_option maxRecDepth 100000 in
theorem s96_13 {x0 : Nat} {x1 : Nat} {x2 : Option Value} {x3 : Option Value} {s0 : Nat} {s1 : Nat} {s2 : Int32} : ip_WP 96 13 [some (.ref x0), some (.ref x1), x2, x3] [.int s2, .ref s1, .ref s0] (G, F, I, J) b post px ↔ ip_WP 97 0 [some (.ref s0), some (.ref s1), some (.int s2)] [] (G, F, I, J) (0, 0) (fun r h' => ip_WP 96 16 [some (.ref x0), some (.ref x1), x2, x3] (r.toList ++ []) h' b post px) (fun _ _ => False) := ip_cl_iff ((ip_st_of f96_13).trans (rfl : _ = ip_cl 97 [some (.ref s0), some (.ref s1), some (.int s2)] [] (0, 0) b))
theorem f96_16 : ip_fetch 96 16 = some (.aload_n 0, 1) := by decide +kernel
theorem s96_16 {x0 : Nat} {x1 : Nat} {x2 : Option Value} {x3 : Option Value} : ip_WP 96 16 [some (.ref x0), some (.ref x1), x2, x3] [] (G, F, I, J) b post px ↔ ip_WP 96 17 [some (.ref x0), some (.ref x1), x2, x3] [.ref x0] (G, F, I, J) b post px := ip_nx_iff ((ip_st_of f96_16).trans rfl)
theorem f96_17 : ip_fetch 96 17 = some (.aload_n 1, 1) := by decide +kernel
theorem s96_17 {x0 : Nat} {x1 : Nat} {x2 : Option Value} {x3 : Option Value} {s0 : Nat} : ip_WP 96 17 [some (.ref x0), some (.ref x1), x2, x3] [.ref s0] (G, F, I, J) b post px ↔ ip_WP 96 18 [some (.ref x0), some (.ref x1), x2, x3] [.ref x1, .ref s0] (G, F, I, J) b post px := ip_nx_iff ((ip_st_of f96_17).trans rfl)
theorem f96_18 : ip_fetch 96 18 = some (.iconst 3, 1) := by decide +kernel
theorem s96_18 {x0 : Nat} {x1 : Nat} {x2 : Option Value} {x3 : Option Value} {s0 : Nat} {s1 : Nat} : ip_WP 96 18 [some (.ref x0), some (.ref x1), x2, x3] [.ref s1, .ref s0] (G, F, I, J) b post px ↔ ip_WP 96 19 [some (.ref x0), some (.ref x1), x2, x3] [.int 3, .ref s1, .ref s0] (G, F, I, J) b post px := ip_s_iconst f96_18 (by decide)
theorem f96_19 : ip_fetch 96 19 = some (.invokestatic 16, 3) := by decide +kernel
set_option maxRecDepth 100000 in
theorem s96_19 {x0 : Nat} {x1 : Nat} {x2 : Option Value} {x3 : Option Value} {s0 : Nat} {s1 : Nat} {s2 : Int32} : ip_WP 96 19 [some (.ref x0), some (.ref x1), x2, x3] [.int s2, .ref s1, .ref s0] (G, F, I, J) b post px ↔ ip_WP 97 0 [some (.ref s0), some (.ref s1), some (.int s2)] [] (G, F, I, J) (0, 0) (fun r h' => ip_WP 96 22 [some (.ref x0), some (.ref x1), x2, x3] (r.toList ++ []) h' b post px) (fun _ _ => False) := ip_cl_iff ((ip_st_of f96_19).trans (rfl : _ = ip_cl 97 [some (.ref s0), some (.ref s1), some (.int s2)] [] (0, 0) b))
theorem f96_22 : ip_fetch 96 22 = some (.aload_n 0, 1) := by decide +kernel
theorem s96_22 {x0 : Nat} {x1 : Nat} {x2 : Option Value} {x3 : Option Value} : ip_WP 96 22 [some (.ref x0), some (.ref x1), x2, x3] [] (G, F, I, J) b post px ↔ ip_WP 96 23 [some (.ref x0), some (.ref x1), x2, x3] [.ref x0] (G, F, I, J) b post px := ip_nx_iff ((ip_st_of f96_22).trans rfl)
theorem f96_23 : ip_fetch 96 23 = some (.aload_n 1, 1) := by decide +kernel
theorem s96_23 {x0 : Nat} {x1 : Nat} {x2 : Option Value} {x3 : Option Value} {s0 : Nat} : ip_WP 96 23 [some (.ref x0), some (.ref x1), x2, x3] [.ref s0] (G, F, I, J) b post px ↔ ip_WP 96 24 [some (.ref x0), some (.ref x1), x2, x3] [.ref x1, .ref s0] (G, F, I, J) b post px := ip_nx_iff ((ip_st_of f96_23).trans rfl)
theorem f96_24 : ip_fetch 96 24 = some (.bipush 6, 2) := by decide +kernel
theorem s96_24 {x0 : Nat} {x1 : Nat} {x2 : Option Value} {x3 : Option Value} {s0 : Nat} {s1 : Nat} : ip_WP 96 24 [some (.ref x0), some (.ref x1), x2, x3] [.ref s1, .ref s0] (G, F, I, J) b post px ↔ ip_WP 96 26 [some (.ref x0), some (.ref x1), x2, x3] [.int 6, .ref s1, .ref s0] (G, F, I, J) b post px := ip_s_bipush f96_24 (by decide)
theorem f96_26 : ip_fetch 96 26 = some (.invokestatic 16, 3) := by decide +kernel
set_option maxRecDepth 100000 in
theorem s96_26 {x0 : Nat} {x1 : Nat} {x2 : Option Value} {x3 : Option Value} {s0 : Nat} {s1 : Nat} {s2 : Int32} : ip_WP 96 26 [some (.ref x0), some (.ref x1), x2, x3] [.int s2, .ref s1, .ref s0] (G, F, I, J) b post px ↔ ip_WP 97 0 [some (.ref s0), some (.ref s1), some (.int s2)] [] (G, F, I, J) (0, 0) (fun r h' => ip_WP 96 29 [some (.ref x0), some (.ref x1), x2, x3] (r.toList ++ []) h' b post px) (fun _ _ => False) := ip_cl_iff ((ip_st_of f96_26).trans (rfl : _ = ip_cl 97 [some (.ref s0), some (.ref s1), some (.int s2)] [] (0, 0) b))
theorem f96_29 : ip_fetch 96 29 = some (.iconst 2, 1) := by decide +kernel
theorem s96_29 {x0 : Nat} {x1 : Nat} {x2 : Option Value} {x3 : Option Value} : ip_WP 96 29 [some (.ref x0), some (.ref x1), x2, x3] [] (G, F, I, J) b post px ↔ ip_WP 96 30 [some (.ref x0), some (.ref x1), x2, x3] [.int 2] (G, F, I, J) b post px := ip_s_iconst f96_29 (by decide)
theorem f96_30 : ip_fetch 96 30 = some (.istore_n 2, 1) := by decide +kernel
theorem s96_30 {x0 : Nat} {x1 : Nat} {x2 : Option Value} {x3 : Option Value} {s0 : Int32} : ip_WP 96 30 [some (.ref x0), some (.ref x1), x2, x3] [.int s0] (G, F, I, J) b post px ↔ ip_WP 96 31 [some (.ref x0), some (.ref x1), some (.int s0), x3] [] (G, F, I, J) b post px := ip_nx_iff ((ip_st_of f96_30).trans rfl)
theorem f96_31 : ip_fetch 96 31 = some (.iload_n 2, 1) := by decide +kernel
theorem s96_31 {x0 : Nat} {x1 : Nat} {x2 : Int32} {x3 : Option Value} : ip_WP 96 31 [some (.ref x0), some (.ref x1), some (.int x2), x3] [] (G, F, I, J) b post px ↔ ip_WP 96 32 [some (.ref x0), some (.ref x1), some (.int x2), x3] [.int x2] (G, F, I, J) b post px := ip_nx_iff ((ip_st_of f96_31).trans rfl)
theorem f96_32 : ip_fetch 96 32 = some (.iconst 5, 1) := by decide +kernel
theorem s96_32 {x0 : Nat} {x1 : Nat} {x2 : Int32} {x3 : Option Value} {s0 : Int32} : ip_WP 96 32 [some (.ref x0), some (.ref x1), some (.int x2), x3] [.int s0] (G, F, I, J) b post px ↔ ip_WP 96 33 [some (.ref x0), some (.ref x1), some (.int x2), x3] [.int 5, .int s0] (G, F, I, J) b post px := ip_s_iconst f96_32 (by decide)
theorem f96_33 : ip_fetch 96 33 = some (.if_icmp .gt 43, 3) := by decide +kernel
theorem s96_33 {x0 : Nat} {x1 : Nat} {x2 : Int32} {x3 : Option Value} {s0 : Int32} {s1 : Int32} : ip_WP 96 33 [some (.ref x0), some (.ref x1), some (.int x2), x3] [.int s1, .int s0] (G, F, I, J) b post px ↔ if s1 < s0 then ip_WP 96 76 [some (.ref x0), some (.ref x1), some (.int x2), x3] [] (G, F, I, J) b post px else ip_WP 96 36 [some (.ref x0), some (.ref x1), some (.int x2), x3] [] (G, F, I, J) b post px := ip_s_ic_gt f96_33 rfl
theorem f96_36 : ip_fetch 96 36 = some (.iconst 0, 1) := by decide +kernel
theorem s96_36 {x0 : Nat} {x1 : Nat} {x2 : Int32} {x3 : Option Value} : ip_WP 96 36 [some (.ref x0), some (.ref x1), some (.int x2), x3] [] (G, F, I, J) b post px ↔ ip_WP 96 37 [some (.ref x0), some (.ref x1), some (.int x2), x3] [.int 0] (G, F, I, J) b post px := ip_s_iconst f96_36 (by decide)
theorem f96_37 : ip_fetch 96 37 = some (.istore_n 3, 1) := by decide +kernel
theorem s96_37 {x0 : Nat} {x1 : Nat} {x2 : Int32} {x3 : Option Value} {s0 : Int32} : ip_WP 96 37 [some (.ref x0), some (.ref x1), some (.int x2), x3] [.int s0] (G, F, I, J) b post px ↔ ip_WP 96 38 [some (.ref x0), some (.ref x1), some (.int x2), some (.int s0)] [] (G, F, I, J) b post px := ip_nx_iff ((ip_st_of f96_37).trans rfl)
theorem f96_38 : ip_fetch 96 38 = some (.iload_n 3, 1) := by decide +kernel
theorem s96_38 {x0 : Nat} {x1 : Nat} {x2 : Int32} {x3 : Int32} : ip_WP 96 38 [some (.ref x0), some (.ref x1), some (.int x2), some (.int x3)] [] (G, F, I, J) b post px ↔ ip_WP 96 39 [some (.ref x0), some (.ref x1), some (.int x2), some (.int x3)] [.int x3] (G, F, I, J) b post px := ip_nx_iff ((ip_st_of f96_38).trans rfl)
theorem f96_39 : ip_fetch 96 39 = some (.aload_n 0, 1) := by decide +kernel
theorem s96_39 {x0 : Nat} {x1 : Nat} {x2 : Int32} {x3 : Int32} {s0 : Int32} : ip_WP 96 39 [some (.ref x0), some (.ref x1), some (.int x2), some (.int x3)] [.int s0] (G, F, I, J) b post px ↔ ip_WP 96 40 [some (.ref x0), some (.ref x1), some (.int x2), some (.int x3)] [.ref x0, .int s0] (G, F, I, J) b post px := ip_nx_iff ((ip_st_of f96_39).trans rfl)
theorem f96_40 : ip_fetch 96 40 = some (.getfield 22, 3) := by decide +kernel
set_option maxRecDepth 100000 in
theorem s96_40 {x0 : Nat} {x1 : Nat} {x2 : Int32} {x3 : Int32} {s0 : Int32} {s1 : Nat} : ip_WP 96 40 [some (.ref x0), some (.ref x1), some (.int x2), some (.int x3)] [.ref s1, .int s0] (G, F, I, J) b post px ↔ (ip_isO G s1 3 = true ∧ ip_WP 96 43 [some (.ref x0), some (.ref x1), some (.int x2), some (.int x3)] [F s1 0, .int s0] (G, F, I, J) b post px) := ip_s_getf f96_40 (by decide +kernel)
theorem f96_43 : ip_fetch 96 43 = some (.invokevirtual 26, 3) := by decide +kernel
set_option maxRecDepth 100000 in
theorem s96_43 {x0 : Nat} {x1 : Nat} {x2 : Int32} {x3 : Int32} {s0 : Int32} {s1 : Nat} : ip_WP 96 43 [some (.ref x0), some (.ref x1), some (.int x2), some (.int x3)] [.ref s1, .int s0] (G, F, I, J) b post px ↔ (ip_isO G s1 6 = true ∧ ip_WP 143 0 [some (.ref s1)] [] (G, F, I, J) (0, 0) (fun r h' => ip_WP 96 46 [some (.ref x0), some (.ref x1), some (.int x2), some (.int x3)] (r.toList ++ [.int s0]) h' b post px) (fun _ _ => False)) := ip_ck_iff (x := ip_cl 143 [some (.ref s1)] [.int s0] (0, 0) b) ((ip_st_of f96_43).trans rfl) (ip_cl_iff)
theorem f96_46 : ip_fetch 96 46 = some (.if_icmp .ge 24, 3) := by decide +kernel
theorem s96_46 {x0 : Nat} {x1 : Nat} {x2 : Int32} {x3 : Int32} {s0 : Int32} {s1 : Int32} : ip_WP 96 46 [some (.ref x0), some (.ref x1), some (.int x2), some (.int x3)] [.int s1, .int s0] (G, F, I, J) b post px ↔ if s1 ≤ s0 then ip_WP 96 70 [some (.ref x0), some (.ref x1), some (.int x2), some (.int x3)] [] (G, F, I, J) b post px else ip_WP 96 49 [some (.ref x0), some (.ref x1), some (.int x2), some (.int x3)] [] (G, F, I, J) b post px := ip_s_ic_ge f96_46 rfl
theorem f96_49 : ip_fetch 96 49 = some (.aload_n 0, 1) := by decide +kernel
theorem s96_49 {x0 : Nat} {x1 : Nat} {x2 : Int32} {x3 : Int32} : ip_WP 96 49 [some (.ref x0), some (.ref x1), some (.int x2), some (.int x3)] [] (G, F, I, J) b post px ↔ ip_WP 96 50 [some (.ref x0), some (.ref x1), some (.int x2), some (.int x3)] [.ref x0] (G, F, I, J) b post px := ip_nx_iff ((ip_st_of f96_49).trans rfl)
theorem f96_50 : ip_fetch 96 50 = some (.iload_n 2, 1) := by decide +kernel
theorem s96_50 {x0 : Nat} {x1 : Nat} {x2 : Int32} {x3 : Int32} {s0 : Nat} : ip_WP 96 50 [some (.ref x0), some (.ref x1), some (.int x2), some (.int x3)] [.ref s0] (G, F, I, J) b post px ↔ ip_WP 96 51 [some (.ref x0), some (.ref x1), some (.int x2), some (.int x3)] [.int x2, .ref s0] (G, F, I, J) b post px := ip_nx_iff ((ip_st_of f96_50).trans rfl)
theorem f96_51 : ip_fetch 96 51 = some (.iload_n 3, 1) := by decide +kernel
theorem s96_51 {x0 : Nat} {x1 : Nat} {x2 : Int32} {x3 : Int32} {s0 : Nat} {s1 : Int32} : ip_WP 96 51 [some (.ref x0), some (.ref x1), some (.int x2), some (.int x3)] [.int s1, .ref s0] (G, F, I, J) b post px ↔ ip_WP 96 52 [some (.ref x0), some (.ref x1), some (.int x2), some (.int x3)] [.int x3, .int s1, .ref s0] (G, F, I, J) b post px := ip_nx_iff ((ip_st_of f96_51).trans rfl)
theorem f96_52 : ip_fetch 96 52 = some (.invokestatic 32, 3) := by decide +kernel
set_option maxRecDepth 100000 in
theorem s96_52 {x0 : Nat} {x1 : Nat} {x2 : Int32} {x3 : Int32} {s0 : Nat} {s1 : Int32} {s2 : Int32} : ip_WP 96 52 [some (.ref x0), some (.ref x1), some (.int x2), some (.int x3)] [.int s2, .int s1, .ref s0] (G, F, I, J) b post px ↔ ip_WP 98 0 [some (.ref s0), some (.int s1), some (.int s2)] [] (G, F, I, J) (0, 0) (fun r h' => ip_WP 96 55 [some (.ref x0), some (.ref x1), some (.int x2), some (.int x3)] (r.toList ++ []) h' b post px) (fun _ _ => False) := ip_cl_iff ((ip_st_of f96_52).trans (rfl : _ = ip_cl 98 [some (.ref s0), some (.int s1), some (.int s2)] [] (0, 0) b))
theorem f96_55 : ip_fetch 96 55 = some (.ifCond .eq 9, 3) := by decide +kernel
theorem s96_55 {x0 : Nat} {x1 : Nat} {x2 : Int32} {x3 : Int32} {s0 : Int32} : ip_WP 96 55 [some (.ref x0), some (.ref x1), some (.int x2), some (.int x3)] [.int s0] (G, F, I, J) b post px ↔ if s0 = 0 then ip_WP 96 64 [some (.ref x0), some (.ref x1), some (.int x2), some (.int x3)] [] (G, F, I, J) b post px else ip_WP 96 58 [some (.ref x0), some (.ref x1), some (.int x2), some (.int x3)] [] (G, F, I, J) b post px := ip_s_if_eq f96_55 rfl
theorem f96_58 : ip_fetch 96 58 = some (.aload_n 1, 1) := by decide +kernel
theorem s96_58 {x0 : Nat} {x1 : Nat} {x2 : Int32} {x3 : Int32} : ip_WP 96 58 [some (.ref x0), some (.ref x1), some (.int x2), some (.int x3)] [] (G, F, I, J) b post px ↔ ip_WP 96 59 [some (.ref x0), some (.ref x1), some (.int x2), some (.int x3)] [.ref x1] (G, F, I, J) b post px := ip_nx_iff ((ip_st_of f96_58).trans rfl)
theorem f96_59 : ip_fetch 96 59 = some (.iload_n 2, 1) := by decide +kernel
theorem s96_59 {x0 : Nat} {x1 : Nat} {x2 : Int32} {x3 : Int32} {s0 : Nat} : ip_WP 96 59 [some (.ref x0), some (.ref x1), some (.int x2), some (.int x3)] [.ref s0] (G, F, I, J) b post px ↔ ip_WP 96 60 [some (.ref x0), some (.ref x1), some (.int x2), some (.int x3)] [.int x2, .ref s0] (G, F, I, J) b post px := ip_nx_iff ((ip_st_of f96_59).trans rfl)
theorem f96_60 : ip_fetch 96 60 = some (.iload_n 3, 1) := by decide +kernel
theorem s96_60 {x0 : Nat} {x1 : Nat} {x2 : Int32} {x3 : Int32} {s0 : Nat} {s1 : Int32} : ip_WP 96 60 [some (.ref x0), some (.ref x1), some (.int x2), some (.int x3)] [.int s1, .ref s0] (G, F, I, J) b post px ↔ ip_WP 96 61 [some (.ref x0), some (.ref x1), some (.int x2), some (.int x3)] [.int x3, .int s1, .ref s0] (G, F, I, J) b post px := ip_nx_iff ((ip_st_of f96_60).trans rfl)
theorem f96_61 : ip_fetch 96 61 = some (.invokevirtual 36, 3) := by decide +kernel
set_option maxRecDepth 100000 in
theorem s96_61 {x0 : Nat} {x1 : Nat} {x2 : Int32} {x3 : Int32} {s0 : Nat} {s1 : Int32} {s2 : Int32} : ip_WP 96 61 [some (.ref x0), some (.ref x1), some (.int x2), some (.int x3)] [.int s2, .int s1, .ref s0] (G, F, I, J) b post px ↔ (ip_isO G s0 4 = true ∧ ip_WP 122 0 [some (.ref s0), some (.int s1), some (.int s2)] [] (G, F, I, J) (0, 0) (fun r h' => ip_WP 96 64 [some (.ref x0), some (.ref x1), some (.int x2), some (.int x3)] (r.toList ++ []) h' b post px) (fun _ _ => False)) := ip_ck_iff (x := ip_cl 122 [some (.ref s0), some (.int s1), some (.int s2)] [] (0, 0) b) ((ip_st_of f96_61).trans rfl) (ip_cl_iff)
theorem f96_64 : ip_fetch 96 64 = some (.iinc 3 1, 3) := by decide +kernel
theorem s96_64 {x0 : Nat} {x1 : Nat} {x2 : Int32} {x3 : Int32} : ip_WP 96 64 [some (.ref x0), some (.ref x1), some (.int x2), some (.int x3)] [] (G, F, I, J) b post px ↔ ip_WP 96 67 [some (.ref x0), some (.ref x1), some (.int x2), some (.int (x3 + 1))] [] (G, F, I, J) b post px := ip_s_iinc f96_64 rfl (by decide)
theorem f96_67 : ip_fetch 96 67 = some (.goto (-29), 3) := by decide +kernel
theorem s96_67 {x0 : Nat} {x1 : Nat} {x2 : Int32} {x3 : Int32} : ip_WP 96 67 [some (.ref x0), some (.ref x1), some (.int x2), some (.int x3)] [] (G, F, I, J) b post px ↔ ip_WP 96 38 [some (.ref x0), some (.ref x1), some (.int x2), some (.int x3)] [] (G, F, I, J) b post px := ip_nx_iff ((ip_st_of f96_67).trans rfl)
theorem f96_70 : ip_fetch 96 70 = some (.iinc 2 1, 3) := by decide +kernel
theorem s96_70 {x0 : Nat} {x1 : Nat} {x2 : Int32} {x3 : Int32} : ip_WP 96 70 [some (.ref x0), some (.ref x1), some (.int x2), some (.int x3)] [] (G, F, I, J) b post px ↔ ip_WP 96 73 [some (.ref x0), some (.ref x1), some (.int (x2 + 1)), some (.int x3)] [] (G, F, I, J) b post px := ip_s_iinc f96_70 rfl (by decide)
theorem f96_73 : ip_fetch 96 73 = some (.goto (-42), 3) := by decide +kernel
theorem s96_73 {x0 : Nat} {x1 : Nat} {x2 : Int32} {x3 : Int32} : ip_WP 96 73 [some (.ref x0), some (.ref x1), some (.int x2), some (.int x3)] [] (G, F, I, J) b post px ↔ ip_WP 96 31 [some (.ref x0), some (.ref x1), some (.int x2), some (.int x3)] [] (G, F, I, J) b post px := ip_nx_iff ((ip_st_of f96_73).trans rfl)
theorem f96_76 : ip_fetch 96 76 = some (.return_, 1) := by decide +kernel
theorem s96_76 {x0 : Nat} {x1 : Nat} {x2 : Int32} {x3 : Option Value} : ip_WP 96 76 [some (.ref x0), some (.ref x1), some (.int x2), x3] [] (G, F, I, J) b post px ↔ post none (G, F, I, J) := ip_rt_iff ((ip_st_of f96_76).trans rfl)
theorem f97_0 : ip_fetch 97 0 = some (.aload_n 0, 1) := by decide +kernel
theorem s97_0 {x0 : Nat} {x1 : Nat} {x2 : Int32} : ip_WP 97 0 [some (.ref x0), some (.ref x1), some (.int x2)] [] (G, F, I, J) b post px ↔ ip_WP 97 1 [some (.ref x0), some (.ref x1), some (.int x2)] [.ref x0] (G, F, I, J) b post px := ip_nx_iff ((ip_st_of f97_0).trans rfl)
theorem f97_1 : ip_fetch 97 1 = some (.getfield 40, 3) := by decide +kernel
set_option maxRecDepth 100000 in
theorem s97_1 {x0 : Nat} {x1 : Nat} {x2 : Int32} {s0 : Nat} : ip_WP 97 1 [some (.ref x0), some (.ref x1), some (.int x2)] [.ref s0] (G, F, I, J) b post px ↔ (ip_isO G s0 3 = true ∧ ip_WP 97 4 [some (.ref x0), some (.ref x1), some (.int x2)] [F s0 7] (G, F, I, J) b post px) := ip_s_getf f97_1 (by decide +kernel)
theorem f97_4 : ip_fetch 97 4 = some (.iload_n 2, 1) := by decide +kernel
theorem s97_4 {x0 : Nat} {x1 : Nat} {x2 : Int32} {s0 : Nat} : ip_WP 97 4 [some (.ref x0), some (.ref x1), some (.int x2)] [.ref s0] (G, F, I, J) b post px ↔ ip_WP 97 5 [some (.ref x0), some (.ref x1), some (.int x2)] [.int x2, .ref s0] (G, F, I, J) b post px := ip_nx_iff ((ip_st_of f97_4).trans rfl)
theorem f97_5 : ip_fetch 97 5 = some (.invokevirtual 44, 3) := by decide +kernel
set_option maxRecDepth 100000 in
theorem s97_5 {x0 : Nat} {x1 : Nat} {x2 : Int32} {s0 : Nat} {s1 : Int32} : ip_WP 97 5 [some (.ref x0), some (.ref x1), some (.int x2)] [.int s1, .ref s0] (G, F, I, J) b post px ↔ (ip_isO G s0 9 = true ∧ ip_WP 191 0 [some (.ref s0), some (.int s1)] [] (G, F, I, J) (0, 0) (fun r h' => ip_WP 97 8 [some (.ref x0), some (.ref x1), some (.int x2)] (r.toList ++ []) h' b post px) (fun _ _ => False)) := ip_ck_iff (x := ip_cl 191 [some (.ref s0), some (.int s1)] [] (0, 0) b) ((ip_st_of f97_5).trans rfl) (ip_cl_iff)
theorem f97_8 : ip_fetch 97 8 = some (.iconst (-1), 1) := by decide +kernel
theorem s97_8 {x0 : Nat} {x1 : Nat} {x2 : Int32} {s0 : Int32} : ip_WP 97 8 [some (.ref x0), some (.ref x1), some (.int x2)] [.int s0] (G, F, I, J) b post px ↔ ip_WP 97 9 [some (.ref x0), some (.ref x1), some (.int x2)] [.int (-1), .int s0] (G, F, I, J) b post px := ip_s_iconst f97_8 (by decide)
theorem f97_9 : ip_fetch 97 9 = some (.if_icmp .ne 9, 3) := by decide +kernel
theorem s97_9 {x0 : Nat} {x1 : Nat} {x2 : Int32} {s0 : Int32} {s1 : Int32} : ip_WP 97 9 [some (.ref x0), some (.ref x1), some (.int x2)] [.int s1, .int s0] (G, F, I, J) b post px ↔ if ¬ s0 = s1 then ip_WP 97 18 [some (.ref x0), some (.ref x1), some (.int x2)] [] (G, F, I, J) b post px else ip_WP 97 12 [some (.ref x0), some (.ref x1), some (.int x2)] [] (G, F, I, J) b post px := ip_s_ic_ne f97_9 rfl
theorem f97_12 : ip_fetch 97 12 = some (.aload_n 1, 1) := by decide +kernel
theorem s97_12 {x0 : Nat} {x1 : Nat} {x2 : Int32} : ip_WP 97 12 [some (.ref x0), some (.ref x1), some (.int x2)] [] (G, F, I, J) b post px ↔ ip_WP 97 13 [some (.ref x0), some (.ref x1), some (.int x2)] [.ref x1] (G, F, I, J) b post px := ip_nx_iff ((ip_st_of f97_12).trans rfl)
theorem f97_13 : ip_fetch 97 13 = some (.iconst 1, 1) := by decide +kernel
theorem s97_13 {x0 : Nat} {x1 : Nat} {x2 : Int32} {s0 : Nat} : ip_WP 97 13 [some (.ref x0), some (.ref x1), some (.int x2)] [.ref s0] (G, F, I, J) b post px ↔ ip_WP 97 14 [some (.ref x0), some (.ref x1), some (.int x2)] [.int 1, .ref s0] (G, F, I, J) b post px := ip_s_iconst f97_13 (by decide)
theorem f97_14 : ip_fetch 97 14 = some (.iload_n 2, 1) := by decide +kernel
theorem s97_14 {x0 : Nat} {x1 : Nat} {x2 : Int32} {s0 : Nat} {s1 : Int32} : ip_WP 97 14 [some (.ref x0), some (.ref x1), some (.int x2)] [.int s1, .ref s0] (G, F, I, J) b post px ↔ ip_WP 97 15 [some (.ref x0), some (.ref x1), some (.int x2)] [.int x2, .int s1, .ref s0] (G, F, I, J) b post px := ip_nx_iff ((ip_st_of f97_14).trans rfl)
theorem f97_15 : ip_fetch 97 15 = some (.invokevirtual 36, 3) := by decide +kernel
set_option maxRecDepth 100000 in
theorem s97_15 {x0 : Nat} {x1 : Nat} {x2 : Int32} {s0 : Nat} {s1 : Int32} {s2 : Int32} : ip_WP 97 15 [some (.ref x0), some (.ref x1), some (.int x2)] [.int s2, .int s1, .ref s0] (G, F, I, J) b post px ↔ (ip_isO G s0 4 = true ∧ ip_WP 122 0 [some (.ref s0), some (.int s1), some (.int s2)] [] (G, F, I, J) (0, 0) (fun r h' => ip_WP 97 18 [some (.ref x0), some (.ref x1), some (.int x2)] (r.toList ++ []) h' b post px) (fun _ _ => False)) := ip_ck_iff (x := ip_cl 122 [some (.ref s0), some (.int s1), some (.int s2)] [] (0, 0) b) ((ip_st_of f97_15).trans rfl) (ip_cl_iff)
theorem f97_18 : ip_fetch 97 18 = some (.return_, 1) := by decide +kernel
theorem s97_18 {x0 : Nat} {x1 : Nat} {x2 : Int32} : ip_WP 97 18 [some (.ref x0), some (.ref x1), some (.int x2)] [] (G, F, I, J) b post px ↔ post none (G, F, I, J) := ip_rt_iff ((ip_st_of f97_18).trans rfl)
theorem f98_0 : ip_fetch 98 0 = some (.iload_n 1, 1) := by decide +kernel
theorem s98_0 {x0 : Nat} {x1 : Int32} {x2 : Int32} : ip_WP 98 0 [some (.ref x0), some (.int x1), some (.int x2)] [] (G, F, I, J) b post px ↔ ip_WP 98 1 [some (.ref x0), some (.int x1), some (.int x2)] [.int x1] (G, F, I, J) b post px := ip_nx_iff ((ip_st_of f98_0).trans rfl)
-- switch 98 1
theorem f98_1 : ip_fetch 98 1 = some (.tableswitch 65 2 4 #[27, 45, 59], 27) := by decide +kernel
theorem s98_1 {x0 : Nat} {x1 : Int32} {x2 : Int32} {s0 : Int32} : ip_WP 98 1 [some (.ref x0), some (.int x1), some (.int x2)] [.int s0] (G, F, I, J) b post px ↔ if s0 = 2 then ip_WP 98 28 [some (.ref x0), some (.int x1), some (.int x2)] [] (G, F, I, J) b post px else if s0 = 3 then ip_WP 98 46 [some (.ref x0), some (.int x1), some (.int x2)] [] (G, F, I, J) b post px else if s0 = 4 then ip_WP 98 60 [some (.ref x0), some (.int x1), some (.int x2)] [] (G, F, I, J) b post px else ip_WP 98 66 [some (.ref x0), some (.int x1), some (.int x2)] [] (G, F, I, J) b post px := by
  by_cases h0 : s0 = 2
  · subst h0
    rw [if_pos rfl]
    exact ip_nx_iff ((ip_st_of f98_1).trans rfl)
  rw [if_neg h0]
  by_cases h1 : s0 = 3
  · subst h1
    rw [if_pos rfl]
    exact ip_nx_iff ((ip_st_of f98_1).trans rfl)
  rw [if_neg h1]
  by_cases h2 : s0 = 4
  · subst h2
    rw [if_pos rfl]
    exact ip_nx_iff ((ip_st_of f98_1).trans rfl)
  rw [if_neg h2]
  have g0 := lv_neT (a := 2) h0 (by decide)
  have g1 := lv_neT (a := 3) h1 (by decide)
  have g2 := lv_neT (a := 4) h2 (by decide)
  exact ip_s_tsd f98_1 (by omega) rfl rfl
theorem f98_28 : ip_fetch 98 28 = some (.aload_n 0, 1) := by decide +kernel
theorem s98_28 {x0 : Nat} {x1 : Int32} {x2 : Int32} : ip_WP 98 28 [some (.ref x0), some (.int x1), some (.int x2)] [] (G, F, I, J) b post px ↔ ip_WP 98 29 [some (.ref x0), some (.int x1), some (.int x2)] [.ref x0] (G, F, I, J) b post px := ip_nx_iff ((ip_st_of f98_28).trans rfl)
theorem f98_29 : ip_fetch 98 29 = some (.getfield 50, 3) := by decide +kernel
set_option maxRecDepth 100000 in
theorem s98_29 {x0 : Nat} {x1 : Int32} {x2 : Int32} {s0 : Nat} : ip_WP 98 29 [some (.ref x0), some (.int x1), some (.int x2)] [.ref s0] (G, F, I, J) b post px ↔ (ip_isO G s0 3 = true ∧ ip_WP 98 32 [some (.ref x0), some (.int x1), some (.int x2)] [F s0 5] (G, F, I, J) b post px) := ip_s_getf f98_29 (by decide +kernel)
theorem f98_32 : ip_fetch 98 32 = some (.iload_n 2, 1) := by decide +kernel
theorem s98_32 {x0 : Nat} {x1 : Int32} {x2 : Int32} {s0 : Nat} : ip_WP 98 32 [some (.ref x0), some (.int x1), some (.int x2)] [.ref s0] (G, F, I, J) b post px ↔ ip_WP 98 33 [some (.ref x0), some (.int x1), some (.int x2)] [.int x2, .ref s0] (G, F, I, J) b post px := ip_nx_iff ((ip_st_of f98_32).trans rfl)
theorem f98_33 : ip_fetch 98 33 = some (.invokevirtual 44, 3) := by decide +kernel
set_option maxRecDepth 100000 in
theorem s98_33 {x0 : Nat} {x1 : Int32} {x2 : Int32} {s0 : Nat} {s1 : Int32} : ip_WP 98 33 [some (.ref x0), some (.int x1), some (.int x2)] [.int s1, .ref s0] (G, F, I, J) b post px ↔ (ip_isO G s0 9 = true ∧ ip_WP 191 0 [some (.ref s0), some (.int s1)] [] (G, F, I, J) (0, 0) (fun r h' => ip_WP 98 36 [some (.ref x0), some (.int x1), some (.int x2)] (r.toList ++ []) h' b post px) (fun _ _ => False)) := ip_ck_iff (x := ip_cl 191 [some (.ref s0), some (.int s1)] [] (0, 0) b) ((ip_st_of f98_33).trans rfl) (ip_cl_iff)
theorem f98_36 : ip_fetch 98 36 = some (.iconst (-1), 1) := by decide +kernel
theorem s98_36 {x0 : Nat} {x1 : Int32} {x2 : Int32} {s0 : Int32} : ip_WP 98 36 [some (.ref x0), some (.int x1), some (.int x2)] [.int s0] (G, F, I, J) b post px ↔ ip_WP 98 37 [some (.ref x0), some (.int x1), some (.int x2)] [.int (-1), .int s0] (G, F, I, J) b post px := ip_s_iconst f98_36 (by decide)
theorem f98_37 : ip_fetch 98 37 = some (.if_icmp .ne 7, 3) := by decide +kernel
theorem s98_37 {x0 : Nat} {x1 : Int32} {x2 : Int32} {s0 : Int32} {s1 : Int32} : ip_WP 98 37 [some (.ref x0), some (.int x1), some (.int x2)] [.int s1, .int s0] (G, F, I, J) b post px ↔ if ¬ s0 = s1 then ip_WP 98 44 [some (.ref x0), some (.int x1), some (.int x2)] [] (G, F, I, J) b post px else ip_WP 98 40 [some (.ref x0), some (.int x1), some (.int x2)] [] (G, F, I, J) b post px := ip_s_ic_ne f98_37 rfl
theorem f98_40 : ip_fetch 98 40 = some (.iconst 1, 1) := by decide +kernel
theorem s98_40 {x0 : Nat} {x1 : Int32} {x2 : Int32} : ip_WP 98 40 [some (.ref x0), some (.int x1), some (.int x2)] [] (G, F, I, J) b post px ↔ ip_WP 98 41 [some (.ref x0), some (.int x1), some (.int x2)] [.int 1] (G, F, I, J) b post px := ip_s_iconst f98_40 (by decide)
theorem f98_41 : ip_fetch 98 41 = some (.goto 4, 3) := by decide +kernel
theorem s98_41 {x0 : Nat} {x1 : Int32} {x2 : Int32} {s0 : Int32} : ip_WP 98 41 [some (.ref x0), some (.int x1), some (.int x2)] [.int s0] (G, F, I, J) b post px ↔ ip_WP 98 45 [some (.ref x0), some (.int x1), some (.int x2)] [.int s0] (G, F, I, J) b post px := ip_nx_iff ((ip_st_of f98_41).trans rfl)
theorem f98_44 : ip_fetch 98 44 = some (.iconst 0, 1) := by decide +kernel
theorem s98_44 {x0 : Nat} {x1 : Int32} {x2 : Int32} : ip_WP 98 44 [some (.ref x0), some (.int x1), some (.int x2)] [] (G, F, I, J) b post px ↔ ip_WP 98 45 [some (.ref x0), some (.int x1), some (.int x2)] [.int 0] (G, F, I, J) b post px := ip_s_iconst f98_44 (by decide)
theorem f98_45 : ip_fetch 98 45 = some (.ireturn, 1) := by decide +kernel
theorem s98_45 {x0 : Nat} {x1 : Int32} {x2 : Int32} {s0 : Int32} : ip_WP 98 45 [some (.ref x0), some (.int x1), some (.int x2)] [.int s0] (G, F, I, J) b post px ↔ ((s0 = 0 ∨ s0 = 1) ∧ post (some (.int s0)) (G, F, I, J)) := ip_s_zret ((ip_st_of f98_45).trans rfl)
theorem f98_46 : ip_fetch 98 46 = some (.aload_n 0, 1) := by decide +kernel
theorem s98_46 {x0 : Nat} {x1 : Int32} {x2 : Int32} : ip_WP 98 46 [some (.ref x0), some (.int x1), some (.int x2)] [] (G, F, I, J) b post px ↔ ip_WP 98 47 [some (.ref x0), some (.int x1), some (.int x2)] [.ref x0] (G, F, I, J) b post px := ip_nx_iff ((ip_st_of f98_46).trans rfl)
theorem f98_47 : ip_fetch 98 47 = some (.iload_n 2, 1) := by decide +kernel
theorem s98_47 {x0 : Nat} {x1 : Int32} {x2 : Int32} {s0 : Nat} : ip_WP 98 47 [some (.ref x0), some (.int x1), some (.int x2)] [.ref s0] (G, F, I, J) b post px ↔ ip_WP 98 48 [some (.ref x0), some (.int x1), some (.int x2)] [.int x2, .ref s0] (G, F, I, J) b post px := ip_nx_iff ((ip_st_of f98_47).trans rfl)
theorem f98_48 : ip_fetch 98 48 = some (.invokevirtual 53, 3) := by decide +kernel
set_option maxRecDepth 100000 in
theorem s98_48 {x0 : Nat} {x1 : Int32} {x2 : Int32} {s0 : Nat} {s1 : Int32} : ip_WP 98 48 [some (.ref x0), some (.int x1), some (.int x2)] [.int s1, .ref s0] (G, F, I, J) b post px ↔ (ip_isO G s0 3 = true ∧ ip_WP 116 0 [some (.ref s0), some (.int s1), none, none] [] (G, F, I, J) (0, 0) (fun r h' => ip_WP 98 51 [some (.ref x0), some (.int x1), some (.int x2)] (r.toList ++ []) h' b post px) (fun _ _ => False)) := ip_ck_iff (x := ip_cl 116 [some (.ref s0), some (.int s1), none, none] [] (0, 0) b) ((ip_st_of f98_48).trans rfl) (ip_cl_iff)
theorem f98_51 : ip_fetch 98 51 = some (.ifCond .ne 7, 3) := by decide +kernel
theorem s98_51 {x0 : Nat} {x1 : Int32} {x2 : Int32} {s0 : Int32} : ip_WP 98 51 [some (.ref x0), some (.int x1), some (.int x2)] [.int s0] (G, F, I, J) b post px ↔ if ¬ s0 = 0 then ip_WP 98 58 [some (.ref x0), some (.int x1), some (.int x2)] [] (G, F, I, J) b post px else ip_WP 98 54 [some (.ref x0), some (.int x1), some (.int x2)] [] (G, F, I, J) b post px := ip_s_if_ne f98_51 rfl
theorem f98_54 : ip_fetch 98 54 = some (.iconst 1, 1) := by decide +kernel
theorem s98_54 {x0 : Nat} {x1 : Int32} {x2 : Int32} : ip_WP 98 54 [some (.ref x0), some (.int x1), some (.int x2)] [] (G, F, I, J) b post px ↔ ip_WP 98 55 [some (.ref x0), some (.int x1), some (.int x2)] [.int 1] (G, F, I, J) b post px := ip_s_iconst f98_54 (by decide)
theorem f98_55 : ip_fetch 98 55 = some (.goto 4, 3) := by decide +kernel
theorem s98_55 {x0 : Nat} {x1 : Int32} {x2 : Int32} {s0 : Int32} : ip_WP 98 55 [some (.ref x0), some (.int x1), some (.int x2)] [.int s0] (G, F, I, J) b post px ↔ ip_WP 98 59 [some (.ref x0), some (.int x1), some (.int x2)] [.int s0] (G, F, I, J) b post px := ip_nx_iff ((ip_st_of f98_55).trans rfl)
theorem f98_58 : ip_fetch 98 58 = some (.iconst 0, 1) := by decide +kernel
theorem s98_58 {x0 : Nat} {x1 : Int32} {x2 : Int32} : ip_WP 98 58 [some (.ref x0), some (.int x1), some (.int x2)] [] (G, F, I, J) b post px ↔ ip_WP 98 59 [some (.ref x0), some (.int x1), some (.int x2)] [.int 0] (G, F, I, J) b post px := ip_s_iconst f98_58 (by decide)
theorem f98_59 : ip_fetch 98 59 = some (.ireturn, 1) := by decide +kernel
theorem s98_59 {x0 : Nat} {x1 : Int32} {x2 : Int32} {s0 : Int32} : ip_WP 98 59 [some (.ref x0), some (.int x1), some (.int x2)] [.int s0] (G, F, I, J) b post px ↔ ((s0 = 0 ∨ s0 = 1) ∧ post (some (.int s0)) (G, F, I, J)) := ip_s_zret ((ip_st_of f98_59).trans rfl)
theorem f98_60 : ip_fetch 98 60 = some (.aload_n 0, 1) := by decide +kernel
theorem s98_60 {x0 : Nat} {x1 : Int32} {x2 : Int32} : ip_WP 98 60 [some (.ref x0), some (.int x1), some (.int x2)] [] (G, F, I, J) b post px ↔ ip_WP 98 61 [some (.ref x0), some (.int x1), some (.int x2)] [.ref x0] (G, F, I, J) b post px := ip_nx_iff ((ip_st_of f98_60).trans rfl)
theorem f98_61 : ip_fetch 98 61 = some (.iload_n 2, 1) := by decide +kernel
theorem s98_61 {x0 : Nat} {x1 : Int32} {x2 : Int32} {s0 : Nat} : ip_WP 98 61 [some (.ref x0), some (.int x1), some (.int x2)] [.ref s0] (G, F, I, J) b post px ↔ ip_WP 98 62 [some (.ref x0), some (.int x1), some (.int x2)] [.int x2, .ref s0] (G, F, I, J) b post px := ip_nx_iff ((ip_st_of f98_61).trans rfl)
theorem f98_62 : ip_fetch 98 62 = some (.invokestatic 56, 3) := by decide +kernel
set_option maxRecDepth 100000 in
theorem s98_62 {x0 : Nat} {x1 : Int32} {x2 : Int32} {s0 : Nat} {s1 : Int32} : ip_WP 98 62 [some (.ref x0), some (.int x1), some (.int x2)] [.int s1, .ref s0] (G, F, I, J) b post px ↔ ip_WP 99 0 [some (.ref s0), some (.int s1), none, none] [] (G, F, I, J) (0, 0) (fun r h' => ip_WP 98 65 [some (.ref x0), some (.int x1), some (.int x2)] (r.toList ++ []) h' b post px) (fun _ _ => False) := ip_cl_iff ((ip_st_of f98_62).trans (rfl : _ = ip_cl 99 [some (.ref s0), some (.int s1), none, none] [] (0, 0) b))
theorem f98_65 : ip_fetch 98 65 = some (.ireturn, 1) := by decide +kernel
theorem s98_65 {x0 : Nat} {x1 : Int32} {x2 : Int32} {s0 : Int32} : ip_WP 98 65 [some (.ref x0), some (.int x1), some (.int x2)] [.int s0] (G, F, I, J) b post px ↔ ((s0 = 0 ∨ s0 = 1) ∧ post (some (.int s0)) (G, F, I, J)) := ip_s_zret ((ip_st_of f98_65).trans rfl)
theorem f98_66 : ip_fetch 98 66 = some (.aload_n 0, 1) := by decide +kernel
theorem s98_66 {x0 : Nat} {x1 : Int32} {x2 : Int32} : ip_WP 98 66 [some (.ref x0), some (.int x1), some (.int x2)] [] (G, F, I, J) b post px ↔ ip_WP 98 67 [some (.ref x0), some (.int x1), some (.int x2)] [.ref x0] (G, F, I, J) b post px := ip_nx_iff ((ip_st_of f98_66).trans rfl)
theorem f98_67 : ip_fetch 98 67 = some (.iload_n 2, 1) := by decide +kernel
theorem s98_67 {x0 : Nat} {x1 : Int32} {x2 : Int32} {s0 : Nat} : ip_WP 98 67 [some (.ref x0), some (.int x1), some (.int x2)] [.ref s0] (G, F, I, J) b post px ↔ ip_WP 98 68 [some (.ref x0), some (.int x1), some (.int x2)] [.int x2, .ref s0] (G, F, I, J) b post px := ip_nx_iff ((ip_st_of f98_67).trans rfl)
theorem f98_68 : ip_fetch 98 68 = some (.invokestatic 60, 3) := by decide +kernel
set_option maxRecDepth 100000 in
theorem s98_68 {x0 : Nat} {x1 : Int32} {x2 : Int32} {s0 : Nat} {s1 : Int32} : ip_WP 98 68 [some (.ref x0), some (.int x1), some (.int x2)] [.int s1, .ref s0] (G, F, I, J) b post px ↔ ip_WP 100 0 [some (.ref s0), some (.int s1), none, none, none] [] (G, F, I, J) (0, 0) (fun r h' => ip_WP 98 71 [some (.ref x0), some (.int x1), some (.int x2)] (r.toList ++ []) h' b post px) (fun _ _ => False) := ip_cl_iff ((ip_st_of f98_68).trans (rfl : _ = ip_cl 100 [some (.ref s0), some (.int s1), none, none, none] [] (0, 0) b))
theorem f98_71 : ip_fetch 98 71 = some (.ireturn, 1) := by decide +kernel
theorem s98_71 {x0 : Nat} {x1 : Int32} {x2 : Int32} {s0 : Int32} : ip_WP 98 71 [some (.ref x0), some (.int x1), some (.int x2)] [.int s0] (G, F, I, J) b post px ↔ ((s0 = 0 ∨ s0 = 1) ∧ post (some (.int s0)) (G, F, I, J)) := ip_s_zret ((ip_st_of f98_71).trans rfl)
theorem f99_0 : ip_fetch 99 0 = some (.aload_n 0, 1) := by decide +kernel
theorem s99_0 {x0 : Nat} {x1 : Int32} {x2 : Option Value} {x3 : Option Value} : ip_WP 99 0 [some (.ref x0), some (.int x1), x2, x3] [] (G, F, I, J) b post px ↔ ip_WP 99 1 [some (.ref x0), some (.int x1), x2, x3] [.ref x0] (G, F, I, J) b post px := ip_nx_iff ((ip_st_of f99_0).trans rfl)
theorem f99_1 : ip_fetch 99 1 = some (.getfield 50, 3) := by decide +kernel
set_option maxRecDepth 100000 in
theorem s99_1 {x0 : Nat} {x1 : Int32} {x2 : Option Value} {x3 : Option Value} {s0 : Nat} : ip_WP 99 1 [some (.ref x0), some (.int x1), x2, x3] [.ref s0] (G, F, I, J) b post px ↔ (ip_isO G s0 3 = true ∧ ip_WP 99 4 [some (.ref x0), some (.int x1), x2, x3] [F s0 5] (G, F, I, J) b post px) := ip_s_getf f99_1 (by decide +kernel)
theorem f99_4 : ip_fetch 99 4 = some (.iload_n 1, 1) := by decide +kernel
theorem s99_4 {x0 : Nat} {x1 : Int32} {x2 : Option Value} {x3 : Option Value} {s0 : Nat} : ip_WP 99 4 [some (.ref x0), some (.int x1), x2, x3] [.ref s0] (G, F, I, J) b post px ↔ ip_WP 99 5 [some (.ref x0), some (.int x1), x2, x3] [.int x1, .ref s0] (G, F, I, J) b post px := ip_nx_iff ((ip_st_of f99_4).trans rfl)
theorem f99_5 : ip_fetch 99 5 = some (.invokevirtual 44, 3) := by decide +kernel
set_option maxRecDepth 100000 in
theorem s99_5 {x0 : Nat} {x1 : Int32} {x2 : Option Value} {x3 : Option Value} {s0 : Nat} {s1 : Int32} : ip_WP 99 5 [some (.ref x0), some (.int x1), x2, x3] [.int s1, .ref s0] (G, F, I, J) b post px ↔ (ip_isO G s0 9 = true ∧ ip_WP 191 0 [some (.ref s0), some (.int s1)] [] (G, F, I, J) (0, 0) (fun r h' => ip_WP 99 8 [some (.ref x0), some (.int x1), x2, x3] (r.toList ++ []) h' b post px) (fun _ _ => False)) := ip_ck_iff (x := ip_cl 191 [some (.ref s0), some (.int s1)] [] (0, 0) b) ((ip_st_of f99_5).trans rfl) (ip_cl_iff)
theorem f99_8 : ip_fetch 99 8 = some (.istore_n 2, 1) := by decide +kernel
theorem s99_8 {x0 : Nat} {x1 : Int32} {x2 : Option Value} {x3 : Option Value} {s0 : Int32} : ip_WP 99 8 [some (.ref x0), some (.int x1), x2, x3] [.int s0] (G, F, I, J) b post px ↔ ip_WP 99 9 [some (.ref x0), some (.int x1), some (.int s0), x3] [] (G, F, I, J) b post px := ip_nx_iff ((ip_st_of f99_8).trans rfl)
theorem f99_9 : ip_fetch 99 9 = some (.aload_n 0, 1) := by decide +kernel
theorem s99_9 {x0 : Nat} {x1 : Int32} {x2 : Int32} {x3 : Option Value} : ip_WP 99 9 [some (.ref x0), some (.int x1), some (.int x2), x3] [] (G, F, I, J) b post px ↔ ip_WP 99 10 [some (.ref x0), some (.int x1), some (.int x2), x3] [.ref x0] (G, F, I, J) b post px := ip_nx_iff ((ip_st_of f99_9).trans rfl)
theorem f99_10 : ip_fetch 99 10 = some (.getfield 40, 3) := by decide +kernel
set_option maxRecDepth 100000 in
theorem s99_10 {x0 : Nat} {x1 : Int32} {x2 : Int32} {x3 : Option Value} {s0 : Nat} : ip_WP 99 10 [some (.ref x0), some (.int x1), some (.int x2), x3] [.ref s0] (G, F, I, J) b post px ↔ (ip_isO G s0 3 = true ∧ ip_WP 99 13 [some (.ref x0), some (.int x1), some (.int x2), x3] [F s0 7] (G, F, I, J) b post px) := ip_s_getf f99_10 (by decide +kernel)
theorem f99_13 : ip_fetch 99 13 = some (.iconst 3, 1) := by decide +kernel
theorem s99_13 {x0 : Nat} {x1 : Int32} {x2 : Int32} {x3 : Option Value} {s0 : Nat} : ip_WP 99 13 [some (.ref x0), some (.int x1), some (.int x2), x3] [.ref s0] (G, F, I, J) b post px ↔ ip_WP 99 14 [some (.ref x0), some (.int x1), some (.int x2), x3] [.int 3, .ref s0] (G, F, I, J) b post px := ip_s_iconst f99_13 (by decide)
theorem f99_14 : ip_fetch 99 14 = some (.invokevirtual 44, 3) := by decide +kernel
set_option maxRecDepth 100000 in
theorem s99_14 {x0 : Nat} {x1 : Int32} {x2 : Int32} {x3 : Option Value} {s0 : Nat} {s1 : Int32} : ip_WP 99 14 [some (.ref x0), some (.int x1), some (.int x2), x3] [.int s1, .ref s0] (G, F, I, J) b post px ↔ (ip_isO G s0 9 = true ∧ ip_WP 191 0 [some (.ref s0), some (.int s1)] [] (G, F, I, J) (0, 0) (fun r h' => ip_WP 99 17 [some (.ref x0), some (.int x1), some (.int x2), x3] (r.toList ++ []) h' b post px) (fun _ _ => False)) := ip_ck_iff (x := ip_cl 191 [some (.ref s0), some (.int s1)] [] (0, 0) b) ((ip_st_of f99_14).trans rfl) (ip_cl_iff)
theorem f99_17 : ip_fetch 99 17 = some (.istore_n 3, 1) := by decide +kernel
theorem s99_17 {x0 : Nat} {x1 : Int32} {x2 : Int32} {x3 : Option Value} {s0 : Int32} : ip_WP 99 17 [some (.ref x0), some (.int x1), some (.int x2), x3] [.int s0] (G, F, I, J) b post px ↔ ip_WP 99 18 [some (.ref x0), some (.int x1), some (.int x2), some (.int s0)] [] (G, F, I, J) b post px := ip_nx_iff ((ip_st_of f99_17).trans rfl)
theorem f99_18 : ip_fetch 99 18 = some (.iload_n 2, 1) := by decide +kernel
theorem s99_18 {x0 : Nat} {x1 : Int32} {x2 : Int32} {x3 : Int32} : ip_WP 99 18 [some (.ref x0), some (.int x1), some (.int x2), some (.int x3)] [] (G, F, I, J) b post px ↔ ip_WP 99 19 [some (.ref x0), some (.int x1), some (.int x2), some (.int x3)] [.int x2] (G, F, I, J) b post px := ip_nx_iff ((ip_st_of f99_18).trans rfl)
theorem f99_19 : ip_fetch 99 19 = some (.iconst (-1), 1) := by decide +kernel
theorem s99_19 {x0 : Nat} {x1 : Int32} {x2 : Int32} {x3 : Int32} {s0 : Int32} : ip_WP 99 19 [some (.ref x0), some (.int x1), some (.int x2), some (.int x3)] [.int s0] (G, F, I, J) b post px ↔ ip_WP 99 20 [some (.ref x0), some (.int x1), some (.int x2), some (.int x3)] [.int (-1), .int s0] (G, F, I, J) b post px := ip_s_iconst f99_19 (by decide)
theorem f99_20 : ip_fetch 99 20 = some (.if_icmp .eq 17, 3) := by decide +kernel
theorem s99_20 {x0 : Nat} {x1 : Int32} {x2 : Int32} {x3 : Int32} {s0 : Int32} {s1 : Int32} : ip_WP 99 20 [some (.ref x0), some (.int x1), some (.int x2), some (.int x3)] [.int s1, .int s0] (G, F, I, J) b post px ↔ if s0 = s1 then ip_WP 99 37 [some (.ref x0), some (.int x1), some (.int x2), some (.int x3)] [] (G, F, I, J) b post px else ip_WP 99 23 [some (.ref x0), some (.int x1), some (.int x2), some (.int x3)] [] (G, F, I, J) b post px := ip_s_ic_eq f99_20 rfl
theorem f99_23 : ip_fetch 99 23 = some (.iload_n 3, 1) := by decide +kernel
theorem s99_23 {x0 : Nat} {x1 : Int32} {x2 : Int32} {x3 : Int32} : ip_WP 99 23 [some (.ref x0), some (.int x1), some (.int x2), some (.int x3)] [] (G, F, I, J) b post px ↔ ip_WP 99 24 [some (.ref x0), some (.int x1), some (.int x2), some (.int x3)] [.int x3] (G, F, I, J) b post px := ip_nx_iff ((ip_st_of f99_23).trans rfl)
theorem f99_24 : ip_fetch 99 24 = some (.iconst (-1), 1) := by decide +kernel
theorem s99_24 {x0 : Nat} {x1 : Int32} {x2 : Int32} {x3 : Int32} {s0 : Int32} : ip_WP 99 24 [some (.ref x0), some (.int x1), some (.int x2), some (.int x3)] [.int s0] (G, F, I, J) b post px ↔ ip_WP 99 25 [some (.ref x0), some (.int x1), some (.int x2), some (.int x3)] [.int (-1), .int s0] (G, F, I, J) b post px := ip_s_iconst f99_24 (by decide)
theorem f99_25 : ip_fetch 99 25 = some (.if_icmp .eq 12, 3) := by decide +kernel
theorem s99_25 {x0 : Nat} {x1 : Int32} {x2 : Int32} {x3 : Int32} {s0 : Int32} {s1 : Int32} : ip_WP 99 25 [some (.ref x0), some (.int x1), some (.int x2), some (.int x3)] [.int s1, .int s0] (G, F, I, J) b post px ↔ if s0 = s1 then ip_WP 99 37 [some (.ref x0), some (.int x1), some (.int x2), some (.int x3)] [] (G, F, I, J) b post px else ip_WP 99 28 [some (.ref x0), some (.int x1), some (.int x2), some (.int x3)] [] (G, F, I, J) b post px := ip_s_ic_eq f99_25 rfl
theorem f99_28 : ip_fetch 99 28 = some (.iload_n 2, 1) := by decide +kernel
theorem s99_28 {x0 : Nat} {x1 : Int32} {x2 : Int32} {x3 : Int32} : ip_WP 99 28 [some (.ref x0), some (.int x1), some (.int x2), some (.int x3)] [] (G, F, I, J) b post px ↔ ip_WP 99 29 [some (.ref x0), some (.int x1), some (.int x2), some (.int x3)] [.int x2] (G, F, I, J) b post px := ip_nx_iff ((ip_st_of f99_28).trans rfl)
theorem f99_29 : ip_fetch 99 29 = some (.iload_n 3, 1) := by decide +kernel
theorem s99_29 {x0 : Nat} {x1 : Int32} {x2 : Int32} {x3 : Int32} {s0 : Int32} : ip_WP 99 29 [some (.ref x0), some (.int x1), some (.int x2), some (.int x3)] [.int s0] (G, F, I, J) b post px ↔ ip_WP 99 30 [some (.ref x0), some (.int x1), some (.int x2), some (.int x3)] [.int x3, .int s0] (G, F, I, J) b post px := ip_nx_iff ((ip_st_of f99_29).trans rfl)
theorem f99_30 : ip_fetch 99 30 = some (.if_icmp .ge 7, 3) := by decide +kernel
theorem s99_30 {x0 : Nat} {x1 : Int32} {x2 : Int32} {x3 : Int32} {s0 : Int32} {s1 : Int32} : ip_WP 99 30 [some (.ref x0), some (.int x1), some (.int x2), some (.int x3)] [.int s1, .int s0] (G, F, I, J) b post px ↔ if s1 ≤ s0 then ip_WP 99 37 [some (.ref x0), some (.int x1), some (.int x2), some (.int x3)] [] (G, F, I, J) b post px else ip_WP 99 33 [some (.ref x0), some (.int x1), some (.int x2), some (.int x3)] [] (G, F, I, J) b post px := ip_s_ic_ge f99_30 rfl
theorem f99_33 : ip_fetch 99 33 = some (.iconst 1, 1) := by decide +kernel
theorem s99_33 {x0 : Nat} {x1 : Int32} {x2 : Int32} {x3 : Int32} : ip_WP 99 33 [some (.ref x0), some (.int x1), some (.int x2), some (.int x3)] [] (G, F, I, J) b post px ↔ ip_WP 99 34 [some (.ref x0), some (.int x1), some (.int x2), some (.int x3)] [.int 1] (G, F, I, J) b post px := ip_s_iconst f99_33 (by decide)
theorem f99_34 : ip_fetch 99 34 = some (.goto 4, 3) := by decide +kernel
theorem s99_34 {x0 : Nat} {x1 : Int32} {x2 : Int32} {x3 : Int32} {s0 : Int32} : ip_WP 99 34 [some (.ref x0), some (.int x1), some (.int x2), some (.int x3)] [.int s0] (G, F, I, J) b post px ↔ ip_WP 99 38 [some (.ref x0), some (.int x1), some (.int x2), some (.int x3)] [.int s0] (G, F, I, J) b post px := ip_nx_iff ((ip_st_of f99_34).trans rfl)
theorem f99_37 : ip_fetch 99 37 = some (.iconst 0, 1) := by decide +kernel
theorem s99_37 {x0 : Nat} {x1 : Int32} {x2 : Int32} {x3 : Int32} : ip_WP 99 37 [some (.ref x0), some (.int x1), some (.int x2), some (.int x3)] [] (G, F, I, J) b post px ↔ ip_WP 99 38 [some (.ref x0), some (.int x1), some (.int x2), some (.int x3)] [.int 0] (G, F, I, J) b post px := ip_s_iconst f99_37 (by decide)
theorem f99_38 : ip_fetch 99 38 = some (.ireturn, 1) := by decide +kernel
theorem s99_38 {x0 : Nat} {x1 : Int32} {x2 : Int32} {x3 : Int32} {s0 : Int32} : ip_WP 99 38 [some (.ref x0), some (.int x1), some (.int x2), some (.int x3)] [.int s0] (G, F, I, J) b post px ↔ ((s0 = 0 ∨ s0 = 1) ∧ post (some (.int s0)) (G, F, I, J)) := ip_s_zret ((ip_st_of f99_38).trans rfl)
theorem f100_0 : ip_fetch 100 0 = some (.aload_n 0, 1) := by decide +kernel
theorem s100_0 {x0 : Nat} {x1 : Int32} {x2 : Option Value} {x3 : Option Value} {x4 : Option Value} : ip_WP 100 0 [some (.ref x0), some (.int x1), x2, x3, x4] [] (G, F, I, J) b post px ↔ ip_WP 100 1 [some (.ref x0), some (.int x1), x2, x3, x4] [.ref x0] (G, F, I, J) b post px := ip_nx_iff ((ip_st_of f100_0).trans rfl)
theorem f100_1 : ip_fetch 100 1 = some (.getfield 50, 3) := by decide +kernel
set_option maxRecDepth 100000 in
theorem s100_1 {x0 : Nat} {x1 : Int32} {x2 : Option Value} {x3 : Option Value} {x4 : Option Value} {s0 : Nat} : ip_WP 100 1 [some (.ref x0), some (.int x1), x2, x3, x4] [.ref s0] (G, F, I, J) b post px ↔ (ip_isO G s0 3 = true ∧ ip_WP 100 4 [some (.ref x0), some (.int x1), x2, x3, x4] [F s0 5] (G, F, I, J) b post px) := ip_s_getf f100_1 (by decide +kernel)
theorem f100_4 : ip_fetch 100 4 = some (.iload_n 1, 1) := by decide +kernel
theorem s100_4 {x0 : Nat} {x1 : Int32} {x2 : Option Value} {x3 : Option Value} {x4 : Option Value} {s0 : Nat} : ip_WP 100 4 [some (.ref x0), some (.int x1), x2, x3, x4] [.ref s0] (G, F, I, J) b post px ↔ ip_WP 100 5 [some (.ref x0), some (.int x1), x2, x3, x4] [.int x1, .ref s0] (G, F, I, J) b post px := ip_nx_iff ((ip_st_of f100_4).trans rfl)
theorem f100_5 : ip_fetch 100 5 = some (.invokevirtual 44, 3) := by decide +kernel
set_option maxRecDepth 100000 in
theorem s100_5 {x0 : Nat} {x1 : Int32} {x2 : Option Value} {x3 : Option Value} {x4 : Option Value} {s0 : Nat} {s1 : Int32} : ip_WP 100 5 [some (.ref x0), some (.int x1), x2, x3, x4] [.int s1, .ref s0] (G, F, I, J) b post px ↔ (ip_isO G s0 9 = true ∧ ip_WP 191 0 [some (.ref s0), some (.int s1)] [] (G, F, I, J) (0, 0) (fun r h' => ip_WP 100 8 [some (.ref x0), some (.int x1), x2, x3, x4] (r.toList ++ []) h' b post px) (fun _ _ => False)) := ip_ck_iff (x := ip_cl 191 [some (.ref s0), some (.int s1)] [] (0, 0) b) ((ip_st_of f100_5).trans rfl) (ip_cl_iff)
theorem f100_8 : ip_fetch 100 8 = some (.istore_n 2, 1) := by decide +kernel
theorem s100_8 {x0 : Nat} {x1 : Int32} {x2 : Option Value} {x3 : Option Value} {x4 : Option Value} {s0 : Int32} : ip_WP 100 8 [some (.ref x0), some (.int x1), x2, x3, x4] [.int s0] (G, F, I, J) b post px ↔ ip_WP 100 9 [some (.ref x0), some (.int x1), some (.int s0), x3, x4] [] (G, F, I, J) b post px := ip_nx_iff ((ip_st_of f100_8).trans rfl)
theorem f100_9 : ip_fetch 100 9 = some (.aload_n 0, 1) := by decide +kernel
theorem s100_9 {x0 : Nat} {x1 : Int32} {x2 : Int32} {x3 : Option Value} {x4 : Option Value} : ip_WP 100 9 [some (.ref x0), some (.int x1), some (.int x2), x3, x4] [] (G, F, I, J) b post px ↔ ip_WP 100 10 [some (.ref x0), some (.int x1), some (.int x2), x3, x4] [.ref x0] (G, F, I, J) b post px := ip_nx_iff ((ip_st_of f100_9).trans rfl)
theorem f100_10 : ip_fetch 100 10 = some (.getfield 40, 3) := by decide +kernel
set_option maxRecDepth 100000 in
theorem s100_10 {x0 : Nat} {x1 : Int32} {x2 : Int32} {x3 : Option Value} {x4 : Option Value} {s0 : Nat} : ip_WP 100 10 [some (.ref x0), some (.int x1), some (.int x2), x3, x4] [.ref s0] (G, F, I, J) b post px ↔ (ip_isO G s0 3 = true ∧ ip_WP 100 13 [some (.ref x0), some (.int x1), some (.int x2), x3, x4] [F s0 7] (G, F, I, J) b post px) := ip_s_getf f100_10 (by decide +kernel)
theorem f100_13 : ip_fetch 100 13 = some (.iconst 2, 1) := by decide +kernel
theorem s100_13 {x0 : Nat} {x1 : Int32} {x2 : Int32} {x3 : Option Value} {x4 : Option Value} {s0 : Nat} : ip_WP 100 13 [some (.ref x0), some (.int x1), some (.int x2), x3, x4] [.ref s0] (G, F, I, J) b post px ↔ ip_WP 100 14 [some (.ref x0), some (.int x1), some (.int x2), x3, x4] [.int 2, .ref s0] (G, F, I, J) b post px := ip_s_iconst f100_13 (by decide)
theorem f100_14 : ip_fetch 100 14 = some (.invokevirtual 44, 3) := by decide +kernel
set_option maxRecDepth 100000 in
theorem s100_14 {x0 : Nat} {x1 : Int32} {x2 : Int32} {x3 : Option Value} {x4 : Option Value} {s0 : Nat} {s1 : Int32} : ip_WP 100 14 [some (.ref x0), some (.int x1), some (.int x2), x3, x4] [.int s1, .ref s0] (G, F, I, J) b post px ↔ (ip_isO G s0 9 = true ∧ ip_WP 191 0 [some (.ref s0), some (.int s1)] [] (G, F, I, J) (0, 0) (fun r h' => ip_WP 100 17 [some (.ref x0), some (.int x1), some (.int x2), x3, x4] (r.toList ++ []) h' b post px) (fun _ _ => False)) := ip_ck_iff (x := ip_cl 191 [some (.ref s0), some (.int s1)] [] (0, 0) b) ((ip_st_of f100_14).trans rfl) (ip_cl_iff)
theorem f100_17 : ip_fetch 100 17 = some (.istore_n 3, 1) := by decide +kernel
theorem s100_17 {x0 : Nat} {x1 : Int32} {x2 : Int32} {x3 : Option Value} {x4 : Option Value} {s0 : Int32} : ip_WP 100 17 [some (.ref x0), some (.int x1), some (.int x2), x3, x4] [.int s0] (G, F, I, J) b post px ↔ ip_WP 100 18 [some (.ref x0), some (.int x1), some (.int x2), some (.int s0), x4] [] (G, F, I, J) b post px := ip_nx_iff ((ip_st_of f100_17).trans rfl)
theorem f100_18 : ip_fetch 100 18 = some (.aload_n 0, 1) := by decide +kernel
theorem s100_18 {x0 : Nat} {x1 : Int32} {x2 : Int32} {x3 : Int32} {x4 : Option Value} : ip_WP 100 18 [some (.ref x0), some (.int x1), some (.int x2), some (.int x3), x4] [] (G, F, I, J) b post px ↔ ip_WP 100 19 [some (.ref x0), some (.int x1), some (.int x2), some (.int x3), x4] [.ref x0] (G, F, I, J) b post px := ip_nx_iff ((ip_st_of f100_18).trans rfl)
theorem f100_19 : ip_fetch 100 19 = some (.getfield 40, 3) := by decide +kernel
set_option maxRecDepth 100000 in
theorem s100_19 {x0 : Nat} {x1 : Int32} {x2 : Int32} {x3 : Int32} {x4 : Option Value} {s0 : Nat} : ip_WP 100 19 [some (.ref x0), some (.int x1), some (.int x2), some (.int x3), x4] [.ref s0] (G, F, I, J) b post px ↔ (ip_isO G s0 3 = true ∧ ip_WP 100 22 [some (.ref x0), some (.int x1), some (.int x2), some (.int x3), x4] [F s0 7] (G, F, I, J) b post px) := ip_s_getf f100_19 (by decide +kernel)
theorem f100_22 : ip_fetch 100 22 = some (.iconst 3, 1) := by decide +kernel
theorem s100_22 {x0 : Nat} {x1 : Int32} {x2 : Int32} {x3 : Int32} {x4 : Option Value} {s0 : Nat} : ip_WP 100 22 [some (.ref x0), some (.int x1), some (.int x2), some (.int x3), x4] [.ref s0] (G, F, I, J) b post px ↔ ip_WP 100 23 [some (.ref x0), some (.int x1), some (.int x2), some (.int x3), x4] [.int 3, .ref s0] (G, F, I, J) b post px := ip_s_iconst f100_22 (by decide)
theorem f100_23 : ip_fetch 100 23 = some (.invokevirtual 44, 3) := by decide +kernel
set_option maxRecDepth 100000 in
theorem s100_23 {x0 : Nat} {x1 : Int32} {x2 : Int32} {x3 : Int32} {x4 : Option Value} {s0 : Nat} {s1 : Int32} : ip_WP 100 23 [some (.ref x0), some (.int x1), some (.int x2), some (.int x3), x4] [.int s1, .ref s0] (G, F, I, J) b post px ↔ (ip_isO G s0 9 = true ∧ ip_WP 191 0 [some (.ref s0), some (.int s1)] [] (G, F, I, J) (0, 0) (fun r h' => ip_WP 100 26 [some (.ref x0), some (.int x1), some (.int x2), some (.int x3), x4] (r.toList ++ []) h' b post px) (fun _ _ => False)) := ip_ck_iff (x := ip_cl 191 [some (.ref s0), some (.int s1)] [] (0, 0) b) ((ip_st_of f100_23).trans rfl) (ip_cl_iff)
theorem f100_26 : ip_fetch 100 26 = some (.istore 4, 2) := by decide +kernel
theorem s100_26 {x0 : Nat} {x1 : Int32} {x2 : Int32} {x3 : Int32} {x4 : Option Value} {s0 : Int32} : ip_WP 100 26 [some (.ref x0), some (.int x1), some (.int x2), some (.int x3), x4] [.int s0] (G, F, I, J) b post px ↔ ip_WP 100 28 [some (.ref x0), some (.int x1), some (.int x2), some (.int x3), some (.int s0)] [] (G, F, I, J) b post px := ip_nx_iff ((ip_st_of f100_26).trans rfl)
theorem f100_28 : ip_fetch 100 28 = some (.iload_n 2, 1) := by decide +kernel
theorem s100_28 {x0 : Nat} {x1 : Int32} {x2 : Int32} {x3 : Int32} {x4 : Int32} : ip_WP 100 28 [some (.ref x0), some (.int x1), some (.int x2), some (.int x3), some (.int x4)] [] (G, F, I, J) b post px ↔ ip_WP 100 29 [some (.ref x0), some (.int x1), some (.int x2), some (.int x3), some (.int x4)] [.int x2] (G, F, I, J) b post px := ip_nx_iff ((ip_st_of f100_28).trans rfl)
theorem f100_29 : ip_fetch 100 29 = some (.iconst (-1), 1) := by decide +kernel
theorem s100_29 {x0 : Nat} {x1 : Int32} {x2 : Int32} {x3 : Int32} {x4 : Int32} {s0 : Int32} : ip_WP 100 29 [some (.ref x0), some (.int x1), some (.int x2), some (.int x3), some (.int x4)] [.int s0] (G, F, I, J) b post px ↔ ip_WP 100 30 [some (.ref x0), some (.int x1), some (.int x2), some (.int x3), some (.int x4)] [.int (-1), .int s0] (G, F, I, J) b post px := ip_s_iconst f100_29 (by decide)
theorem f100_30 : ip_fetch 100 30 = some (.if_icmp .eq 36, 3) := by decide +kernel
theorem s100_30 {x0 : Nat} {x1 : Int32} {x2 : Int32} {x3 : Int32} {x4 : Int32} {s0 : Int32} {s1 : Int32} : ip_WP 100 30 [some (.ref x0), some (.int x1), some (.int x2), some (.int x3), some (.int x4)] [.int s1, .int s0] (G, F, I, J) b post px ↔ if s0 = s1 then ip_WP 100 66 [some (.ref x0), some (.int x1), some (.int x2), some (.int x3), some (.int x4)] [] (G, F, I, J) b post px else ip_WP 100 33 [some (.ref x0), some (.int x1), some (.int x2), some (.int x3), some (.int x4)] [] (G, F, I, J) b post px := ip_s_ic_eq f100_30 rfl
theorem f100_33 : ip_fetch 100 33 = some (.aload_n 0, 1) := by decide +kernel
theorem s100_33 {x0 : Nat} {x1 : Int32} {x2 : Int32} {x3 : Int32} {x4 : Int32} : ip_WP 100 33 [some (.ref x0), some (.int x1), some (.int x2), some (.int x3), some (.int x4)] [] (G, F, I, J) b post px ↔ ip_WP 100 34 [some (.ref x0), some (.int x1), some (.int x2), some (.int x3), some (.int x4)] [.ref x0] (G, F, I, J) b post px := ip_nx_iff ((ip_st_of f100_33).trans rfl)
theorem f100_34 : ip_fetch 100 34 = some (.iload_n 1, 1) := by decide +kernel
theorem s100_34 {x0 : Nat} {x1 : Int32} {x2 : Int32} {x3 : Int32} {x4 : Int32} {s0 : Nat} : ip_WP 100 34 [some (.ref x0), some (.int x1), some (.int x2), some (.int x3), some (.int x4)] [.ref s0] (G, F, I, J) b post px ↔ ip_WP 100 35 [some (.ref x0), some (.int x1), some (.int x2), some (.int x3), some (.int x4)] [.int x1, .ref s0] (G, F, I, J) b post px := ip_nx_iff ((ip_st_of f100_34).trans rfl)
theorem f100_35 : ip_fetch 100 35 = some (.invokevirtual 63, 3) := by decide +kernel
set_option maxRecDepth 100000 in
theorem s100_35 {x0 : Nat} {x1 : Int32} {x2 : Int32} {x3 : Int32} {x4 : Int32} {s0 : Nat} {s1 : Int32} : ip_WP 100 35 [some (.ref x0), some (.int x1), some (.int x2), some (.int x3), some (.int x4)] [.int s1, .ref s0] (G, F, I, J) b post px ↔ (ip_isO G s0 3 = true ∧ ip_WP 108 0 [some (.ref s0), some (.int s1)] [] (G, F, I, J) (0, 0) (fun r h' => ip_WP 100 38 [some (.ref x0), some (.int x1), some (.int x2), some (.int x3), some (.int x4)] (r.toList ++ []) h' b post px) (fun _ _ => False)) := ip_ck_iff (x := ip_cl 108 [some (.ref s0), some (.int s1)] [] (0, 0) b) ((ip_st_of f100_35).trans rfl) (ip_cl_iff)
theorem f100_38 : ip_fetch 100 38 = some (.ifCond .ne 28, 3) := by decide +kernel
theorem s100_38 {x0 : Nat} {x1 : Int32} {x2 : Int32} {x3 : Int32} {x4 : Int32} {s0 : Int32} : ip_WP 100 38 [some (.ref x0), some (.int x1), some (.int x2), some (.int x3), some (.int x4)] [.int s0] (G, F, I, J) b post px ↔ if ¬ s0 = 0 then ip_WP 100 66 [some (.ref x0), some (.int x1), some (.int x2), some (.int x3), some (.int x4)] [] (G, F, I, J) b post px else ip_WP 100 41 [some (.ref x0), some (.int x1), some (.int x2), some (.int x3), some (.int x4)] [] (G, F, I, J) b post px := ip_s_if_ne f100_38 rfl
theorem f100_41 : ip_fetch 100 41 = some (.iload_n 3, 1) := by decide +kernel
theorem s100_41 {x0 : Nat} {x1 : Int32} {x2 : Int32} {x3 : Int32} {x4 : Int32} : ip_WP 100 41 [some (.ref x0), some (.int x1), some (.int x2), some (.int x3), some (.int x4)] [] (G, F, I, J) b post px ↔ ip_WP 100 42 [some (.ref x0), some (.int x1), some (.int x2), some (.int x3), some (.int x4)] [.int x3] (G, F, I, J) b post px := ip_nx_iff ((ip_st_of f100_41).trans rfl)
theorem f100_42 : ip_fetch 100 42 = some (.iconst (-1), 1) := by decide +kernel
theorem s100_42 {x0 : Nat} {x1 : Int32} {x2 : Int32} {x3 : Int32} {x4 : Int32} {s0 : Int32} : ip_WP 100 42 [some (.ref x0), some (.int x1), some (.int x2), some (.int x3), some (.int x4)] [.int s0] (G, F, I, J) b post px ↔ ip_WP 100 43 [some (.ref x0), some (.int x1), some (.int x2), some (.int x3), some (.int x4)] [.int (-1), .int s0] (G, F, I, J) b post px := ip_s_iconst f100_42 (by decide)
theorem f100_43 : ip_fetch 100 43 = some (.if_icmp .eq 23, 3) := by decide +kernel
theorem s100_43 {x0 : Nat} {x1 : Int32} {x2 : Int32} {x3 : Int32} {x4 : Int32} {s0 : Int32} {s1 : Int32} : ip_WP 100 43 [some (.ref x0), some (.int x1), some (.int x2), some (.int x3), some (.int x4)] [.int s1, .int s0] (G, F, I, J) b post px ↔ if s0 = s1 then ip_WP 100 66 [some (.ref x0), some (.int x1), some (.int x2), some (.int x3), some (.int x4)] [] (G, F, I, J) b post px else ip_WP 100 46 [some (.ref x0), some (.int x1), some (.int x2), some (.int x3), some (.int x4)] [] (G, F, I, J) b post px := ip_s_ic_eq f100_43 rfl
theorem f100_46 : ip_fetch 100 46 = some (.iload 4, 2) := by decide +kernel
theorem s100_46 {x0 : Nat} {x1 : Int32} {x2 : Int32} {x3 : Int32} {x4 : Int32} : ip_WP 100 46 [some (.ref x0), some (.int x1), some (.int x2), some (.int x3), some (.int x4)] [] (G, F, I, J) b post px ↔ ip_WP 100 48 [some (.ref x0), some (.int x1), some (.int x2), some (.int x3), some (.int x4)] [.int x4] (G, F, I, J) b post px := ip_nx_iff ((ip_st_of f100_46).trans rfl)
theorem f100_48 : ip_fetch 100 48 = some (.iconst (-1), 1) := by decide +kernel
theorem s100_48 {x0 : Nat} {x1 : Int32} {x2 : Int32} {x3 : Int32} {x4 : Int32} {s0 : Int32} : ip_WP 100 48 [some (.ref x0), some (.int x1), some (.int x2), some (.int x3), some (.int x4)] [.int s0] (G, F, I, J) b post px ↔ ip_WP 100 49 [some (.ref x0), some (.int x1), some (.int x2), some (.int x3), some (.int x4)] [.int (-1), .int s0] (G, F, I, J) b post px := ip_s_iconst f100_48 (by decide)
theorem f100_49 : ip_fetch 100 49 = some (.if_icmp .eq 17, 3) := by decide +kernel
theorem s100_49 {x0 : Nat} {x1 : Int32} {x2 : Int32} {x3 : Int32} {x4 : Int32} {s0 : Int32} {s1 : Int32} : ip_WP 100 49 [some (.ref x0), some (.int x1), some (.int x2), some (.int x3), some (.int x4)] [.int s1, .int s0] (G, F, I, J) b post px ↔ if s0 = s1 then ip_WP 100 66 [some (.ref x0), some (.int x1), some (.int x2), some (.int x3), some (.int x4)] [] (G, F, I, J) b post px else ip_WP 100 52 [some (.ref x0), some (.int x1), some (.int x2), some (.int x3), some (.int x4)] [] (G, F, I, J) b post px := ip_s_ic_eq f100_49 rfl
theorem f100_52 : ip_fetch 100 52 = some (.aload_n 0, 1) := by decide +kernel
theorem s100_52 {x0 : Nat} {x1 : Int32} {x2 : Int32} {x3 : Int32} {x4 : Int32} : ip_WP 100 52 [some (.ref x0), some (.int x1), some (.int x2), some (.int x3), some (.int x4)] [] (G, F, I, J) b post px ↔ ip_WP 100 53 [some (.ref x0), some (.int x1), some (.int x2), some (.int x3), some (.int x4)] [.ref x0] (G, F, I, J) b post px := ip_nx_iff ((ip_st_of f100_52).trans rfl)
theorem f100_53 : ip_fetch 100 53 = some (.iload_n 2, 1) := by decide +kernel
theorem s100_53 {x0 : Nat} {x1 : Int32} {x2 : Int32} {x3 : Int32} {x4 : Int32} {s0 : Nat} : ip_WP 100 53 [some (.ref x0), some (.int x1), some (.int x2), some (.int x3), some (.int x4)] [.ref s0] (G, F, I, J) b post px ↔ ip_WP 100 54 [some (.ref x0), some (.int x1), some (.int x2), some (.int x3), some (.int x4)] [.int x2, .ref s0] (G, F, I, J) b post px := ip_nx_iff ((ip_st_of f100_53).trans rfl)
theorem f100_54 : ip_fetch 100 54 = some (.iload 4, 2) := by decide +kernel
theorem s100_54 {x0 : Nat} {x1 : Int32} {x2 : Int32} {x3 : Int32} {x4 : Int32} {s0 : Nat} {s1 : Int32} : ip_WP 100 54 [some (.ref x0), some (.int x1), some (.int x2), some (.int x3), some (.int x4)] [.int s1, .ref s0] (G, F, I, J) b post px ↔ ip_WP 100 56 [some (.ref x0), some (.int x1), some (.int x2), some (.int x3), some (.int x4)] [.int x4, .int s1, .ref s0] (G, F, I, J) b post px := ip_nx_iff ((ip_st_of f100_54).trans rfl)
theorem f100_56 : ip_fetch 100 56 = some (.invokevirtual 67, 3) := by decide +kernel
set_option maxRecDepth 100000 in
theorem s100_56 {x0 : Nat} {x1 : Int32} {x2 : Int32} {x3 : Int32} {x4 : Int32} {s0 : Nat} {s1 : Int32} {s2 : Int32} : ip_WP 100 56 [some (.ref x0), some (.int x1), some (.int x2), some (.int x3), some (.int x4)] [.int s2, .int s1, .ref s0] (G, F, I, J) b post px ↔ (ip_isO G s0 3 = true ∧ ip_WP 113 0 [some (.ref s0), some (.int s1), some (.int s2), none] [] (G, F, I, J) (0, 0) (fun r h' => ip_WP 100 59 [some (.ref x0), some (.int x1), some (.int x2), some (.int x3), some (.int x4)] (r.toList ++ []) h' b post px) (fun _ _ => False)) := ip_ck_iff (x := ip_cl 113 [some (.ref s0), some (.int s1), some (.int s2), none] [] (0, 0) b) ((ip_st_of f100_56).trans rfl) (ip_cl_iff)
theorem f100_59 : ip_fetch 100 59 = some (.ifCond .ne 7, 3) := by decide +kernel
theorem s100_59 {x0 : Nat} {x1 : Int32} {x2 : Int32} {x3 : Int32} {x4 : Int32} {s0 : Int32} : ip_WP 100 59 [some (.ref x0), some (.int x1), some (.int x2), some (.int x3), some (.int x4)] [.int s0] (G, F, I, J) b post px ↔ if ¬ s0 = 0 then ip_WP 100 66 [some (.ref x0), some (.int x1), some (.int x2), some (.int x3), some (.int x4)] [] (G, F, I, J) b post px else ip_WP 100 62 [some (.ref x0), some (.int x1), some (.int x2), some (.int x3), some (.int x4)] [] (G, F, I, J) b post px := ip_s_if_ne f100_59 rfl
theorem f100_62 : ip_fetch 100 62 = some (.iconst 1, 1) := by decide +kernel
theorem s100_62 {x0 : Nat} {x1 : Int32} {x2 : Int32} {x3 : Int32} {x4 : Int32} : ip_WP 100 62 [some (.ref x0), some (.int x1), some (.int x2), some (.int x3), some (.int x4)] [] (G, F, I, J) b post px ↔ ip_WP 100 63 [some (.ref x0), some (.int x1), some (.int x2), some (.int x3), some (.int x4)] [.int 1] (G, F, I, J) b post px := ip_s_iconst f100_62 (by decide)
theorem f100_63 : ip_fetch 100 63 = some (.goto 4, 3) := by decide +kernel
theorem s100_63 {x0 : Nat} {x1 : Int32} {x2 : Int32} {x3 : Int32} {x4 : Int32} {s0 : Int32} : ip_WP 100 63 [some (.ref x0), some (.int x1), some (.int x2), some (.int x3), some (.int x4)] [.int s0] (G, F, I, J) b post px ↔ ip_WP 100 67 [some (.ref x0), some (.int x1), some (.int x2), some (.int x3), some (.int x4)] [.int s0] (G, F, I, J) b post px := ip_nx_iff ((ip_st_of f100_63).trans rfl)
theorem f100_66 : ip_fetch 100 66 = some (.iconst 0, 1) := by decide +kernel
theorem s100_66 {x0 : Nat} {x1 : Int32} {x2 : Int32} {x3 : Int32} {x4 : Int32} : ip_WP 100 66 [some (.ref x0), some (.int x1), some (.int x2), some (.int x3), some (.int x4)] [] (G, F, I, J) b post px ↔ ip_WP 100 67 [some (.ref x0), some (.int x1), some (.int x2), some (.int x3), some (.int x4)] [.int 0] (G, F, I, J) b post px := ip_s_iconst f100_66 (by decide)
theorem f100_67 : ip_fetch 100 67 = some (.ireturn, 1) := by decide +kernel
theorem s100_67 {x0 : Nat} {x1 : Int32} {x2 : Int32} {x3 : Int32} {x4 : Int32} {s0 : Int32} : ip_WP 100 67 [some (.ref x0), some (.int x1), some (.int x2), some (.int x3), some (.int x4)] [.int s0] (G, F, I, J) b post px ↔ ((s0 = 0 ∨ s0 = 1) ∧ post (some (.int s0)) (G, F, I, J)) := ip_s_zret ((ip_st_of f100_67).trans rfl)
theorem f101_0 : ip_fetch 101 0 = some (.aload_n 1, 1) := by decide +kernel
theorem s101_0 {x0 : Nat} {x1 : Nat} {x2 : Option Value} : ip_WP 101 0 [some (.ref x0), some (.ref x1), x2] [] (G, F, I, J) b post px ↔ ip_WP 101 1 [some (.ref x0), some (.ref x1), x2] [.ref x1] (G, F, I, J) b post px := ip_nx_iff ((ip_st_of f101_0).trans rfl)
theorem f101_1 : ip_fetch 101 1 = some (.invokevirtual 11, 3) := by decide +kernel
set_option maxRecDepth 100000 in
theorem s101_1 {x0 : Nat} {x1 : Nat} {x2 : Option Value} {s0 : Nat} : ip_WP 101 1 [some (.ref x0), some (.ref x1), x2] [.ref s0] (G, F, I, J) b post px ↔ (ip_isO G s0 4 = true ∧ ip_WP 121 0 [some (.ref s0)] [] (G, F, I, J) (0, 0) (fun r h' => ip_WP 101 4 [some (.ref x0), some (.ref x1), x2] (r.toList ++ []) h' b post px) (fun _ _ => False)) := ip_ck_iff (x := ip_cl 121 [some (.ref s0)] [] (0, 0) b) ((ip_st_of f101_1).trans rfl) (ip_cl_iff)
theorem f101_4 : ip_fetch 101 4 = some (.iconst 0, 1) := by decide +kernel
theorem s101_4 {x0 : Nat} {x1 : Nat} {x2 : Option Value} : ip_WP 101 4 [some (.ref x0), some (.ref x1), x2] [] (G, F, I, J) b post px ↔ ip_WP 101 5 [some (.ref x0), some (.ref x1), x2] [.int 0] (G, F, I, J) b post px := ip_s_iconst f101_4 (by decide)
theorem f101_5 : ip_fetch 101 5 = some (.istore_n 2, 1) := by decide +kernel
theorem s101_5 {x0 : Nat} {x1 : Nat} {x2 : Option Value} {s0 : Int32} : ip_WP 101 5 [some (.ref x0), some (.ref x1), x2] [.int s0] (G, F, I, J) b post px ↔ ip_WP 101 6 [some (.ref x0), some (.ref x1), some (.int s0)] [] (G, F, I, J) b post px := ip_nx_iff ((ip_st_of f101_5).trans rfl)
theorem f101_6 : ip_fetch 101 6 = some (.iload_n 2, 1) := by decide +kernel
theorem s101_6 {x0 : Nat} {x1 : Nat} {x2 : Int32} : ip_WP 101 6 [some (.ref x0), some (.ref x1), some (.int x2)] [] (G, F, I, J) b post px ↔ ip_WP 101 7 [some (.ref x0), some (.ref x1), some (.int x2)] [.int x2] (G, F, I, J) b post px := ip_nx_iff ((ip_st_of f101_6).trans rfl)
theorem f101_7 : ip_fetch 101 7 = some (.aload_n 0, 1) := by decide +kernel
theorem s101_7 {x0 : Nat} {x1 : Nat} {x2 : Int32} {s0 : Int32} : ip_WP 101 7 [some (.ref x0), some (.ref x1), some (.int x2)] [.int s0] (G, F, I, J) b post px ↔ ip_WP 101 8 [some (.ref x0), some (.ref x1), some (.int x2)] [.ref x0, .int s0] (G, F, I, J) b post px := ip_nx_iff ((ip_st_of f101_7).trans rfl)
theorem f101_8 : ip_fetch 101 8 = some (.getfield 71, 3) := by decide +kernel
set_option maxRecDepth 100000 in
theorem s101_8 {x0 : Nat} {x1 : Nat} {x2 : Int32} {s0 : Int32} {s1 : Nat} : ip_WP 101 8 [some (.ref x0), some (.ref x1), some (.int x2)] [.ref s1, .int s0] (G, F, I, J) b post px ↔ (ip_isO G s1 3 = true ∧ ip_WP 101 11 [some (.ref x0), some (.ref x1), some (.int x2)] [F s1 2, .int s0] (G, F, I, J) b post px) := ip_s_getf f101_8 (by decide +kernel)
theorem f101_11 : ip_fetch 101 11 = some (.invokevirtual 26, 3) := by decide +kernel
set_option maxRecDepth 100000 in
theorem s101_11 {x0 : Nat} {x1 : Nat} {x2 : Int32} {s0 : Int32} {s1 : Nat} : ip_WP 101 11 [some (.ref x0), some (.ref x1), some (.int x2)] [.ref s1, .int s0] (G, F, I, J) b post px ↔ (ip_isO G s1 6 = true ∧ ip_WP 143 0 [some (.ref s1)] [] (G, F, I, J) (0, 0) (fun r h' => ip_WP 101 14 [some (.ref x0), some (.ref x1), some (.int x2)] (r.toList ++ [.int s0]) h' b post px) (fun _ _ => False)) := ip_ck_iff (x := ip_cl 143 [some (.ref s1)] [.int s0] (0, 0) b) ((ip_st_of f101_11).trans rfl) (ip_cl_iff)
theorem f101_14 : ip_fetch 101 14 = some (.if_icmp .ge 27, 3) := by decide +kernel
theorem s101_14 {x0 : Nat} {x1 : Nat} {x2 : Int32} {s0 : Int32} {s1 : Int32} : ip_WP 101 14 [some (.ref x0), some (.ref x1), some (.int x2)] [.int s1, .int s0] (G, F, I, J) b post px ↔ if s1 ≤ s0 then ip_WP 101 41 [some (.ref x0), some (.ref x1), some (.int x2)] [] (G, F, I, J) b post px else ip_WP 101 17 [some (.ref x0), some (.ref x1), some (.int x2)] [] (G, F, I, J) b post px := ip_s_ic_ge f101_14 rfl
theorem f101_17 : ip_fetch 101 17 = some (.aload_n 0, 1) := by decide +kernel
theorem s101_17 {x0 : Nat} {x1 : Nat} {x2 : Int32} : ip_WP 101 17 [some (.ref x0), some (.ref x1), some (.int x2)] [] (G, F, I, J) b post px ↔ ip_WP 101 18 [some (.ref x0), some (.ref x1), some (.int x2)] [.ref x0] (G, F, I, J) b post px := ip_nx_iff ((ip_st_of f101_17).trans rfl)
theorem f101_18 : ip_fetch 101 18 = some (.getfield 74, 3) := by decide +kernel
set_option maxRecDepth 100000 in
theorem s101_18 {x0 : Nat} {x1 : Nat} {x2 : Int32} {s0 : Nat} : ip_WP 101 18 [some (.ref x0), some (.ref x1), some (.int x2)] [.ref s0] (G, F, I, J) b post px ↔ (ip_isO G s0 3 = true ∧ ip_WP 101 21 [some (.ref x0), some (.ref x1), some (.int x2)] [F s0 11] (G, F, I, J) b post px) := ip_s_getf f101_18 (by decide +kernel)
theorem f101_21 : ip_fetch 101 21 = some (.iload_n 2, 1) := by decide +kernel
theorem s101_21 {x0 : Nat} {x1 : Nat} {x2 : Int32} {s0 : Nat} : ip_WP 101 21 [some (.ref x0), some (.ref x1), some (.int x2)] [.ref s0] (G, F, I, J) b post px ↔ ip_WP 101 22 [some (.ref x0), some (.ref x1), some (.int x2)] [.int x2, .ref s0] (G, F, I, J) b post px := ip_nx_iff ((ip_st_of f101_21).trans rfl)
theorem f101_22 : ip_fetch 101 22 = some (.invokevirtual 44, 3) := by decide +kernel
set_option maxRecDepth 100000 in
theorem s101_22 {x0 : Nat} {x1 : Nat} {x2 : Int32} {s0 : Nat} {s1 : Int32} : ip_WP 101 22 [some (.ref x0), some (.ref x1), some (.int x2)] [.int s1, .ref s0] (G, F, I, J) b post px ↔ (ip_isO G s0 9 = true ∧ ip_WP 191 0 [some (.ref s0), some (.int s1)] [] (G, F, I, J) (0, 0) (fun r h' => ip_WP 101 25 [some (.ref x0), some (.ref x1), some (.int x2)] (r.toList ++ []) h' b post px) (fun _ _ => False)) := ip_ck_iff (x := ip_cl 191 [some (.ref s0), some (.int s1)] [] (0, 0) b) ((ip_st_of f101_22).trans rfl) (ip_cl_iff)
theorem f101_25 : ip_fetch 101 25 = some (.iconst (-1), 1) := by decide +kernel
theorem s101_25 {x0 : Nat} {x1 : Nat} {x2 : Int32} {s0 : Int32} : ip_WP 101 25 [some (.ref x0), some (.ref x1), some (.int x2)] [.int s0] (G, F, I, J) b post px ↔ ip_WP 101 26 [some (.ref x0), some (.ref x1), some (.int x2)] [.int (-1), .int s0] (G, F, I, J) b post px := ip_s_iconst f101_25 (by decide)
theorem f101_26 : ip_fetch 101 26 = some (.if_icmp .ne 9, 3) := by decide +kernel
theorem s101_26 {x0 : Nat} {x1 : Nat} {x2 : Int32} {s0 : Int32} {s1 : Int32} : ip_WP 101 26 [some (.ref x0), some (.ref x1), some (.int x2)] [.int s1, .int s0] (G, F, I, J) b post px ↔ if ¬ s0 = s1 then ip_WP 101 35 [some (.ref x0), some (.ref x1), some (.int x2)] [] (G, F, I, J) b post px else ip_WP 101 29 [some (.ref x0), some (.ref x1), some (.int x2)] [] (G, F, I, J) b post px := ip_s_ic_ne f101_26 rfl
theorem f101_29 : ip_fetch 101 29 = some (.aload_n 1, 1) := by decide +kernel
theorem s101_29 {x0 : Nat} {x1 : Nat} {x2 : Int32} : ip_WP 101 29 [some (.ref x0), some (.ref x1), some (.int x2)] [] (G, F, I, J) b post px ↔ ip_WP 101 30 [some (.ref x0), some (.ref x1), some (.int x2)] [.ref x1] (G, F, I, J) b post px := ip_nx_iff ((ip_st_of f101_29).trans rfl)
theorem f101_30 : ip_fetch 101 30 = some (.iconst 1, 1) := by decide +kernel
theorem s101_30 {x0 : Nat} {x1 : Nat} {x2 : Int32} {s0 : Nat} : ip_WP 101 30 [some (.ref x0), some (.ref x1), some (.int x2)] [.ref s0] (G, F, I, J) b post px ↔ ip_WP 101 31 [some (.ref x0), some (.ref x1), some (.int x2)] [.int 1, .ref s0] (G, F, I, J) b post px := ip_s_iconst f101_30 (by decide)
theorem f101_31 : ip_fetch 101 31 = some (.iload_n 2, 1) := by decide +kernel
theorem s101_31 {x0 : Nat} {x1 : Nat} {x2 : Int32} {s0 : Nat} {s1 : Int32} : ip_WP 101 31 [some (.ref x0), some (.ref x1), some (.int x2)] [.int s1, .ref s0] (G, F, I, J) b post px ↔ ip_WP 101 32 [some (.ref x0), some (.ref x1), some (.int x2)] [.int x2, .int s1, .ref s0] (G, F, I, J) b post px := ip_nx_iff ((ip_st_of f101_31).trans rfl)
theorem f101_32 : ip_fetch 101 32 = some (.invokevirtual 36, 3) := by decide +kernel
set_option maxRecDepth 100000 in
theorem s101_32 {x0 : Nat} {x1 : Nat} {x2 : Int32} {s0 : Nat} {s1 : Int32} {s2 : Int32} : ip_WP 101 32 [some (.ref x0), some (.ref x1), some (.int x2)] [.int s2, .int s1, .ref s0] (G, F, I, J) b post px ↔ (ip_isO G s0 4 = true ∧ ip_WP 122 0 [some (.ref s0), some (.int s1), some (.int s2)] [] (G, F, I, J) (0, 0) (fun r h' => ip_WP 101 35 [some (.ref x0), some (.ref x1), some (.int x2)] (r.toList ++ []) h' b post px) (fun _ _ => False)) := ip_ck_iff (x := ip_cl 122 [some (.ref s0), some (.int s1), some (.int s2)] [] (0, 0) b) ((ip_st_of f101_32).trans rfl) (ip_cl_iff)
theorem f101_35 : ip_fetch 101 35 = some (.iinc 2 1, 3) := by decide +kernel
theorem s101_35 {x0 : Nat} {x1 : Nat} {x2 : Int32} : ip_WP 101 35 [some (.ref x0), some (.ref x1), some (.int x2)] [] (G, F, I, J) b post px ↔ ip_WP 101 38 [some (.ref x0), some (.ref x1), some (.int (x2 + 1))] [] (G, F, I, J) b post px := ip_s_iinc f101_35 rfl (by decide)
theorem f101_38 : ip_fetch 101 38 = some (.goto (-32), 3) := by decide +kernel
theorem s101_38 {x0 : Nat} {x1 : Nat} {x2 : Int32} : ip_WP 101 38 [some (.ref x0), some (.ref x1), some (.int x2)] [] (G, F, I, J) b post px ↔ ip_WP 101 6 [some (.ref x0), some (.ref x1), some (.int x2)] [] (G, F, I, J) b post px := ip_nx_iff ((ip_st_of f101_38).trans rfl)
theorem f101_41 : ip_fetch 101 41 = some (.iconst 0, 1) := by decide +kernel
theorem s101_41 {x0 : Nat} {x1 : Nat} {x2 : Int32} : ip_WP 101 41 [some (.ref x0), some (.ref x1), some (.int x2)] [] (G, F, I, J) b post px ↔ ip_WP 101 42 [some (.ref x0), some (.ref x1), some (.int x2)] [.int 0] (G, F, I, J) b post px := ip_s_iconst f101_41 (by decide)
theorem f101_42 : ip_fetch 101 42 = some (.istore_n 2, 1) := by decide +kernel
theorem s101_42 {x0 : Nat} {x1 : Nat} {x2 : Int32} {s0 : Int32} : ip_WP 101 42 [some (.ref x0), some (.ref x1), some (.int x2)] [.int s0] (G, F, I, J) b post px ↔ ip_WP 101 43 [some (.ref x0), some (.ref x1), some (.int s0)] [] (G, F, I, J) b post px := ip_nx_iff ((ip_st_of f101_42).trans rfl)
theorem f101_43 : ip_fetch 101 43 = some (.iload_n 2, 1) := by decide +kernel
theorem s101_43 {x0 : Nat} {x1 : Nat} {x2 : Int32} : ip_WP 101 43 [some (.ref x0), some (.ref x1), some (.int x2)] [] (G, F, I, J) b post px ↔ ip_WP 101 44 [some (.ref x0), some (.ref x1), some (.int x2)] [.int x2] (G, F, I, J) b post px := ip_nx_iff ((ip_st_of f101_43).trans rfl)
theorem f101_44 : ip_fetch 101 44 = some (.aload_n 0, 1) := by decide +kernel
theorem s101_44 {x0 : Nat} {x1 : Nat} {x2 : Int32} {s0 : Int32} : ip_WP 101 44 [some (.ref x0), some (.ref x1), some (.int x2)] [.int s0] (G, F, I, J) b post px ↔ ip_WP 101 45 [some (.ref x0), some (.ref x1), some (.int x2)] [.ref x0, .int s0] (G, F, I, J) b post px := ip_nx_iff ((ip_st_of f101_44).trans rfl)
theorem f101_45 : ip_fetch 101 45 = some (.invokevirtual 77, 3) := by decide +kernel
set_option maxRecDepth 100000 in
theorem s101_45 {x0 : Nat} {x1 : Nat} {x2 : Int32} {s0 : Int32} {s1 : Nat} : ip_WP 101 45 [some (.ref x0), some (.ref x1), some (.int x2)] [.ref s1, .int s0] (G, F, I, J) b post px ↔ (ip_isO G s1 3 = true ∧ ip_WP 110 0 [some (.ref s1)] [] (G, F, I, J) (0, 0) (fun r h' => ip_WP 101 48 [some (.ref x0), some (.ref x1), some (.int x2)] (r.toList ++ [.int s0]) h' b post px) (fun _ _ => False)) := ip_ck_iff (x := ip_cl 110 [some (.ref s1)] [.int s0] (0, 0) b) ((ip_st_of f101_45).trans rfl) (ip_cl_iff)
theorem f101_48 : ip_fetch 101 48 = some (.if_icmp .ge 30, 3) := by decide +kernel
theorem s101_48 {x0 : Nat} {x1 : Nat} {x2 : Int32} {s0 : Int32} {s1 : Int32} : ip_WP 101 48 [some (.ref x0), some (.ref x1), some (.int x2)] [.int s1, .int s0] (G, F, I, J) b post px ↔ if s1 ≤ s0 then ip_WP 101 78 [some (.ref x0), some (.ref x1), some (.int x2)] [] (G, F, I, J) b post px else ip_WP 101 51 [some (.ref x0), some (.ref x1), some (.int x2)] [] (G, F, I, J) b post px := ip_s_ic_ge f101_48 rfl
theorem f101_51 : ip_fetch 101 51 = some (.aload_n 0, 1) := by decide +kernel
theorem s101_51 {x0 : Nat} {x1 : Nat} {x2 : Int32} : ip_WP 101 51 [some (.ref x0), some (.ref x1), some (.int x2)] [] (G, F, I, J) b post px ↔ ip_WP 101 52 [some (.ref x0), some (.ref x1), some (.int x2)] [.ref x0] (G, F, I, J) b post px := ip_nx_iff ((ip_st_of f101_51).trans rfl)
theorem f101_52 : ip_fetch 101 52 = some (.aload_n 0, 1) := by decide +kernel
theorem s101_52 {x0 : Nat} {x1 : Nat} {x2 : Int32} {s0 : Nat} : ip_WP 101 52 [some (.ref x0), some (.ref x1), some (.int x2)] [.ref s0] (G, F, I, J) b post px ↔ ip_WP 101 53 [some (.ref x0), some (.ref x1), some (.int x2)] [.ref x0, .ref s0] (G, F, I, J) b post px := ip_nx_iff ((ip_st_of f101_52).trans rfl)
theorem f101_53 : ip_fetch 101 53 = some (.getfield 80, 3) := by decide +kernel
set_option maxRecDepth 100000 in
theorem s101_53 {x0 : Nat} {x1 : Nat} {x2 : Int32} {s0 : Nat} {s1 : Nat} : ip_WP 101 53 [some (.ref x0), some (.ref x1), some (.int x2)] [.ref s1, .ref s0] (G, F, I, J) b post px ↔ (ip_isO G s1 3 = true ∧ ip_WP 101 56 [some (.ref x0), some (.ref x1), some (.int x2)] [F s1 8, .ref s0] (G, F, I, J) b post px) := ip_s_getf f101_53 (by decide +kernel)
theorem f101_56 : ip_fetch 101 56 = some (.iload_n 2, 1) := by decide +kernel
theorem s101_56 {x0 : Nat} {x1 : Nat} {x2 : Int32} {s0 : Nat} {s1 : Nat} : ip_WP 101 56 [some (.ref x0), some (.ref x1), some (.int x2)] [.ref s1, .ref s0] (G, F, I, J) b post px ↔ ip_WP 101 57 [some (.ref x0), some (.ref x1), some (.int x2)] [.int x2, .ref s1, .ref s0] (G, F, I, J) b post px := ip_nx_iff ((ip_st_of f101_56).trans rfl)
theorem f101_57 : ip_fetch 101 57 = some (.invokevirtual 44, 3) := by decide +kernel
set_option maxRecDepth 100000 in
theorem s101_57 {x0 : Nat} {x1 : Nat} {x2 : Int32} {s0 : Nat} {s1 : Nat} {s2 : Int32} : ip_WP 101 57 [some (.ref x0), some (.ref x1), some (.int x2)] [.int s2, .ref s1, .ref s0] (G, F, I, J) b post px ↔ (ip_isO G s1 9 = true ∧ ip_WP 191 0 [some (.ref s1), some (.int s2)] [] (G, F, I, J) (0, 0) (fun r h' => ip_WP 101 60 [some (.ref x0), some (.ref x1), some (.int x2)] (r.toList ++ [.ref s0]) h' b post px) (fun _ _ => False)) := ip_ck_iff (x := ip_cl 191 [some (.ref s1), some (.int s2)] [.ref s0] (0, 0) b) ((ip_st_of f101_57).trans rfl) (ip_cl_iff)
theorem f101_60 : ip_fetch 101 60 = some (.invokevirtual 83, 3) := by decide +kernel
set_option maxRecDepth 100000 in
theorem s101_60 {x0 : Nat} {x1 : Nat} {x2 : Int32} {s0 : Nat} {s1 : Int32} : ip_WP 101 60 [some (.ref x0), some (.ref x1), some (.int x2)] [.int s1, .ref s0] (G, F, I, J) b post px ↔ (ip_isO G s0 3 = true ∧ ip_WP 117 0 [some (.ref s0), some (.int s1), none] [] (G, F, I, J) (0, 0) (fun r h' => ip_WP 101 63 [some (.ref x0), some (.ref x1), some (.int x2)] (r.toList ++ []) h' b post px) (fun _ _ => False)) := ip_ck_iff (x := ip_cl 117 [some (.ref s0), some (.int s1), none] [] (0, 0) b) ((ip_st_of f101_60).trans rfl) (ip_cl_iff)
theorem f101_63 : ip_fetch 101 63 = some (.ifCond .ne 9, 3) := by decide +kernel
theorem s101_63 {x0 : Nat} {x1 : Nat} {x2 : Int32} {s0 : Int32} : ip_WP 101 63 [some (.ref x0), some (.ref x1), some (.int x2)] [.int s0] (G, F, I, J) b post px ↔ if ¬ s0 = 0 then ip_WP 101 72 [some (.ref x0), some (.ref x1), some (.int x2)] [] (G, F, I, J) b post px else ip_WP 101 66 [some (.ref x0), some (.ref x1), some (.int x2)] [] (G, F, I, J) b post px := ip_s_if_ne f101_63 rfl
theorem f101_66 : ip_fetch 101 66 = some (.aload_n 1, 1) := by decide +kernel
theorem s101_66 {x0 : Nat} {x1 : Nat} {x2 : Int32} : ip_WP 101 66 [some (.ref x0), some (.ref x1), some (.int x2)] [] (G, F, I, J) b post px ↔ ip_WP 101 67 [some (.ref x0), some (.ref x1), some (.int x2)] [.ref x1] (G, F, I, J) b post px := ip_nx_iff ((ip_st_of f101_66).trans rfl)
theorem f101_67 : ip_fetch 101 67 = some (.iconst 2, 1) := by decide +kernel
theorem s101_67 {x0 : Nat} {x1 : Nat} {x2 : Int32} {s0 : Nat} : ip_WP 101 67 [some (.ref x0), some (.ref x1), some (.int x2)] [.ref s0] (G, F, I, J) b post px ↔ ip_WP 101 68 [some (.ref x0), some (.ref x1), some (.int x2)] [.int 2, .ref s0] (G, F, I, J) b post px := ip_s_iconst f101_67 (by decide)
theorem f101_68 : ip_fetch 101 68 = some (.iload_n 2, 1) := by decide +kernel
theorem s101_68 {x0 : Nat} {x1 : Nat} {x2 : Int32} {s0 : Nat} {s1 : Int32} : ip_WP 101 68 [some (.ref x0), some (.ref x1), some (.int x2)] [.int s1, .ref s0] (G, F, I, J) b post px ↔ ip_WP 101 69 [some (.ref x0), some (.ref x1), some (.int x2)] [.int x2, .int s1, .ref s0] (G, F, I, J) b post px := ip_nx_iff ((ip_st_of f101_68).trans rfl)
theorem f101_69 : ip_fetch 101 69 = some (.invokevirtual 36, 3) := by decide +kernel
set_option maxRecDepth 100000 in
theorem s101_69 {x0 : Nat} {x1 : Nat} {x2 : Int32} {s0 : Nat} {s1 : Int32} {s2 : Int32} : ip_WP 101 69 [some (.ref x0), some (.ref x1), some (.int x2)] [.int s2, .int s1, .ref s0] (G, F, I, J) b post px ↔ (ip_isO G s0 4 = true ∧ ip_WP 122 0 [some (.ref s0), some (.int s1), some (.int s2)] [] (G, F, I, J) (0, 0) (fun r h' => ip_WP 101 72 [some (.ref x0), some (.ref x1), some (.int x2)] (r.toList ++ []) h' b post px) (fun _ _ => False)) := ip_ck_iff (x := ip_cl 122 [some (.ref s0), some (.int s1), some (.int s2)] [] (0, 0) b) ((ip_st_of f101_69).trans rfl) (ip_cl_iff)
theorem f101_72 : ip_fetch 101 72 = some (.iinc 2 1, 3) := by decide +kernel
theorem s101_72 {x0 : Nat} {x1 : Nat} {x2 : Int32} : ip_WP 101 72 [some (.ref x0), some (.ref x1), some (.int x2)] [] (G, F, I, J) b post px ↔ ip_WP 101 75 [some (.ref x0), some (.ref x1), some (.int (x2 + 1))] [] (G, F, I, J) b post px := ip_s_iinc f101_72 rfl (by decide)
theorem f101_75 : ip_fetch 101 75 = some (.goto (-32), 3) := by decide +kernel
theorem s101_75 {x0 : Nat} {x1 : Nat} {x2 : Int32} : ip_WP 101 75 [some (.ref x0), some (.ref x1), some (.int x2)] [] (G, F, I, J) b post px ↔ ip_WP 101 43 [some (.ref x0), some (.ref x1), some (.int x2)] [] (G, F, I, J) b post px := ip_nx_iff ((ip_st_of f101_75).trans rfl)
theorem f101_78 : ip_fetch 101 78 = some (.iconst 0, 1) := by decide +kernel
theorem s101_78 {x0 : Nat} {x1 : Nat} {x2 : Int32} : ip_WP 101 78 [some (.ref x0), some (.ref x1), some (.int x2)] [] (G, F, I, J) b post px ↔ ip_WP 101 79 [some (.ref x0), some (.ref x1), some (.int x2)] [.int 0] (G, F, I, J) b post px := ip_s_iconst f101_78 (by decide)
theorem f101_79 : ip_fetch 101 79 = some (.istore_n 2, 1) := by decide +kernel
theorem s101_79 {x0 : Nat} {x1 : Nat} {x2 : Int32} {s0 : Int32} : ip_WP 101 79 [some (.ref x0), some (.ref x1), some (.int x2)] [.int s0] (G, F, I, J) b post px ↔ ip_WP 101 80 [some (.ref x0), some (.ref x1), some (.int s0)] [] (G, F, I, J) b post px := ip_nx_iff ((ip_st_of f101_79).trans rfl)
theorem f101_80 : ip_fetch 101 80 = some (.iload_n 2, 1) := by decide +kernel
theorem s101_80 {x0 : Nat} {x1 : Nat} {x2 : Int32} : ip_WP 101 80 [some (.ref x0), some (.ref x1), some (.int x2)] [] (G, F, I, J) b post px ↔ ip_WP 101 81 [some (.ref x0), some (.ref x1), some (.int x2)] [.int x2] (G, F, I, J) b post px := ip_nx_iff ((ip_st_of f101_80).trans rfl)
theorem f101_81 : ip_fetch 101 81 = some (.aload_n 0, 1) := by decide +kernel
theorem s101_81 {x0 : Nat} {x1 : Nat} {x2 : Int32} {s0 : Int32} : ip_WP 101 81 [some (.ref x0), some (.ref x1), some (.int x2)] [.int s0] (G, F, I, J) b post px ↔ ip_WP 101 82 [some (.ref x0), some (.ref x1), some (.int x2)] [.ref x0, .int s0] (G, F, I, J) b post px := ip_nx_iff ((ip_st_of f101_81).trans rfl)
theorem f101_82 : ip_fetch 101 82 = some (.getfield 86, 3) := by decide +kernel
set_option maxRecDepth 100000 in
theorem s101_82 {x0 : Nat} {x1 : Nat} {x2 : Int32} {s0 : Int32} {s1 : Nat} : ip_WP 101 82 [some (.ref x0), some (.ref x1), some (.int x2)] [.ref s1, .int s0] (G, F, I, J) b post px ↔ (ip_isO G s1 3 = true ∧ ip_WP 101 85 [some (.ref x0), some (.ref x1), some (.int x2)] [F s1 1, .int s0] (G, F, I, J) b post px) := ip_s_getf f101_82 (by decide +kernel)
theorem f101_85 : ip_fetch 101 85 = some (.invokevirtual 26, 3) := by decide +kernel
set_option maxRecDepth 100000 in
theorem s101_85 {x0 : Nat} {x1 : Nat} {x2 : Int32} {s0 : Int32} {s1 : Nat} : ip_WP 101 85 [some (.ref x0), some (.ref x1), some (.int x2)] [.ref s1, .int s0] (G, F, I, J) b post px ↔ (ip_isO G s1 6 = true ∧ ip_WP 143 0 [some (.ref s1)] [] (G, F, I, J) (0, 0) (fun r h' => ip_WP 101 88 [some (.ref x0), some (.ref x1), some (.int x2)] (r.toList ++ [.int s0]) h' b post px) (fun _ _ => False)) := ip_ck_iff (x := ip_cl 143 [some (.ref s1)] [.int s0] (0, 0) b) ((ip_st_of f101_85).trans rfl) (ip_cl_iff)
theorem f101_88 : ip_fetch 101 88 = some (.if_icmp .ge 23, 3) := by decide +kernel
theorem s101_88 {x0 : Nat} {x1 : Nat} {x2 : Int32} {s0 : Int32} {s1 : Int32} : ip_WP 101 88 [some (.ref x0), some (.ref x1), some (.int x2)] [.int s1, .int s0] (G, F, I, J) b post px ↔ if s1 ≤ s0 then ip_WP 101 111 [some (.ref x0), some (.ref x1), some (.int x2)] [] (G, F, I, J) b post px else ip_WP 101 91 [some (.ref x0), some (.ref x1), some (.int x2)] [] (G, F, I, J) b post px := ip_s_ic_ge f101_88 rfl
theorem f101_91 : ip_fetch 101 91 = some (.aload_n 0, 1) := by decide +kernel
theorem s101_91 {x0 : Nat} {x1 : Nat} {x2 : Int32} : ip_WP 101 91 [some (.ref x0), some (.ref x1), some (.int x2)] [] (G, F, I, J) b post px ↔ ip_WP 101 92 [some (.ref x0), some (.ref x1), some (.int x2)] [.ref x0] (G, F, I, J) b post px := ip_nx_iff ((ip_st_of f101_91).trans rfl)
theorem f101_92 : ip_fetch 101 92 = some (.iload_n 2, 1) := by decide +kernel
theorem s101_92 {x0 : Nat} {x1 : Nat} {x2 : Int32} {s0 : Nat} : ip_WP 101 92 [some (.ref x0), some (.ref x1), some (.int x2)] [.ref s0] (G, F, I, J) b post px ↔ ip_WP 101 93 [some (.ref x0), some (.ref x1), some (.int x2)] [.int x2, .ref s0] (G, F, I, J) b post px := ip_nx_iff ((ip_st_of f101_92).trans rfl)
theorem f101_93 : ip_fetch 101 93 = some (.invokevirtual 89, 3) := by decide +kernel
set_option maxRecDepth 100000 in
theorem s101_93 {x0 : Nat} {x1 : Nat} {x2 : Int32} {s0 : Nat} {s1 : Int32} : ip_WP 101 93 [some (.ref x0), some (.ref x1), some (.int x2)] [.int s1, .ref s0] (G, F, I, J) b post px ↔ (ip_isO G s0 3 = true ∧ ip_WP 118 0 [some (.ref s0), some (.int s1), none] [] (G, F, I, J) (0, 0) (fun r h' => ip_WP 101 96 [some (.ref x0), some (.ref x1), some (.int x2)] (r.toList ++ []) h' b post px) (fun _ _ => False)) := ip_ck_iff (x := ip_cl 118 [some (.ref s0), some (.int s1), none] [] (0, 0) b) ((ip_st_of f101_93).trans rfl) (ip_cl_iff)
theorem f101_96 : ip_fetch 101 96 = some (.ifCond .eq 9, 3) := by decide +kernel
theorem s101_96 {x0 : Nat} {x1 : Nat} {x2 : Int32} {s0 : Int32} : ip_WP 101 96 [some (.ref x0), some (.ref x1), some (.int x2)] [.int s0] (G, F, I, J) b post px ↔ if s0 = 0 then ip_WP 101 105 [some (.ref x0), some (.ref x1), some (.int x2)] [] (G, F, I, J) b post px else ip_WP 101 99 [some (.ref x0), some (.ref x1), some (.int x2)] [] (G, F, I, J) b post px := ip_s_if_eq f101_96 rfl
theorem f101_99 : ip_fetch 101 99 = some (.aload_n 1, 1) := by decide +kernel
theorem s101_99 {x0 : Nat} {x1 : Nat} {x2 : Int32} : ip_WP 101 99 [some (.ref x0), some (.ref x1), some (.int x2)] [] (G, F, I, J) b post px ↔ ip_WP 101 100 [some (.ref x0), some (.ref x1), some (.int x2)] [.ref x1] (G, F, I, J) b post px := ip_nx_iff ((ip_st_of f101_99).trans rfl)
theorem f101_100 : ip_fetch 101 100 = some (.iconst 3, 1) := by decide +kernel
theorem s101_100 {x0 : Nat} {x1 : Nat} {x2 : Int32} {s0 : Nat} : ip_WP 101 100 [some (.ref x0), some (.ref x1), some (.int x2)] [.ref s0] (G, F, I, J) b post px ↔ ip_WP 101 101 [some (.ref x0), some (.ref x1), some (.int x2)] [.int 3, .ref s0] (G, F, I, J) b post px := ip_s_iconst f101_100 (by decide)
theorem f101_101 : ip_fetch 101 101 = some (.iload_n 2, 1) := by decide +kernel
theorem s101_101 {x0 : Nat} {x1 : Nat} {x2 : Int32} {s0 : Nat} {s1 : Int32} : ip_WP 101 101 [some (.ref x0), some (.ref x1), some (.int x2)] [.int s1, .ref s0] (G, F, I, J) b post px ↔ ip_WP 101 102 [some (.ref x0), some (.ref x1), some (.int x2)] [.int x2, .int s1, .ref s0] (G, F, I, J) b post px := ip_nx_iff ((ip_st_of f101_101).trans rfl)
theorem f101_102 : ip_fetch 101 102 = some (.invokevirtual 36, 3) := by decide +kernel
set_option maxRecDepth 100000 in
theorem s101_102 {x0 : Nat} {x1 : Nat} {x2 : Int32} {s0 : Nat} {s1 : Int32} {s2 : Int32} : ip_WP 101 102 [some (.ref x0), some (.ref x1), some (.int x2)] [.int s2, .int s1, .ref s0] (G, F, I, J) b post px ↔ (ip_isO G s0 4 = true ∧ ip_WP 122 0 [some (.ref s0), some (.int s1), some (.int s2)] [] (G, F, I, J) (0, 0) (fun r h' => ip_WP 101 105 [some (.ref x0), some (.ref x1), some (.int x2)] (r.toList ++ []) h' b post px) (fun _ _ => False)) := ip_ck_iff (x := ip_cl 122 [some (.ref s0), some (.int s1), some (.int s2)] [] (0, 0) b) ((ip_st_of f101_102).trans rfl) (ip_cl_iff)
theorem f101_105 : ip_fetch 101 105 = some (.iinc 2 1, 3) := by decide +kernel
theorem s101_105 {x0 : Nat} {x1 : Nat} {x2 : Int32} : ip_WP 101 105 [some (.ref x0), some (.ref x1), some (.int x2)] [] (G, F, I, J) b post px ↔ ip_WP 101 108 [some (.ref x0), some (.ref x1), some (.int (x2 + 1))] [] (G, F, I, J) b post px := ip_s_iinc f101_105 rfl (by decide)
theorem f101_108 : ip_fetch 101 108 = some (.goto (-28), 3) := by decide +kernel
theorem s101_108 {x0 : Nat} {x1 : Nat} {x2 : Int32} : ip_WP 101 108 [some (.ref x0), some (.ref x1), some (.int x2)] [] (G, F, I, J) b post px ↔ ip_WP 101 80 [some (.ref x0), some (.ref x1), some (.int x2)] [] (G, F, I, J) b post px := ip_nx_iff ((ip_st_of f101_108).trans rfl)
theorem f101_111 : ip_fetch 101 111 = some (.iconst 0, 1) := by decide +kernel
theorem s101_111 {x0 : Nat} {x1 : Nat} {x2 : Int32} : ip_WP 101 111 [some (.ref x0), some (.ref x1), some (.int x2)] [] (G, F, I, J) b post px ↔ ip_WP 101 112 [some (.ref x0), some (.ref x1), some (.int x2)] [.int 0] (G, F, I, J) b post px := ip_s_iconst f101_111 (by decide)
theorem f101_112 : ip_fetch 101 112 = some (.istore_n 2, 1) := by decide +kernel
theorem s101_112 {x0 : Nat} {x1 : Nat} {x2 : Int32} {s0 : Int32} : ip_WP 101 112 [some (.ref x0), some (.ref x1), some (.int x2)] [.int s0] (G, F, I, J) b post px ↔ ip_WP 101 113 [some (.ref x0), some (.ref x1), some (.int s0)] [] (G, F, I, J) b post px := ip_nx_iff ((ip_st_of f101_112).trans rfl)
theorem f101_113 : ip_fetch 101 113 = some (.iload_n 2, 1) := by decide +kernel
theorem s101_113 {x0 : Nat} {x1 : Nat} {x2 : Int32} : ip_WP 101 113 [some (.ref x0), some (.ref x1), some (.int x2)] [] (G, F, I, J) b post px ↔ ip_WP 101 114 [some (.ref x0), some (.ref x1), some (.int x2)] [.int x2] (G, F, I, J) b post px := ip_nx_iff ((ip_st_of f101_113).trans rfl)
theorem f101_114 : ip_fetch 101 114 = some (.aload_n 0, 1) := by decide +kernel
theorem s101_114 {x0 : Nat} {x1 : Nat} {x2 : Int32} {s0 : Int32} : ip_WP 101 114 [some (.ref x0), some (.ref x1), some (.int x2)] [.int s0] (G, F, I, J) b post px ↔ ip_WP 101 115 [some (.ref x0), some (.ref x1), some (.int x2)] [.ref x0, .int s0] (G, F, I, J) b post px := ip_nx_iff ((ip_st_of f101_114).trans rfl)
theorem f101_115 : ip_fetch 101 115 = some (.invokevirtual 77, 3) := by decide +kernel
set_option maxRecDepth 100000 in
theorem s101_115 {x0 : Nat} {x1 : Nat} {x2 : Int32} {s0 : Int32} {s1 : Nat} : ip_WP 101 115 [some (.ref x0), some (.ref x1), some (.int x2)] [.ref s1, .int s0] (G, F, I, J) b post px ↔ (ip_isO G s1 3 = true ∧ ip_WP 110 0 [some (.ref s1)] [] (G, F, I, J) (0, 0) (fun r h' => ip_WP 101 118 [some (.ref x0), some (.ref x1), some (.int x2)] (r.toList ++ [.int s0]) h' b post px) (fun _ _ => False)) := ip_ck_iff (x := ip_cl 110 [some (.ref s1)] [.int s0] (0, 0) b) ((ip_st_of f101_115).trans rfl) (ip_cl_iff)
theorem f101_118 : ip_fetch 101 118 = some (.if_icmp .ge 34, 3) := by decide +kernel
theorem s101_118 {x0 : Nat} {x1 : Nat} {x2 : Int32} {s0 : Int32} {s1 : Int32} : ip_WP 101 118 [some (.ref x0), some (.ref x1), some (.int x2)] [.int s1, .int s0] (G, F, I, J) b post px ↔ if s1 ≤ s0 then ip_WP 101 152 [some (.ref x0), some (.ref x1), some (.int x2)] [] (G, F, I, J) b post px else ip_WP 101 121 [some (.ref x0), some (.ref x1), some (.int x2)] [] (G, F, I, J) b post px := ip_s_ic_ge f101_118 rfl
theorem f101_121 : ip_fetch 101 121 = some (.aload_n 0, 1) := by decide +kernel
theorem s101_121 {x0 : Nat} {x1 : Nat} {x2 : Int32} : ip_WP 101 121 [some (.ref x0), some (.ref x1), some (.int x2)] [] (G, F, I, J) b post px ↔ ip_WP 101 122 [some (.ref x0), some (.ref x1), some (.int x2)] [.ref x0] (G, F, I, J) b post px := ip_nx_iff ((ip_st_of f101_121).trans rfl)
theorem f101_122 : ip_fetch 101 122 = some (.getfield 92, 3) := by decide +kernel
set_option maxRecDepth 100000 in
theorem s101_122 {x0 : Nat} {x1 : Nat} {x2 : Int32} {s0 : Nat} : ip_WP 101 122 [some (.ref x0), some (.ref x1), some (.int x2)] [.ref s0] (G, F, I, J) b post px ↔ (ip_isO G s0 3 = true ∧ ip_WP 101 125 [some (.ref x0), some (.ref x1), some (.int x2)] [F s0 9] (G, F, I, J) b post px) := ip_s_getf f101_122 (by decide +kernel)
theorem f101_125 : ip_fetch 101 125 = some (.iload_n 2, 1) := by decide +kernel
theorem s101_125 {x0 : Nat} {x1 : Nat} {x2 : Int32} {s0 : Nat} : ip_WP 101 125 [some (.ref x0), some (.ref x1), some (.int x2)] [.ref s0] (G, F, I, J) b post px ↔ ip_WP 101 126 [some (.ref x0), some (.ref x1), some (.int x2)] [.int x2, .ref s0] (G, F, I, J) b post px := ip_nx_iff ((ip_st_of f101_125).trans rfl)
theorem f101_126 : ip_fetch 101 126 = some (.invokevirtual 44, 3) := by decide +kernel
set_option maxRecDepth 100000 in
theorem s101_126 {x0 : Nat} {x1 : Nat} {x2 : Int32} {s0 : Nat} {s1 : Int32} : ip_WP 101 126 [some (.ref x0), some (.ref x1), some (.int x2)] [.int s1, .ref s0] (G, F, I, J) b post px ↔ (ip_isO G s0 9 = true ∧ ip_WP 191 0 [some (.ref s0), some (.int s1)] [] (G, F, I, J) (0, 0) (fun r h' => ip_WP 101 129 [some (.ref x0), some (.ref x1), some (.int x2)] (r.toList ++ []) h' b post px) (fun _ _ => False)) := ip_ck_iff (x := ip_cl 191 [some (.ref s0), some (.int s1)] [] (0, 0) b) ((ip_st_of f101_126).trans rfl) (ip_cl_iff)
theorem f101_129 : ip_fetch 101 129 = some (.aload_n 0, 1) := by decide +kernel
theorem s101_129 {x0 : Nat} {x1 : Nat} {x2 : Int32} {s0 : Int32} : ip_WP 101 129 [some (.ref x0), some (.ref x1), some (.int x2)] [.int s0] (G, F, I, J) b post px ↔ ip_WP 101 130 [some (.ref x0), some (.ref x1), some (.int x2)] [.ref x0, .int s0] (G, F, I, J) b post px := ip_nx_iff ((ip_st_of f101_129).trans rfl)
theorem f101_130 : ip_fetch 101 130 = some (.getfield 80, 3) := by decide +kernel
set_option maxRecDepth 100000 in
theorem s101_130 {x0 : Nat} {x1 : Nat} {x2 : Int32} {s0 : Int32} {s1 : Nat} : ip_WP 101 130 [some (.ref x0), some (.ref x1), some (.int x2)] [.ref s1, .int s0] (G, F, I, J) b post px ↔ (ip_isO G s1 3 = true ∧ ip_WP 101 133 [some (.ref x0), some (.ref x1), some (.int x2)] [F s1 8, .int s0] (G, F, I, J) b post px) := ip_s_getf f101_130 (by decide +kernel)
theorem f101_133 : ip_fetch 101 133 = some (.iload_n 2, 1) := by decide +kernel
theorem s101_133 {x0 : Nat} {x1 : Nat} {x2 : Int32} {s0 : Int32} {s1 : Nat} : ip_WP 101 133 [some (.ref x0), some (.ref x1), some (.int x2)] [.ref s1, .int s0] (G, F, I, J) b post px ↔ ip_WP 101 134 [some (.ref x0), some (.ref x1), some (.int x2)] [.int x2, .ref s1, .int s0] (G, F, I, J) b post px := ip_nx_iff ((ip_st_of f101_133).trans rfl)
theorem f101_134 : ip_fetch 101 134 = some (.invokevirtual 44, 3) := by decide +kernel
set_option maxRecDepth 100000 in
theorem s101_134 {x0 : Nat} {x1 : Nat} {x2 : Int32} {s0 : Int32} {s1 : Nat} {s2 : Int32} : ip_WP 101 134 [some (.ref x0), some (.ref x1), some (.int x2)] [.int s2, .ref s1, .int s0] (G, F, I, J) b post px ↔ (ip_isO G s1 9 = true ∧ ip_WP 191 0 [some (.ref s1), some (.int s2)] [] (G, F, I, J) (0, 0) (fun r h' => ip_WP 101 137 [some (.ref x0), some (.ref x1), some (.int x2)] (r.toList ++ [.int s0]) h' b post px) (fun _ _ => False)) := ip_ck_iff (x := ip_cl 191 [some (.ref s1), some (.int s2)] [.int s0] (0, 0) b) ((ip_st_of f101_134).trans rfl) (ip_cl_iff)
theorem f101_137 : ip_fetch 101 137 = some (.if_icmp .le 9, 3) := by decide +kernel
theorem s101_137 {x0 : Nat} {x1 : Nat} {x2 : Int32} {s0 : Int32} {s1 : Int32} : ip_WP 101 137 [some (.ref x0), some (.ref x1), some (.int x2)] [.int s1, .int s0] (G, F, I, J) b post px ↔ if s0 ≤ s1 then ip_WP 101 146 [some (.ref x0), some (.ref x1), some (.int x2)] [] (G, F, I, J) b post px else ip_WP 101 140 [some (.ref x0), some (.ref x1), some (.int x2)] [] (G, F, I, J) b post px := ip_s_ic_le f101_137 rfl
theorem f101_140 : ip_fetch 101 140 = some (.aload_n 1, 1) := by decide +kernel
theorem s101_140 {x0 : Nat} {x1 : Nat} {x2 : Int32} : ip_WP 101 140 [some (.ref x0), some (.ref x1), some (.int x2)] [] (G, F, I, J) b post px ↔ ip_WP 101 141 [some (.ref x0), some (.ref x1), some (.int x2)] [.ref x1] (G, F, I, J) b post px := ip_nx_iff ((ip_st_of f101_140).trans rfl)
theorem f101_141 : ip_fetch 101 141 = some (.iconst 4, 1) := by decide +kernel
theorem s101_141 {x0 : Nat} {x1 : Nat} {x2 : Int32} {s0 : Nat} : ip_WP 101 141 [some (.ref x0), some (.ref x1), some (.int x2)] [.ref s0] (G, F, I, J) b post px ↔ ip_WP 101 142 [some (.ref x0), some (.ref x1), some (.int x2)] [.int 4, .ref s0] (G, F, I, J) b post px := ip_s_iconst f101_141 (by decide)
theorem f101_142 : ip_fetch 101 142 = some (.iload_n 2, 1) := by decide +kernel
theorem s101_142 {x0 : Nat} {x1 : Nat} {x2 : Int32} {s0 : Nat} {s1 : Int32} : ip_WP 101 142 [some (.ref x0), some (.ref x1), some (.int x2)] [.int s1, .ref s0] (G, F, I, J) b post px ↔ ip_WP 101 143 [some (.ref x0), some (.ref x1), some (.int x2)] [.int x2, .int s1, .ref s0] (G, F, I, J) b post px := ip_nx_iff ((ip_st_of f101_142).trans rfl)
theorem f101_143 : ip_fetch 101 143 = some (.invokevirtual 36, 3) := by decide +kernel
set_option maxRecDepth 100000 in
theorem s101_143 {x0 : Nat} {x1 : Nat} {x2 : Int32} {s0 : Nat} {s1 : Int32} {s2 : Int32} : ip_WP 101 143 [some (.ref x0), some (.ref x1), some (.int x2)] [.int s2, .int s1, .ref s0] (G, F, I, J) b post px ↔ (ip_isO G s0 4 = true ∧ ip_WP 122 0 [some (.ref s0), some (.int s1), some (.int s2)] [] (G, F, I, J) (0, 0) (fun r h' => ip_WP 101 146 [some (.ref x0), some (.ref x1), some (.int x2)] (r.toList ++ []) h' b post px) (fun _ _ => False)) := ip_ck_iff (x := ip_cl 122 [some (.ref s0), some (.int s1), some (.int s2)] [] (0, 0) b) ((ip_st_of f101_143).trans rfl) (ip_cl_iff)
theorem f101_146 : ip_fetch 101 146 = some (.iinc 2 1, 3) := by decide +kernel
theorem s101_146 {x0 : Nat} {x1 : Nat} {x2 : Int32} : ip_WP 101 146 [some (.ref x0), some (.ref x1), some (.int x2)] [] (G, F, I, J) b post px ↔ ip_WP 101 149 [some (.ref x0), some (.ref x1), some (.int (x2 + 1))] [] (G, F, I, J) b post px := ip_s_iinc f101_146 rfl (by decide)
theorem f101_149 : ip_fetch 101 149 = some (.goto (-36), 3) := by decide +kernel
theorem s101_149 {x0 : Nat} {x1 : Nat} {x2 : Int32} : ip_WP 101 149 [some (.ref x0), some (.ref x1), some (.int x2)] [] (G, F, I, J) b post px ↔ ip_WP 101 113 [some (.ref x0), some (.ref x1), some (.int x2)] [] (G, F, I, J) b post px := ip_nx_iff ((ip_st_of f101_149).trans rfl)
theorem f101_152 : ip_fetch 101 152 = some (.return_, 1) := by decide +kernel
theorem s101_152 {x0 : Nat} {x1 : Nat} {x2 : Int32} : ip_WP 101 152 [some (.ref x0), some (.ref x1), some (.int x2)] [] (G, F, I, J) b post px ↔ post none (G, F, I, J) := ip_rt_iff ((ip_st_of f101_152).trans rfl)
theorem f102_0 : ip_fetch 102 0 = some (.aload_n 0, 1) := by decide +kernel
theorem s102_0 {x0 : Nat} : ip_WP 102 0 [some (.ref x0)] [] (G, F, I, J) b post px ↔ ip_WP 102 1 [some (.ref x0)] [.ref x0] (G, F, I, J) b post px := ip_nx_iff ((ip_st_of f102_0).trans rfl)
theorem f102_1 : ip_fetch 102 1 = some (.invokespecial 3, 3) := by decide +kernel
set_option maxRecDepth 100000 in
theorem s102_1 {x0 : Nat} {s0 : Nat} : ip_WP 102 1 [some (.ref x0)] [.ref s0] (G, F, I, J) b post px ↔ ip_WP 102 4 [some (.ref x0)] [] (G, F, I, J) b post px := ip_s_obj f102_1 rfl (Nat.le_of_ble_eq_true rfl)
theorem f102_4 : ip_fetch 102 4 = some (.aload_n 0, 1) := by decide +kernel
theorem s102_4 {x0 : Nat} : ip_WP 102 4 [some (.ref x0)] [] (G, F, I, J) b post px ↔ ip_WP 102 5 [some (.ref x0)] [.ref x0] (G, F, I, J) b post px := ip_nx_iff ((ip_st_of f102_4).trans rfl)
theorem f102_5 : ip_fetch 102 5 = some (.new 9, 3) := by decide +kernel
set_option maxRecDepth 100000 in
theorem s102_5 {x0 : Nat} {s0 : Nat} : ip_WP 102 5 [some (.ref x0)] [.ref s0] (G, F, I, J) b post px ↔ (ip_wfc G.length [some (.ref x0)] [.ref s0] = true ∧ (1 ≤ b.1 ∧ 2 ≤ b.2 ∧ G.length < ip_SC) ∧ ip_WP 102 8 [some (.ref x0)] [.ref G.length, .ref s0] (G ++ [.inr (6, 2)], fun a j => if a = G.length then ip_dfl (ip_fty 6 j) else F a j, I, J) (b.1 - 1, b.2 - 2) post px) := ip_s_new f102_5 rfl rfl rfl rfl
theorem f102_8 : ip_fetch 102 8 = some (.dup, 1) := by decide +kernel
theorem s102_8 {x0 : Nat} {s0 : Nat} {s1 : Nat} : ip_WP 102 8 [some (.ref x0)] [.ref s1, .ref s0] (G, F, I, J) b post px ↔ ip_WP 102 9 [some (.ref x0)] [.ref s1, .ref s1, .ref s0] (G, F, I, J) b post px := ip_nx_iff ((ip_st_of f102_8).trans rfl)
theorem f102_9 : ip_fetch 102 9 = some (.bipush 12, 2) := by decide +kernel
theorem s102_9 {x0 : Nat} {s0 : Nat} {s1 : Nat} {s2 : Nat} : ip_WP 102 9 [some (.ref x0)] [.ref s2, .ref s1, .ref s0] (G, F, I, J) b post px ↔ ip_WP 102 11 [some (.ref x0)] [.int 12, .ref s2, .ref s1, .ref s0] (G, F, I, J) b post px := ip_s_bipush f102_9 (by decide)
theorem f102_11 : ip_fetch 102 11 = some (.invokespecial 13, 3) := by decide +kernel
set_option maxRecDepth 100000 in
theorem s102_11 {x0 : Nat} {s0 : Nat} {s1 : Nat} {s2 : Nat} {s3 : Int32} : ip_WP 102 11 [some (.ref x0)] [.int s3, .ref s2, .ref s1, .ref s0] (G, F, I, J) b post px ↔ (ip_wfc G.length [some (.ref x0)] [.ref s1, .ref s0] = true ∧ (ip_bud 137 b = true ∧ ip_WP 137 0 [some (.ref s2), some (.int s3)] [] (G, F, I, J) (1, 12) (fun r h' => ip_WP 102 14 [some (.ref x0)] (r.toList ++ [.ref s1, .ref s0]) h' (ip_rst 137 b) post px) (fun _ _ => False))) := ip_ck_iff (x := if ip_bud 137 b = true then ip_cl 137 [some (.ref s2), some (.int s3)] [.ref s1, .ref s0] (1, 12) (ip_rst 137 b) else none) ((ip_st_of f102_11).trans rfl) (fun hs => ip_ck_iff (x := ip_cl 137 [some (.ref s2), some (.int s3)] [.ref s1, .ref s0] (1, 12) (ip_rst 137 b)) hs (ip_cl_iff))
theorem f102_14 : ip_fetch 102 14 = some (.putfield 16, 3) := by decide +kernel
set_option maxRecDepth 100000 in
theorem s102_14 {x0 : Nat} {s0 : Nat} {s1 : Nat} : ip_WP 102 14 [some (.ref x0)] [.ref s1, .ref s0] (G, F, I, J) b post px ↔ (ip_isO G s0 3 = true ∧ s1 < G.length ∧ ip_WP 102 17 [some (.ref x0)] [] (G, ip_up F s0 0 (.ref s1), I, J) b post px) := ip_s_putR f102_14 (by decide +kernel) rfl
theorem f102_17 : ip_fetch 102 17 = some (.aload_n 0, 1) := by decide +kernel
theorem s102_17 {x0 : Nat} : ip_WP 102 17 [some (.ref x0)] [] (G, F, I, J) b post px ↔ ip_WP 102 18 [some (.ref x0)] [.ref x0] (G, F, I, J) b post px := ip_nx_iff ((ip_st_of f102_17).trans rfl)
theorem f102_18 : ip_fetch 102 18 = some (.new 9, 3) := by decide +kernel
set_option maxRecDepth 100000 in
theorem s102_18 {x0 : Nat} {s0 : Nat} : ip_WP 102 18 [some (.ref x0)] [.ref s0] (G, F, I, J) b post px ↔ (ip_wfc G.length [some (.ref x0)] [.ref s0] = true ∧ (1 ≤ b.1 ∧ 2 ≤ b.2 ∧ G.length < ip_SC) ∧ ip_WP 102 21 [some (.ref x0)] [.ref G.length, .ref s0] (G ++ [.inr (6, 2)], fun a j => if a = G.length then ip_dfl (ip_fty 6 j) else F a j, I, J) (b.1 - 1, b.2 - 2) post px) := ip_s_new f102_18 rfl rfl rfl rfl
theorem f102_21 : ip_fetch 102 21 = some (.dup, 1) := by decide +kernel
theorem s102_21 {x0 : Nat} {s0 : Nat} {s1 : Nat} : ip_WP 102 21 [some (.ref x0)] [.ref s1, .ref s0] (G, F, I, J) b post px ↔ ip_WP 102 22 [some (.ref x0)] [.ref s1, .ref s1, .ref s0] (G, F, I, J) b post px := ip_nx_iff ((ip_st_of f102_21).trans rfl)
theorem f102_22 : ip_fetch 102 22 = some (.bipush 12, 2) := by decide +kernel
theorem s102_22 {x0 : Nat} {s0 : Nat} {s1 : Nat} {s2 : Nat} : ip_WP 102 22 [some (.ref x0)] [.ref s2, .ref s1, .ref s0] (G, F, I, J) b post px ↔ ip_WP 102 24 [some (.ref x0)] [.int 12, .ref s2, .ref s1, .ref s0] (G, F, I, J) b post px := ip_s_bipush f102_22 (by decide)
theorem f102_24 : ip_fetch 102 24 = some (.invokespecial 13, 3) := by decide +kernel
set_option maxRecDepth 100000 in
theorem s102_24 {x0 : Nat} {s0 : Nat} {s1 : Nat} {s2 : Nat} {s3 : Int32} : ip_WP 102 24 [some (.ref x0)] [.int s3, .ref s2, .ref s1, .ref s0] (G, F, I, J) b post px ↔ (ip_wfc G.length [some (.ref x0)] [.ref s1, .ref s0] = true ∧ (ip_bud 137 b = true ∧ ip_WP 137 0 [some (.ref s2), some (.int s3)] [] (G, F, I, J) (1, 12) (fun r h' => ip_WP 102 27 [some (.ref x0)] (r.toList ++ [.ref s1, .ref s0]) h' (ip_rst 137 b) post px) (fun _ _ => False))) := ip_ck_iff (x := if ip_bud 137 b = true then ip_cl 137 [some (.ref s2), some (.int s3)] [.ref s1, .ref s0] (1, 12) (ip_rst 137 b) else none) ((ip_st_of f102_24).trans rfl) (fun hs => ip_ck_iff (x := ip_cl 137 [some (.ref s2), some (.int s3)] [.ref s1, .ref s0] (1, 12) (ip_rst 137 b)) hs (ip_cl_iff))
theorem f102_27 : ip_fetch 102 27 = some (.putfield 20, 3) := by decide +kernel
set_option maxRecDepth 100000 in
theorem s102_27 {x0 : Nat} {s0 : Nat} {s1 : Nat} : ip_WP 102 27 [some (.ref x0)] [.ref s1, .ref s0] (G, F, I, J) b post px ↔ (ip_isO G s0 3 = true ∧ s1 < G.length ∧ ip_WP 102 30 [some (.ref x0)] [] (G, ip_up F s0 1 (.ref s1), I, J) b post px) := ip_s_putR f102_27 (by decide +kernel) rfl
theorem f102_30 : ip_fetch 102 30 = some (.aload_n 0, 1) := by decide +kernel
theorem s102_30 {x0 : Nat} : ip_WP 102 30 [some (.ref x0)] [] (G, F, I, J) b post px ↔ ip_WP 102 31 [some (.ref x0)] [.ref x0] (G, F, I, J) b post px := ip_nx_iff ((ip_st_of f102_30).trans rfl)
theorem f102_31 : ip_fetch 102 31 = some (.new 9, 3) := by decide +kernel
set_option maxRecDepth 100000 in
theorem s102_31 {x0 : Nat} {s0 : Nat} : ip_WP 102 31 [some (.ref x0)] [.ref s0] (G, F, I, J) b post px ↔ (ip_wfc G.length [some (.ref x0)] [.ref s0] = true ∧ (1 ≤ b.1 ∧ 2 ≤ b.2 ∧ G.length < ip_SC) ∧ ip_WP 102 34 [some (.ref x0)] [.ref G.length, .ref s0] (G ++ [.inr (6, 2)], fun a j => if a = G.length then ip_dfl (ip_fty 6 j) else F a j, I, J) (b.1 - 1, b.2 - 2) post px) := ip_s_new f102_31 rfl rfl rfl rfl
theorem f102_34 : ip_fetch 102 34 = some (.dup, 1) := by decide +kernel
theorem s102_34 {x0 : Nat} {s0 : Nat} {s1 : Nat} : ip_WP 102 34 [some (.ref x0)] [.ref s1, .ref s0] (G, F, I, J) b post px ↔ ip_WP 102 35 [some (.ref x0)] [.ref s1, .ref s1, .ref s0] (G, F, I, J) b post px := ip_nx_iff ((ip_st_of f102_34).trans rfl)
theorem f102_35 : ip_fetch 102 35 = some (.bipush 8, 2) := by decide +kernel
theorem s102_35 {x0 : Nat} {s0 : Nat} {s1 : Nat} {s2 : Nat} : ip_WP 102 35 [some (.ref x0)] [.ref s2, .ref s1, .ref s0] (G, F, I, J) b post px ↔ ip_WP 102 37 [some (.ref x0)] [.int 8, .ref s2, .ref s1, .ref s0] (G, F, I, J) b post px := ip_s_bipush f102_35 (by decide)
theorem f102_37 : ip_fetch 102 37 = some (.invokespecial 13, 3) := by decide +kernel
set_option maxRecDepth 100000 in
theorem s102_37 {x0 : Nat} {s0 : Nat} {s1 : Nat} {s2 : Nat} {s3 : Int32} : ip_WP 102 37 [some (.ref x0)] [.int s3, .ref s2, .ref s1, .ref s0] (G, F, I, J) b post px ↔ (ip_wfc G.length [some (.ref x0)] [.ref s1, .ref s0] = true ∧ (ip_bud 137 b = true ∧ ip_WP 137 0 [some (.ref s2), some (.int s3)] [] (G, F, I, J) (1, 12) (fun r h' => ip_WP 102 40 [some (.ref x0)] (r.toList ++ [.ref s1, .ref s0]) h' (ip_rst 137 b) post px) (fun _ _ => False))) := ip_ck_iff (x := if ip_bud 137 b = true then ip_cl 137 [some (.ref s2), some (.int s3)] [.ref s1, .ref s0] (1, 12) (ip_rst 137 b) else none) ((ip_st_of f102_37).trans rfl) (fun hs => ip_ck_iff (x := ip_cl 137 [some (.ref s2), some (.int s3)] [.ref s1, .ref s0] (1, 12) (ip_rst 137 b)) hs (ip_cl_iff))
theorem f102_40 : ip_fetch 102 40 = some (.putfield 23, 3) := by decide +kernel
set_option maxRecDepth 100000 in
theorem s102_40 {x0 : Nat} {s0 : Nat} {s1 : Nat} : ip_WP 102 40 [some (.ref x0)] [.ref s1, .ref s0] (G, F, I, J) b post px ↔ (ip_isO G s0 3 = true ∧ s1 < G.length ∧ ip_WP 102 43 [some (.ref x0)] [] (G, ip_up F s0 2 (.ref s1), I, J) b post px) := ip_s_putR f102_40 (by decide +kernel) rfl
theorem f102_43 : ip_fetch 102 43 = some (.aload_n 0, 1) := by decide +kernel
theorem s102_43 {x0 : Nat} : ip_WP 102 43 [some (.ref x0)] [] (G, F, I, J) b post px ↔ ip_WP 102 44 [some (.ref x0)] [.ref x0] (G, F, I, J) b post px := ip_nx_iff ((ip_st_of f102_43).trans rfl)
theorem f102_44 : ip_fetch 102 44 = some (.new 9, 3) := by decide +kernel
set_option maxRecDepth 100000 in
theorem s102_44 {x0 : Nat} {s0 : Nat} : ip_WP 102 44 [some (.ref x0)] [.ref s0] (G, F, I, J) b post px ↔ (ip_wfc G.length [some (.ref x0)] [.ref s0] = true ∧ (1 ≤ b.1 ∧ 2 ≤ b.2 ∧ G.length < ip_SC) ∧ ip_WP 102 47 [some (.ref x0)] [.ref G.length, .ref s0] (G ++ [.inr (6, 2)], fun a j => if a = G.length then ip_dfl (ip_fty 6 j) else F a j, I, J) (b.1 - 1, b.2 - 2) post px) := ip_s_new f102_44 rfl rfl rfl rfl
theorem f102_47 : ip_fetch 102 47 = some (.dup, 1) := by decide +kernel
theorem s102_47 {x0 : Nat} {s0 : Nat} {s1 : Nat} : ip_WP 102 47 [some (.ref x0)] [.ref s1, .ref s0] (G, F, I, J) b post px ↔ ip_WP 102 48 [some (.ref x0)] [.ref s1, .ref s1, .ref s0] (G, F, I, J) b post px := ip_nx_iff ((ip_st_of f102_47).trans rfl)
theorem f102_48 : ip_fetch 102 48 = some (.bipush 8, 2) := by decide +kernel
theorem s102_48 {x0 : Nat} {s0 : Nat} {s1 : Nat} {s2 : Nat} : ip_WP 102 48 [some (.ref x0)] [.ref s2, .ref s1, .ref s0] (G, F, I, J) b post px ↔ ip_WP 102 50 [some (.ref x0)] [.int 8, .ref s2, .ref s1, .ref s0] (G, F, I, J) b post px := ip_s_bipush f102_48 (by decide)
theorem f102_50 : ip_fetch 102 50 = some (.invokespecial 13, 3) := by decide +kernel
set_option maxRecDepth 100000 in
theorem s102_50 {x0 : Nat} {s0 : Nat} {s1 : Nat} {s2 : Nat} {s3 : Int32} : ip_WP 102 50 [some (.ref x0)] [.int s3, .ref s2, .ref s1, .ref s0] (G, F, I, J) b post px ↔ (ip_wfc G.length [some (.ref x0)] [.ref s1, .ref s0] = true ∧ (ip_bud 137 b = true ∧ ip_WP 137 0 [some (.ref s2), some (.int s3)] [] (G, F, I, J) (1, 12) (fun r h' => ip_WP 102 53 [some (.ref x0)] (r.toList ++ [.ref s1, .ref s0]) h' (ip_rst 137 b) post px) (fun _ _ => False))) := ip_ck_iff (x := if ip_bud 137 b = true then ip_cl 137 [some (.ref s2), some (.int s3)] [.ref s1, .ref s0] (1, 12) (ip_rst 137 b) else none) ((ip_st_of f102_50).trans rfl) (fun hs => ip_ck_iff (x := ip_cl 137 [some (.ref s2), some (.int s3)] [.ref s1, .ref s0] (1, 12) (ip_rst 137 b)) hs (ip_cl_iff))
theorem f102_53 : ip_fetch 102 53 = some (.putfield 26, 3) := by decide +kernel
set_option maxRecDepth 100000 in
theorem s102_53 {x0 : Nat} {s0 : Nat} {s1 : Nat} : ip_WP 102 53 [some (.ref x0)] [.ref s1, .ref s0] (G, F, I, J) b post px ↔ (ip_isO G s0 3 = true ∧ s1 < G.length ∧ ip_WP 102 56 [some (.ref x0)] [] (G, ip_up F s0 3 (.ref s1), I, J) b post px) := ip_s_putR f102_53 (by decide +kernel) rfl
theorem f102_56 : ip_fetch 102 56 = some (.aload_n 0, 1) := by decide +kernel
theorem s102_56 {x0 : Nat} : ip_WP 102 56 [some (.ref x0)] [] (G, F, I, J) b post px ↔ ip_WP 102 57 [some (.ref x0)] [.ref x0] (G, F, I, J) b post px := ip_nx_iff ((ip_st_of f102_56).trans rfl)
theorem f102_57 : ip_fetch 102 57 = some (.new 29, 3) := by decide +kernel
set_option maxRecDepth 100000 in
theorem s102_57 {x0 : Nat} {s0 : Nat} : ip_WP 102 57 [some (.ref x0)] [.ref s0] (G, F, I, J) b post px ↔ (ip_wfc G.length [some (.ref x0)] [.ref s0] = true ∧ (1 ≤ b.1 ∧ 2 ≤ b.2 ∧ G.length < ip_SC) ∧ ip_WP 102 60 [some (.ref x0)] [.ref G.length, .ref s0] (G ++ [.inr (9, 2)], fun a j => if a = G.length then ip_dfl (ip_fty 9 j) else F a j, I, J) (b.1 - 1, b.2 - 2) post px) := ip_s_new f102_57 rfl rfl rfl rfl
theorem f102_60 : ip_fetch 102 60 = some (.dup, 1) := by decide +kernel
theorem s102_60 {x0 : Nat} {s0 : Nat} {s1 : Nat} : ip_WP 102 60 [some (.ref x0)] [.ref s1, .ref s0] (G, F, I, J) b post px ↔ ip_WP 102 61 [some (.ref x0)] [.ref s1, .ref s1, .ref s0] (G, F, I, J) b post px := ip_nx_iff ((ip_st_of f102_60).trans rfl)
theorem f102_61 : ip_fetch 102 61 = some (.bipush 12, 2) := by decide +kernel
theorem s102_61 {x0 : Nat} {s0 : Nat} {s1 : Nat} {s2 : Nat} : ip_WP 102 61 [some (.ref x0)] [.ref s2, .ref s1, .ref s0] (G, F, I, J) b post px ↔ ip_WP 102 63 [some (.ref x0)] [.int 12, .ref s2, .ref s1, .ref s0] (G, F, I, J) b post px := ip_s_bipush f102_61 (by decide)
theorem f102_63 : ip_fetch 102 63 = some (.iconst (-1), 1) := by decide +kernel
theorem s102_63 {x0 : Nat} {s0 : Nat} {s1 : Nat} {s2 : Nat} {s3 : Int32} : ip_WP 102 63 [some (.ref x0)] [.int s3, .ref s2, .ref s1, .ref s0] (G, F, I, J) b post px ↔ ip_WP 102 64 [some (.ref x0)] [.int (-1), .int s3, .ref s2, .ref s1, .ref s0] (G, F, I, J) b post px := ip_s_iconst f102_63 (by decide)
theorem f102_64 : ip_fetch 102 64 = some (.invokespecial 31, 3) := by decide +kernel
set_option maxRecDepth 100000 in
theorem s102_64 {x0 : Nat} {s0 : Nat} {s1 : Nat} {s2 : Nat} {s3 : Int32} {s4 : Int32} : ip_WP 102 64 [some (.ref x0)] [.int s4, .int s3, .ref s2, .ref s1, .ref s0] (G, F, I, J) b post px ↔ (ip_wfc G.length [some (.ref x0)] [.ref s1, .ref s0] = true ∧ (ip_bud 189 b = true ∧ ip_WP 189 0 [some (.ref s2), some (.int s3), some (.int s4)] [] (G, F, I, J) (1, 68) (fun r h' => ip_WP 102 67 [some (.ref x0)] (r.toList ++ [.ref s1, .ref s0]) h' (ip_rst 189 b) post px) (fun _ _ => False))) := ip_ck_iff (x := if ip_bud 189 b = true then ip_cl 189 [some (.ref s2), some (.int s3), some (.int s4)] [.ref s1, .ref s0] (1, 68) (ip_rst 189 b) else none) ((ip_st_of f102_64).trans rfl) (fun hs => ip_ck_iff (x := ip_cl 189 [some (.ref s2), some (.int s3), some (.int s4)] [.ref s1, .ref s0] (1, 68) (ip_rst 189 b)) hs (ip_cl_iff))
theorem f102_67 : ip_fetch 102 67 = some (.putfield 34, 3) := by decide +kernel
set_option maxRecDepth 100000 in
theorem s102_67 {x0 : Nat} {s0 : Nat} {s1 : Nat} : ip_WP 102 67 [some (.ref x0)] [.ref s1, .ref s0] (G, F, I, J) b post px ↔ (ip_isO G s0 3 = true ∧ s1 < G.length ∧ ip_WP 102 70 [some (.ref x0)] [] (G, ip_up F s0 4 (.ref s1), I, J) b post px) := ip_s_putR f102_67 (by decide +kernel) rfl
theorem f102_70 : ip_fetch 102 70 = some (.aload_n 0, 1) := by decide +kernel
theorem s102_70 {x0 : Nat} : ip_WP 102 70 [some (.ref x0)] [] (G, F, I, J) b post px ↔ ip_WP 102 71 [some (.ref x0)] [.ref x0] (G, F, I, J) b post px := ip_nx_iff ((ip_st_of f102_70).trans rfl)
theorem f102_71 : ip_fetch 102 71 = some (.new 29, 3) := by decide +kernel
set_option maxRecDepth 100000 in
theorem s102_71 {x0 : Nat} {s0 : Nat} : ip_WP 102 71 [some (.ref x0)] [.ref s0] (G, F, I, J) b post px ↔ (ip_wfc G.length [some (.ref x0)] [.ref s0] = true ∧ (1 ≤ b.1 ∧ 2 ≤ b.2 ∧ G.length < ip_SC) ∧ ip_WP 102 74 [some (.ref x0)] [.ref G.length, .ref s0] (G ++ [.inr (9, 2)], fun a j => if a = G.length then ip_dfl (ip_fty 9 j) else F a j, I, J) (b.1 - 1, b.2 - 2) post px) := ip_s_new f102_71 rfl rfl rfl rfl
theorem f102_74 : ip_fetch 102 74 = some (.dup, 1) := by decide +kernel
theorem s102_74 {x0 : Nat} {s0 : Nat} {s1 : Nat} : ip_WP 102 74 [some (.ref x0)] [.ref s1, .ref s0] (G, F, I, J) b post px ↔ ip_WP 102 75 [some (.ref x0)] [.ref s1, .ref s1, .ref s0] (G, F, I, J) b post px := ip_nx_iff ((ip_st_of f102_74).trans rfl)
theorem f102_75 : ip_fetch 102 75 = some (.bipush 12, 2) := by decide +kernel
theorem s102_75 {x0 : Nat} {s0 : Nat} {s1 : Nat} {s2 : Nat} : ip_WP 102 75 [some (.ref x0)] [.ref s2, .ref s1, .ref s0] (G, F, I, J) b post px ↔ ip_WP 102 77 [some (.ref x0)] [.int 12, .ref s2, .ref s1, .ref s0] (G, F, I, J) b post px := ip_s_bipush f102_75 (by decide)
theorem f102_77 : ip_fetch 102 77 = some (.iconst (-1), 1) := by decide +kernel
theorem s102_77 {x0 : Nat} {s0 : Nat} {s1 : Nat} {s2 : Nat} {s3 : Int32} : ip_WP 102 77 [some (.ref x0)] [.int s3, .ref s2, .ref s1, .ref s0] (G, F, I, J) b post px ↔ ip_WP 102 78 [some (.ref x0)] [.int (-1), .int s3, .ref s2, .ref s1, .ref s0] (G, F, I, J) b post px := ip_s_iconst f102_77 (by decide)
theorem f102_78 : ip_fetch 102 78 = some (.invokespecial 31, 3) := by decide +kernel
set_option maxRecDepth 100000 in
theorem s102_78 {x0 : Nat} {s0 : Nat} {s1 : Nat} {s2 : Nat} {s3 : Int32} {s4 : Int32} : ip_WP 102 78 [some (.ref x0)] [.int s4, .int s3, .ref s2, .ref s1, .ref s0] (G, F, I, J) b post px ↔ (ip_wfc G.length [some (.ref x0)] [.ref s1, .ref s0] = true ∧ (ip_bud 189 b = true ∧ ip_WP 189 0 [some (.ref s2), some (.int s3), some (.int s4)] [] (G, F, I, J) (1, 68) (fun r h' => ip_WP 102 81 [some (.ref x0)] (r.toList ++ [.ref s1, .ref s0]) h' (ip_rst 189 b) post px) (fun _ _ => False))) := ip_ck_iff (x := if ip_bud 189 b = true then ip_cl 189 [some (.ref s2), some (.int s3), some (.int s4)] [.ref s1, .ref s0] (1, 68) (ip_rst 189 b) else none) ((ip_st_of f102_78).trans rfl) (fun hs => ip_ck_iff (x := ip_cl 189 [some (.ref s2), some (.int s3), some (.int s4)] [.ref s1, .ref s0] (1, 68) (ip_rst 189 b)) hs (ip_cl_iff))
theorem f102_81 : ip_fetch 102 81 = some (.putfield 38, 3) := by decide +kernel
set_option maxRecDepth 100000 in
theorem s102_81 {x0 : Nat} {s0 : Nat} {s1 : Nat} : ip_WP 102 81 [some (.ref x0)] [.ref s1, .ref s0] (G, F, I, J) b post px ↔ (ip_isO G s0 3 = true ∧ s1 < G.length ∧ ip_WP 102 84 [some (.ref x0)] [] (G, ip_up F s0 5 (.ref s1), I, J) b post px) := ip_s_putR f102_81 (by decide +kernel) rfl
theorem f102_84 : ip_fetch 102 84 = some (.aload_n 0, 1) := by decide +kernel
theorem s102_84 {x0 : Nat} : ip_WP 102 84 [some (.ref x0)] [] (G, F, I, J) b post px ↔ ip_WP 102 85 [some (.ref x0)] [.ref x0] (G, F, I, J) b post px := ip_nx_iff ((ip_st_of f102_84).trans rfl)
theorem f102_85 : ip_fetch 102 85 = some (.new 29, 3) := by decide +kernel
set_option maxRecDepth 100000 in
theorem s102_85 {x0 : Nat} {s0 : Nat} : ip_WP 102 85 [some (.ref x0)] [.ref s0] (G, F, I, J) b post px ↔ (ip_wfc G.length [some (.ref x0)] [.ref s0] = true ∧ (1 ≤ b.1 ∧ 2 ≤ b.2 ∧ G.length < ip_SC) ∧ ip_WP 102 88 [some (.ref x0)] [.ref G.length, .ref s0] (G ++ [.inr (9, 2)], fun a j => if a = G.length then ip_dfl (ip_fty 9 j) else F a j, I, J) (b.1 - 1, b.2 - 2) post px) := ip_s_new f102_85 rfl rfl rfl rfl
theorem f102_88 : ip_fetch 102 88 = some (.dup, 1) := by decide +kernel
theorem s102_88 {x0 : Nat} {s0 : Nat} {s1 : Nat} : ip_WP 102 88 [some (.ref x0)] [.ref s1, .ref s0] (G, F, I, J) b post px ↔ ip_WP 102 89 [some (.ref x0)] [.ref s1, .ref s1, .ref s0] (G, F, I, J) b post px := ip_nx_iff ((ip_st_of f102_88).trans rfl)
theorem f102_89 : ip_fetch 102 89 = some (.bipush 12, 2) := by decide +kernel
theorem s102_89 {x0 : Nat} {s0 : Nat} {s1 : Nat} {s2 : Nat} : ip_WP 102 89 [some (.ref x0)] [.ref s2, .ref s1, .ref s0] (G, F, I, J) b post px ↔ ip_WP 102 91 [some (.ref x0)] [.int 12, .ref s2, .ref s1, .ref s0] (G, F, I, J) b post px := ip_s_bipush f102_89 (by decide)
theorem f102_91 : ip_fetch 102 91 = some (.iconst 0, 1) := by decide +kernel
theorem s102_91 {x0 : Nat} {s0 : Nat} {s1 : Nat} {s2 : Nat} {s3 : Int32} : ip_WP 102 91 [some (.ref x0)] [.int s3, .ref s2, .ref s1, .ref s0] (G, F, I, J) b post px ↔ ip_WP 102 92 [some (.ref x0)] [.int 0, .int s3, .ref s2, .ref s1, .ref s0] (G, F, I, J) b post px := ip_s_iconst f102_91 (by decide)
theorem f102_92 : ip_fetch 102 92 = some (.invokespecial 31, 3) := by decide +kernel
set_option maxRecDepth 100000 in
theorem s102_92 {x0 : Nat} {s0 : Nat} {s1 : Nat} {s2 : Nat} {s3 : Int32} {s4 : Int32} : ip_WP 102 92 [some (.ref x0)] [.int s4, .int s3, .ref s2, .ref s1, .ref s0] (G, F, I, J) b post px ↔ (ip_wfc G.length [some (.ref x0)] [.ref s1, .ref s0] = true ∧ (ip_bud 189 b = true ∧ ip_WP 189 0 [some (.ref s2), some (.int s3), some (.int s4)] [] (G, F, I, J) (1, 68) (fun r h' => ip_WP 102 95 [some (.ref x0)] (r.toList ++ [.ref s1, .ref s0]) h' (ip_rst 189 b) post px) (fun _ _ => False))) := ip_ck_iff (x := if ip_bud 189 b = true then ip_cl 189 [some (.ref s2), some (.int s3), some (.int s4)] [.ref s1, .ref s0] (1, 68) (ip_rst 189 b) else none) ((ip_st_of f102_92).trans rfl) (fun hs => ip_ck_iff (x := ip_cl 189 [some (.ref s2), some (.int s3), some (.int s4)] [.ref s1, .ref s0] (1, 68) (ip_rst 189 b)) hs (ip_cl_iff))
theorem f102_95 : ip_fetch 102 95 = some (.putfield 41, 3) := by decide +kernel
set_option maxRecDepth 100000 in
theorem s102_95 {x0 : Nat} {s0 : Nat} {s1 : Nat} : ip_WP 102 95 [some (.ref x0)] [.ref s1, .ref s0] (G, F, I, J) b post px ↔ (ip_isO G s0 3 = true ∧ s1 < G.length ∧ ip_WP 102 98 [some (.ref x0)] [] (G, ip_up F s0 6 (.ref s1), I, J) b post px) := ip_s_putR f102_95 (by decide +kernel) rfl
theorem f102_98 : ip_fetch 102 98 = some (.aload_n 0, 1) := by decide +kernel
theorem s102_98 {x0 : Nat} : ip_WP 102 98 [some (.ref x0)] [] (G, F, I, J) b post px ↔ ip_WP 102 99 [some (.ref x0)] [.ref x0] (G, F, I, J) b post px := ip_nx_iff ((ip_st_of f102_98).trans rfl)
theorem f102_99 : ip_fetch 102 99 = some (.new 29, 3) := by decide +kernel
set_option maxRecDepth 100000 in
theorem s102_99 {x0 : Nat} {s0 : Nat} : ip_WP 102 99 [some (.ref x0)] [.ref s0] (G, F, I, J) b post px ↔ (ip_wfc G.length [some (.ref x0)] [.ref s0] = true ∧ (1 ≤ b.1 ∧ 2 ≤ b.2 ∧ G.length < ip_SC) ∧ ip_WP 102 102 [some (.ref x0)] [.ref G.length, .ref s0] (G ++ [.inr (9, 2)], fun a j => if a = G.length then ip_dfl (ip_fty 9 j) else F a j, I, J) (b.1 - 1, b.2 - 2) post px) := ip_s_new f102_99 rfl rfl rfl rfl
theorem f102_102 : ip_fetch 102 102 = some (.dup, 1) := by decide +kernel
theorem s102_102 {x0 : Nat} {s0 : Nat} {s1 : Nat} : ip_WP 102 102 [some (.ref x0)] [.ref s1, .ref s0] (G, F, I, J) b post px ↔ ip_WP 102 103 [some (.ref x0)] [.ref s1, .ref s1, .ref s0] (G, F, I, J) b post px := ip_nx_iff ((ip_st_of f102_102).trans rfl)
theorem f102_103 : ip_fetch 102 103 = some (.bipush 7, 2) := by decide +kernel
theorem s102_103 {x0 : Nat} {s0 : Nat} {s1 : Nat} {s2 : Nat} : ip_WP 102 103 [some (.ref x0)] [.ref s2, .ref s1, .ref s0] (G, F, I, J) b post px ↔ ip_WP 102 105 [some (.ref x0)] [.int 7, .ref s2, .ref s1, .ref s0] (G, F, I, J) b post px := ip_s_bipush f102_103 (by decide)
theorem f102_105 : ip_fetch 102 105 = some (.iconst (-1), 1) := by decide +kernel
theorem s102_105 {x0 : Nat} {s0 : Nat} {s1 : Nat} {s2 : Nat} {s3 : Int32} : ip_WP 102 105 [some (.ref x0)] [.int s3, .ref s2, .ref s1, .ref s0] (G, F, I, J) b post px ↔ ip_WP 102 106 [some (.ref x0)] [.int (-1), .int s3, .ref s2, .ref s1, .ref s0] (G, F, I, J) b post px := ip_s_iconst f102_105 (by decide)
theorem f102_106 : ip_fetch 102 106 = some (.invokespecial 31, 3) := by decide +kernel
set_option maxRecDepth 100000 in
theorem s102_106 {x0 : Nat} {s0 : Nat} {s1 : Nat} {s2 : Nat} {s3 : Int32} {s4 : Int32} : ip_WP 102 106 [some (.ref x0)] [.int s4, .int s3, .ref s2, .ref s1, .ref s0] (G, F, I, J) b post px ↔ (ip_wfc G.length [some (.ref x0)] [.ref s1, .ref s0] = true ∧ (ip_bud 189 b = true ∧ ip_WP 189 0 [some (.ref s2), some (.int s3), some (.int s4)] [] (G, F, I, J) (1, 68) (fun r h' => ip_WP 102 109 [some (.ref x0)] (r.toList ++ [.ref s1, .ref s0]) h' (ip_rst 189 b) post px) (fun _ _ => False))) := ip_ck_iff (x := if ip_bud 189 b = true then ip_cl 189 [some (.ref s2), some (.int s3), some (.int s4)] [.ref s1, .ref s0] (1, 68) (ip_rst 189 b) else none) ((ip_st_of f102_106).trans rfl) (fun hs => ip_ck_iff (x := ip_cl 189 [some (.ref s2), some (.int s3), some (.int s4)] [.ref s1, .ref s0] (1, 68) (ip_rst 189 b)) hs (ip_cl_iff))
theorem f102_109 : ip_fetch 102 109 = some (.putfield 44, 3) := by decide +kernel
set_option maxRecDepth 100000 in
theorem s102_109 {x0 : Nat} {s0 : Nat} {s1 : Nat} : ip_WP 102 109 [some (.ref x0)] [.ref s1, .ref s0] (G, F, I, J) b post px ↔ (ip_isO G s0 3 = true ∧ s1 < G.length ∧ ip_WP 102 112 [some (.ref x0)] [] (G, ip_up F s0 7 (.ref s1), I, J) b post px) := ip_s_putR f102_109 (by decide +kernel) rfl
theorem f102_112 : ip_fetch 102 112 = some (.aload_n 0, 1) := by decide +kernel
theorem s102_112 {x0 : Nat} : ip_WP 102 112 [some (.ref x0)] [] (G, F, I, J) b post px ↔ ip_WP 102 113 [some (.ref x0)] [.ref x0] (G, F, I, J) b post px := ip_nx_iff ((ip_st_of f102_112).trans rfl)
theorem f102_113 : ip_fetch 102 113 = some (.new 29, 3) := by decide +kernel
set_option maxRecDepth 100000 in
theorem s102_113 {x0 : Nat} {s0 : Nat} : ip_WP 102 113 [some (.ref x0)] [.ref s0] (G, F, I, J) b post px ↔ (ip_wfc G.length [some (.ref x0)] [.ref s0] = true ∧ (1 ≤ b.1 ∧ 2 ≤ b.2 ∧ G.length < ip_SC) ∧ ip_WP 102 116 [some (.ref x0)] [.ref G.length, .ref s0] (G ++ [.inr (9, 2)], fun a j => if a = G.length then ip_dfl (ip_fty 9 j) else F a j, I, J) (b.1 - 1, b.2 - 2) post px) := ip_s_new f102_113 rfl rfl rfl rfl
theorem f102_116 : ip_fetch 102 116 = some (.dup, 1) := by decide +kernel
theorem s102_116 {x0 : Nat} {s0 : Nat} {s1 : Nat} : ip_WP 102 116 [some (.ref x0)] [.ref s1, .ref s0] (G, F, I, J) b post px ↔ ip_WP 102 117 [some (.ref x0)] [.ref s1, .ref s1, .ref s0] (G, F, I, J) b post px := ip_nx_iff ((ip_st_of f102_116).trans rfl)
theorem f102_117 : ip_fetch 102 117 = some (.bipush 24, 2) := by decide +kernel
theorem s102_117 {x0 : Nat} {s0 : Nat} {s1 : Nat} {s2 : Nat} : ip_WP 102 117 [some (.ref x0)] [.ref s2, .ref s1, .ref s0] (G, F, I, J) b post px ↔ ip_WP 102 119 [some (.ref x0)] [.int 24, .ref s2, .ref s1, .ref s0] (G, F, I, J) b post px := ip_s_bipush f102_117 (by decide)
theorem f102_119 : ip_fetch 102 119 = some (.iconst (-1), 1) := by decide +kernel
theorem s102_119 {x0 : Nat} {s0 : Nat} {s1 : Nat} {s2 : Nat} {s3 : Int32} : ip_WP 102 119 [some (.ref x0)] [.int s3, .ref s2, .ref s1, .ref s0] (G, F, I, J) b post px ↔ ip_WP 102 120 [some (.ref x0)] [.int (-1), .int s3, .ref s2, .ref s1, .ref s0] (G, F, I, J) b post px := ip_s_iconst f102_119 (by decide)
theorem f102_120 : ip_fetch 102 120 = some (.invokespecial 31, 3) := by decide +kernel
set_option maxRecDepth 100000 in
theorem s102_120 {x0 : Nat} {s0 : Nat} {s1 : Nat} {s2 : Nat} {s3 : Int32} {s4 : Int32} : ip_WP 102 120 [some (.ref x0)] [.int s4, .int s3, .ref s2, .ref s1, .ref s0] (G, F, I, J) b post px ↔ (ip_wfc G.length [some (.ref x0)] [.ref s1, .ref s0] = true ∧ (ip_bud 189 b = true ∧ ip_WP 189 0 [some (.ref s2), some (.int s3), some (.int s4)] [] (G, F, I, J) (1, 68) (fun r h' => ip_WP 102 123 [some (.ref x0)] (r.toList ++ [.ref s1, .ref s0]) h' (ip_rst 189 b) post px) (fun _ _ => False))) := ip_ck_iff (x := if ip_bud 189 b = true then ip_cl 189 [some (.ref s2), some (.int s3), some (.int s4)] [.ref s1, .ref s0] (1, 68) (ip_rst 189 b) else none) ((ip_st_of f102_120).trans rfl) (fun hs => ip_ck_iff (x := ip_cl 189 [some (.ref s2), some (.int s3), some (.int s4)] [.ref s1, .ref s0] (1, 68) (ip_rst 189 b)) hs (ip_cl_iff))
theorem f102_123 : ip_fetch 102 123 = some (.putfield 47, 3) := by decide +kernel
set_option maxRecDepth 100000 in
theorem s102_123 {x0 : Nat} {s0 : Nat} {s1 : Nat} : ip_WP 102 123 [some (.ref x0)] [.ref s1, .ref s0] (G, F, I, J) b post px ↔ (ip_isO G s0 3 = true ∧ s1 < G.length ∧ ip_WP 102 126 [some (.ref x0)] [] (G, ip_up F s0 8 (.ref s1), I, J) b post px) := ip_s_putR f102_123 (by decide +kernel) rfl
theorem f102_126 : ip_fetch 102 126 = some (.aload_n 0, 1) := by decide +kernel
theorem s102_126 {x0 : Nat} : ip_WP 102 126 [some (.ref x0)] [] (G, F, I, J) b post px ↔ ip_WP 102 127 [some (.ref x0)] [.ref x0] (G, F, I, J) b post px := ip_nx_iff ((ip_st_of f102_126).trans rfl)
theorem f102_127 : ip_fetch 102 127 = some (.new 29, 3) := by decide +kernel
set_option maxRecDepth 100000 in
theorem s102_127 {x0 : Nat} {s0 : Nat} : ip_WP 102 127 [some (.ref x0)] [.ref s0] (G, F, I, J) b post px ↔ (ip_wfc G.length [some (.ref x0)] [.ref s0] = true ∧ (1 ≤ b.1 ∧ 2 ≤ b.2 ∧ G.length < ip_SC) ∧ ip_WP 102 130 [some (.ref x0)] [.ref G.length, .ref s0] (G ++ [.inr (9, 2)], fun a j => if a = G.length then ip_dfl (ip_fty 9 j) else F a j, I, J) (b.1 - 1, b.2 - 2) post px) := ip_s_new f102_127 rfl rfl rfl rfl
theorem f102_130 : ip_fetch 102 130 = some (.dup, 1) := by decide +kernel
theorem s102_130 {x0 : Nat} {s0 : Nat} {s1 : Nat} : ip_WP 102 130 [some (.ref x0)] [.ref s1, .ref s0] (G, F, I, J) b post px ↔ ip_WP 102 131 [some (.ref x0)] [.ref s1, .ref s1, .ref s0] (G, F, I, J) b post px := ip_nx_iff ((ip_st_of f102_130).trans rfl)
theorem f102_131 : ip_fetch 102 131 = some (.bipush 24, 2) := by decide +kernel
theorem s102_131 {x0 : Nat} {s0 : Nat} {s1 : Nat} {s2 : Nat} : ip_WP 102 131 [some (.ref x0)] [.ref s2, .ref s1, .ref s0] (G, F, I, J) b post px ↔ ip_WP 102 133 [some (.ref x0)] [.int 24, .ref s2, .ref s1, .ref s0] (G, F, I, J) b post px := ip_s_bipush f102_131 (by decide)
theorem f102_133 : ip_fetch 102 133 = some (.iconst (-1), 1) := by decide +kernel
theorem s102_133 {x0 : Nat} {s0 : Nat} {s1 : Nat} {s2 : Nat} {s3 : Int32} : ip_WP 102 133 [some (.ref x0)] [.int s3, .ref s2, .ref s1, .ref s0] (G, F, I, J) b post px ↔ ip_WP 102 134 [some (.ref x0)] [.int (-1), .int s3, .ref s2, .ref s1, .ref s0] (G, F, I, J) b post px := ip_s_iconst f102_133 (by decide)
theorem f102_134 : ip_fetch 102 134 = some (.invokespecial 31, 3) := by decide +kernel
set_option maxRecDepth 100000 in
theorem s102_134 {x0 : Nat} {s0 : Nat} {s1 : Nat} {s2 : Nat} {s3 : Int32} {s4 : Int32} : ip_WP 102 134 [some (.ref x0)] [.int s4, .int s3, .ref s2, .ref s1, .ref s0] (G, F, I, J) b post px ↔ (ip_wfc G.length [some (.ref x0)] [.ref s1, .ref s0] = true ∧ (ip_bud 189 b = true ∧ ip_WP 189 0 [some (.ref s2), some (.int s3), some (.int s4)] [] (G, F, I, J) (1, 68) (fun r h' => ip_WP 102 137 [some (.ref x0)] (r.toList ++ [.ref s1, .ref s0]) h' (ip_rst 189 b) post px) (fun _ _ => False))) := ip_ck_iff (x := if ip_bud 189 b = true then ip_cl 189 [some (.ref s2), some (.int s3), some (.int s4)] [.ref s1, .ref s0] (1, 68) (ip_rst 189 b) else none) ((ip_st_of f102_134).trans rfl) (fun hs => ip_ck_iff (x := ip_cl 189 [some (.ref s2), some (.int s3), some (.int s4)] [.ref s1, .ref s0] (1, 68) (ip_rst 189 b)) hs (ip_cl_iff))
theorem f102_137 : ip_fetch 102 137 = some (.putfield 50, 3) := by decide +kernel
set_option maxRecDepth 100000 in
theorem s102_137 {x0 : Nat} {s0 : Nat} {s1 : Nat} : ip_WP 102 137 [some (.ref x0)] [.ref s1, .ref s0] (G, F, I, J) b post px ↔ (ip_isO G s0 3 = true ∧ s1 < G.length ∧ ip_WP 102 140 [some (.ref x0)] [] (G, ip_up F s0 9 (.ref s1), I, J) b post px) := ip_s_putR f102_137 (by decide +kernel) rfl
theorem f102_140 : ip_fetch 102 140 = some (.aload_n 0, 1) := by decide +kernel
theorem s102_140 {x0 : Nat} : ip_WP 102 140 [some (.ref x0)] [] (G, F, I, J) b post px ↔ ip_WP 102 141 [some (.ref x0)] [.ref x0] (G, F, I, J) b post px := ip_nx_iff ((ip_st_of f102_140).trans rfl)
theorem f102_141 : ip_fetch 102 141 = some (.new 29, 3) := by decide +kernel
set_option maxRecDepth 100000 in
theorem s102_141 {x0 : Nat} {s0 : Nat} : ip_WP 102 141 [some (.ref x0)] [.ref s0] (G, F, I, J) b post px ↔ (ip_wfc G.length [some (.ref x0)] [.ref s0] = true ∧ (1 ≤ b.1 ∧ 2 ≤ b.2 ∧ G.length < ip_SC) ∧ ip_WP 102 144 [some (.ref x0)] [.ref G.length, .ref s0] (G ++ [.inr (9, 2)], fun a j => if a = G.length then ip_dfl (ip_fty 9 j) else F a j, I, J) (b.1 - 1, b.2 - 2) post px) := ip_s_new f102_141 rfl rfl rfl rfl
theorem f102_144 : ip_fetch 102 144 = some (.dup, 1) := by decide +kernel
theorem s102_144 {x0 : Nat} {s0 : Nat} {s1 : Nat} : ip_WP 102 144 [some (.ref x0)] [.ref s1, .ref s0] (G, F, I, J) b post px ↔ ip_WP 102 145 [some (.ref x0)] [.ref s1, .ref s1, .ref s0] (G, F, I, J) b post px := ip_nx_iff ((ip_st_of f102_144).trans rfl)
theorem f102_145 : ip_fetch 102 145 = some (.bipush 8, 2) := by decide +kernel
theorem s102_145 {x0 : Nat} {s0 : Nat} {s1 : Nat} {s2 : Nat} : ip_WP 102 145 [some (.ref x0)] [.ref s2, .ref s1, .ref s0] (G, F, I, J) b post px ↔ ip_WP 102 147 [some (.ref x0)] [.int 8, .ref s2, .ref s1, .ref s0] (G, F, I, J) b post px := ip_s_bipush f102_145 (by decide)
theorem f102_147 : ip_fetch 102 147 = some (.iconst (-1), 1) := by decide +kernel
theorem s102_147 {x0 : Nat} {s0 : Nat} {s1 : Nat} {s2 : Nat} {s3 : Int32} : ip_WP 102 147 [some (.ref x0)] [.int s3, .ref s2, .ref s1, .ref s0] (G, F, I, J) b post px ↔ ip_WP 102 148 [some (.ref x0)] [.int (-1), .int s3, .ref s2, .ref s1, .ref s0] (G, F, I, J) b post px := ip_s_iconst f102_147 (by decide)
theorem f102_148 : ip_fetch 102 148 = some (.invokespecial 31, 3) := by decide +kernel
set_option maxRecDepth 100000 in
theorem s102_148 {x0 : Nat} {s0 : Nat} {s1 : Nat} {s2 : Nat} {s3 : Int32} {s4 : Int32} : ip_WP 102 148 [some (.ref x0)] [.int s4, .int s3, .ref s2, .ref s1, .ref s0] (G, F, I, J) b post px ↔ (ip_wfc G.length [some (.ref x0)] [.ref s1, .ref s0] = true ∧ (ip_bud 189 b = true ∧ ip_WP 189 0 [some (.ref s2), some (.int s3), some (.int s4)] [] (G, F, I, J) (1, 68) (fun r h' => ip_WP 102 151 [some (.ref x0)] (r.toList ++ [.ref s1, .ref s0]) h' (ip_rst 189 b) post px) (fun _ _ => False))) := ip_ck_iff (x := if ip_bud 189 b = true then ip_cl 189 [some (.ref s2), some (.int s3), some (.int s4)] [.ref s1, .ref s0] (1, 68) (ip_rst 189 b) else none) ((ip_st_of f102_148).trans rfl) (fun hs => ip_ck_iff (x := ip_cl 189 [some (.ref s2), some (.int s3), some (.int s4)] [.ref s1, .ref s0] (1, 68) (ip_rst 189 b)) hs (ip_cl_iff))
theorem f102_151 : ip_fetch 102 151 = some (.putfield 53, 3) := by decide +kernel
set_option maxRecDepth 100000 in
theorem s102_151 {x0 : Nat} {s0 : Nat} {s1 : Nat} : ip_WP 102 151 [some (.ref x0)] [.ref s1, .ref s0] (G, F, I, J) b post px ↔ (ip_isO G s0 3 = true ∧ s1 < G.length ∧ ip_WP 102 154 [some (.ref x0)] [] (G, ip_up F s0 10 (.ref s1), I, J) b post px) := ip_s_putR f102_151 (by decide +kernel) rfl
theorem f102_154 : ip_fetch 102 154 = some (.aload_n 0, 1) := by decide +kernel
theorem s102_154 {x0 : Nat} : ip_WP 102 154 [some (.ref x0)] [] (G, F, I, J) b post px ↔ ip_WP 102 155 [some (.ref x0)] [.ref x0] (G, F, I, J) b post px := ip_nx_iff ((ip_st_of f102_154).trans rfl)
theorem f102_155 : ip_fetch 102 155 = some (.new 29, 3) := by decide +kernel
set_option maxRecDepth 100000 in
theorem s102_155 {x0 : Nat} {s0 : Nat} : ip_WP 102 155 [some (.ref x0)] [.ref s0] (G, F, I, J) b post px ↔ (ip_wfc G.length [some (.ref x0)] [.ref s0] = true ∧ (1 ≤ b.1 ∧ 2 ≤ b.2 ∧ G.length < ip_SC) ∧ ip_WP 102 158 [some (.ref x0)] [.ref G.length, .ref s0] (G ++ [.inr (9, 2)], fun a j => if a = G.length then ip_dfl (ip_fty 9 j) else F a j, I, J) (b.1 - 1, b.2 - 2) post px) := ip_s_new f102_155 rfl rfl rfl rfl
theorem f102_158 : ip_fetch 102 158 = some (.dup, 1) := by decide +kernel
theorem s102_158 {x0 : Nat} {s0 : Nat} {s1 : Nat} : ip_WP 102 158 [some (.ref x0)] [.ref s1, .ref s0] (G, F, I, J) b post px ↔ ip_WP 102 159 [some (.ref x0)] [.ref s1, .ref s1, .ref s0] (G, F, I, J) b post px := ip_nx_iff ((ip_st_of f102_158).trans rfl)
theorem f102_159 : ip_fetch 102 159 = some (.bipush 8, 2) := by decide +kernel
theorem s102_159 {x0 : Nat} {s0 : Nat} {s1 : Nat} {s2 : Nat} : ip_WP 102 159 [some (.ref x0)] [.ref s2, .ref s1, .ref s0] (G, F, I, J) b post px ↔ ip_WP 102 161 [some (.ref x0)] [.int 8, .ref s2, .ref s1, .ref s0] (G, F, I, J) b post px := ip_s_bipush f102_159 (by decide)
theorem f102_161 : ip_fetch 102 161 = some (.iconst (-1), 1) := by decide +kernel
theorem s102_161 {x0 : Nat} {s0 : Nat} {s1 : Nat} {s2 : Nat} {s3 : Int32} : ip_WP 102 161 [some (.ref x0)] [.int s3, .ref s2, .ref s1, .ref s0] (G, F, I, J) b post px ↔ ip_WP 102 162 [some (.ref x0)] [.int (-1), .int s3, .ref s2, .ref s1, .ref s0] (G, F, I, J) b post px := ip_s_iconst f102_161 (by decide)
theorem f102_162 : ip_fetch 102 162 = some (.invokespecial 31, 3) := by decide +kernel
set_option maxRecDepth 100000 in
theorem s102_162 {x0 : Nat} {s0 : Nat} {s1 : Nat} {s2 : Nat} {s3 : Int32} {s4 : Int32} : ip_WP 102 162 [some (.ref x0)] [.int s4, .int s3, .ref s2, .ref s1, .ref s0] (G, F, I, J) b post px ↔ (ip_wfc G.length [some (.ref x0)] [.ref s1, .ref s0] = true ∧ (ip_bud 189 b = true ∧ ip_WP 189 0 [some (.ref s2), some (.int s3), some (.int s4)] [] (G, F, I, J) (1, 68) (fun r h' => ip_WP 102 165 [some (.ref x0)] (r.toList ++ [.ref s1, .ref s0]) h' (ip_rst 189 b) post px) (fun _ _ => False))) := ip_ck_iff (x := if ip_bud 189 b = true then ip_cl 189 [some (.ref s2), some (.int s3), some (.int s4)] [.ref s1, .ref s0] (1, 68) (ip_rst 189 b) else none) ((ip_st_of f102_162).trans rfl) (fun hs => ip_ck_iff (x := ip_cl 189 [some (.ref s2), some (.int s3), some (.int s4)] [.ref s1, .ref s0] (1, 68) (ip_rst 189 b)) hs (ip_cl_iff))
theorem f102_165 : ip_fetch 102 165 = some (.putfield 56, 3) := by decide +kernel
set_option maxRecDepth 100000 in
theorem s102_165 {x0 : Nat} {s0 : Nat} {s1 : Nat} : ip_WP 102 165 [some (.ref x0)] [.ref s1, .ref s0] (G, F, I, J) b post px ↔ (ip_isO G s0 3 = true ∧ s1 < G.length ∧ ip_WP 102 168 [some (.ref x0)] [] (G, ip_up F s0 11 (.ref s1), I, J) b post px) := ip_s_putR f102_165 (by decide +kernel) rfl
theorem f102_168 : ip_fetch 102 168 = some (.aload_n 0, 1) := by decide +kernel
theorem s102_168 {x0 : Nat} : ip_WP 102 168 [some (.ref x0)] [] (G, F, I, J) b post px ↔ ip_WP 102 169 [some (.ref x0)] [.ref x0] (G, F, I, J) b post px := ip_nx_iff ((ip_st_of f102_168).trans rfl)
theorem f102_169 : ip_fetch 102 169 = some (.new 29, 3) := by decide +kernel
set_option maxRecDepth 100000 in
theorem s102_169 {x0 : Nat} {s0 : Nat} : ip_WP 102 169 [some (.ref x0)] [.ref s0] (G, F, I, J) b post px ↔ (ip_wfc G.length [some (.ref x0)] [.ref s0] = true ∧ (1 ≤ b.1 ∧ 2 ≤ b.2 ∧ G.length < ip_SC) ∧ ip_WP 102 172 [some (.ref x0)] [.ref G.length, .ref s0] (G ++ [.inr (9, 2)], fun a j => if a = G.length then ip_dfl (ip_fty 9 j) else F a j, I, J) (b.1 - 1, b.2 - 2) post px) := ip_s_new f102_169 rfl rfl rfl rfl
theorem f102_172 : ip_fetch 102 172 = some (.dup, 1) := by decide +kernel
theorem s102_172 {x0 : Nat} {s0 : Nat} {s1 : Nat} : ip_WP 102 172 [some (.ref x0)] [.ref s1, .ref s0] (G, F, I, J) b post px ↔ ip_WP 102 173 [some (.ref x0)] [.ref s1, .ref s1, .ref s0] (G, F, I, J) b post px := ip_nx_iff ((ip_st_of f102_172).trans rfl)
theorem f102_173 : ip_fetch 102 173 = some (.bipush 8, 2) := by decide +kernel
theorem s102_173 {x0 : Nat} {s0 : Nat} {s1 : Nat} {s2 : Nat} : ip_WP 102 173 [some (.ref x0)] [.ref s2, .ref s1, .ref s0] (G, F, I, J) b post px ↔ ip_WP 102 175 [some (.ref x0)] [.int 8, .ref s2, .ref s1, .ref s0] (G, F, I, J) b post px := ip_s_bipush f102_173 (by decide)
theorem f102_175 : ip_fetch 102 175 = some (.iconst 0, 1) := by decide +kernel
theorem s102_175 {x0 : Nat} {s0 : Nat} {s1 : Nat} {s2 : Nat} {s3 : Int32} : ip_WP 102 175 [some (.ref x0)] [.int s3, .ref s2, .ref s1, .ref s0] (G, F, I, J) b post px ↔ ip_WP 102 176 [some (.ref x0)] [.int 0, .int s3, .ref s2, .ref s1, .ref s0] (G, F, I, J) b post px := ip_s_iconst f102_175 (by decide)
theorem f102_176 : ip_fetch 102 176 = some (.invokespecial 31, 3) := by decide +kernel
set_option maxRecDepth 100000 in
theorem s102_176 {x0 : Nat} {s0 : Nat} {s1 : Nat} {s2 : Nat} {s3 : Int32} {s4 : Int32} : ip_WP 102 176 [some (.ref x0)] [.int s4, .int s3, .ref s2, .ref s1, .ref s0] (G, F, I, J) b post px ↔ (ip_wfc G.length [some (.ref x0)] [.ref s1, .ref s0] = true ∧ (ip_bud 189 b = true ∧ ip_WP 189 0 [some (.ref s2), some (.int s3), some (.int s4)] [] (G, F, I, J) (1, 68) (fun r h' => ip_WP 102 179 [some (.ref x0)] (r.toList ++ [.ref s1, .ref s0]) h' (ip_rst 189 b) post px) (fun _ _ => False))) := ip_ck_iff (x := if ip_bud 189 b = true then ip_cl 189 [some (.ref s2), some (.int s3), some (.int s4)] [.ref s1, .ref s0] (1, 68) (ip_rst 189 b) else none) ((ip_st_of f102_176).trans rfl) (fun hs => ip_ck_iff (x := ip_cl 189 [some (.ref s2), some (.int s3), some (.int s4)] [.ref s1, .ref s0] (1, 68) (ip_rst 189 b)) hs (ip_cl_iff))
theorem f102_179 : ip_fetch 102 179 = some (.putfield 59, 3) := by decide +kernel
set_option maxRecDepth 100000 in
theorem s102_179 {x0 : Nat} {s0 : Nat} {s1 : Nat} : ip_WP 102 179 [some (.ref x0)] [.ref s1, .ref s0] (G, F, I, J) b post px ↔ (ip_isO G s0 3 = true ∧ s1 < G.length ∧ ip_WP 102 182 [some (.ref x0)] [] (G, ip_up F s0 12 (.ref s1), I, J) b post px) := ip_s_putR f102_179 (by decide +kernel) rfl
theorem f102_182 : ip_fetch 102 182 = some (.aload_n 0, 1) := by decide +kernel
theorem s102_182 {x0 : Nat} : ip_WP 102 182 [some (.ref x0)] [] (G, F, I, J) b post px ↔ ip_WP 102 183 [some (.ref x0)] [.ref x0] (G, F, I, J) b post px := ip_nx_iff ((ip_st_of f102_182).trans rfl)
theorem f102_183 : ip_fetch 102 183 = some (.iconst 0, 1) := by decide +kernel
theorem s102_183 {x0 : Nat} {s0 : Nat} : ip_WP 102 183 [some (.ref x0)] [.ref s0] (G, F, I, J) b post px ↔ ip_WP 102 184 [some (.ref x0)] [.int 0, .ref s0] (G, F, I, J) b post px := ip_s_iconst f102_183 (by decide)
theorem f102_184 : ip_fetch 102 184 = some (.putfield 62, 3) := by decide +kernel
set_option maxRecDepth 100000 in
theorem s102_184 {x0 : Nat} {s0 : Nat} {s1 : Int32} : ip_WP 102 184 [some (.ref x0)] [.int s1, .ref s0] (G, F, I, J) b post px ↔ (ip_isO G s0 3 = true ∧ ip_WP 102 187 [some (.ref x0)] [] (G, ip_up F s0 13 (.int s1), I, J) b post px) := ip_s_put f102_184 (by decide +kernel) rfl
theorem f102_187 : ip_fetch 102 187 = some (.aload_n 0, 1) := by decide +kernel
theorem s102_187 {x0 : Nat} : ip_WP 102 187 [some (.ref x0)] [] (G, F, I, J) b post px ↔ ip_WP 102 188 [some (.ref x0)] [.ref x0] (G, F, I, J) b post px := ip_nx_iff ((ip_st_of f102_187).trans rfl)
theorem f102_188 : ip_fetch 102 188 = some (.iconst 0, 1) := by decide +kernel
theorem s102_188 {x0 : Nat} {s0 : Nat} : ip_WP 102 188 [some (.ref x0)] [.ref s0] (G, F, I, J) b post px ↔ ip_WP 102 189 [some (.ref x0)] [.int 0, .ref s0] (G, F, I, J) b post px := ip_s_iconst f102_188 (by decide)
theorem f102_189 : ip_fetch 102 189 = some (.putfield 66, 3) := by decide +kernel
set_option maxRecDepth 100000 in
theorem s102_189 {x0 : Nat} {s0 : Nat} {s1 : Int32} : ip_WP 102 189 [some (.ref x0)] [.int s1, .ref s0] (G, F, I, J) b post px ↔ (ip_isO G s0 3 = true ∧ ip_WP 102 192 [some (.ref x0)] [] (G, ip_up F s0 14 (.int s1), I, J) b post px) := ip_s_put f102_189 (by decide +kernel) rfl
theorem f102_192 : ip_fetch 102 192 = some (.return_, 1) := by decide +kernel
theorem s102_192 {x0 : Nat} : ip_WP 102 192 [some (.ref x0)] [] (G, F, I, J) b post px ↔ post none (G, F, I, J) := ip_rt_iff ((ip_st_of f102_192).trans rfl)
theorem f103_0 : ip_fetch 103 0 = some (.aload_n 0, 1) := by decide +kernel
theorem s103_0 {x0 : Nat} : ip_WP 103 0 [some (.ref x0)] [] (G, F, I, J) b post px ↔ ip_WP 103 1 [some (.ref x0)] [.ref x0] (G, F, I, J) b post px := ip_nx_iff ((ip_st_of f103_0).trans rfl)
theorem f103_1 : ip_fetch 103 1 = some (.getfield 16, 3) := by decide +kernel
set_option maxRecDepth 100000 in
theorem s103_1 {x0 : Nat} {s0 : Nat} : ip_WP 103 1 [some (.ref x0)] [.ref s0] (G, F, I, J) b post px ↔ (ip_isO G s0 3 = true ∧ ip_WP 103 4 [some (.ref x0)] [F s0 0] (G, F, I, J) b post px) := ip_s_getf f103_1 (by decide +kernel)
theorem f103_4 : ip_fetch 103 4 = some (.invokevirtual 69, 3) := by decide +kernel
set_option maxRecDepth 100000 in
theorem s103_4 {x0 : Nat} {s0 : Nat} : ip_WP 103 4 [some (.ref x0)] [.ref s0] (G, F, I, J) b post px ↔ (ip_isO G s0 6 = true ∧ ip_WP 145 0 [some (.ref s0)] [] (G, F, I, J) (0, 0) (fun r h' => ip_WP 103 7 [some (.ref x0)] (r.toList ++ []) h' b post px) (fun _ _ => False)) := ip_ck_iff (x := ip_cl 145 [some (.ref s0)] [] (0, 0) b) ((ip_st_of f103_4).trans rfl) (ip_cl_iff)
theorem f103_7 : ip_fetch 103 7 = some (.aload_n 0, 1) := by decide +kernel
theorem s103_7 {x0 : Nat} : ip_WP 103 7 [some (.ref x0)] [] (G, F, I, J) b post px ↔ ip_WP 103 8 [some (.ref x0)] [.ref x0] (G, F, I, J) b post px := ip_nx_iff ((ip_st_of f103_7).trans rfl)
theorem f103_8 : ip_fetch 103 8 = some (.getfield 20, 3) := by decide +kernel
set_option maxRecDepth 100000 in
theorem s103_8 {x0 : Nat} {s0 : Nat} : ip_WP 103 8 [some (.ref x0)] [.ref s0] (G, F, I, J) b post px ↔ (ip_isO G s0 3 = true ∧ ip_WP 103 11 [some (.ref x0)] [F s0 1] (G, F, I, J) b post px) := ip_s_getf f103_8 (by decide +kernel)
theorem f103_11 : ip_fetch 103 11 = some (.invokevirtual 69, 3) := by decide +kernel
set_option maxRecDepth 100000 in
theorem s103_11 {x0 : Nat} {s0 : Nat} : ip_WP 103 11 [some (.ref x0)] [.ref s0] (G, F, I, J) b post px ↔ (ip_isO G s0 6 = true ∧ ip_WP 145 0 [some (.ref s0)] [] (G, F, I, J) (0, 0) (fun r h' => ip_WP 103 14 [some (.ref x0)] (r.toList ++ []) h' b post px) (fun _ _ => False)) := ip_ck_iff (x := ip_cl 145 [some (.ref s0)] [] (0, 0) b) ((ip_st_of f103_11).trans rfl) (ip_cl_iff)
theorem f103_14 : ip_fetch 103 14 = some (.aload_n 0, 1) := by decide +kernel
theorem s103_14 {x0 : Nat} : ip_WP 103 14 [some (.ref x0)] [] (G, F, I, J) b post px ↔ ip_WP 103 15 [some (.ref x0)] [.ref x0] (G, F, I, J) b post px := ip_nx_iff ((ip_st_of f103_14).trans rfl)
theorem f103_15 : ip_fetch 103 15 = some (.getfield 23, 3) := by decide +kernel
set_option maxRecDepth 100000 in
theorem s103_15 {x0 : Nat} {s0 : Nat} : ip_WP 103 15 [some (.ref x0)] [.ref s0] (G, F, I, J) b post px ↔ (ip_isO G s0 3 = true ∧ ip_WP 103 18 [some (.ref x0)] [F s0 2] (G, F, I, J) b post px) := ip_s_getf f103_15 (by decide +kernel)
theorem f103_18 : ip_fetch 103 18 = some (.invokevirtual 69, 3) := by decide +kernel
set_option maxRecDepth 100000 in
theorem s103_18 {x0 : Nat} {s0 : Nat} : ip_WP 103 18 [some (.ref x0)] [.ref s0] (G, F, I, J) b post px ↔ (ip_isO G s0 6 = true ∧ ip_WP 145 0 [some (.ref s0)] [] (G, F, I, J) (0, 0) (fun r h' => ip_WP 103 21 [some (.ref x0)] (r.toList ++ []) h' b post px) (fun _ _ => False)) := ip_ck_iff (x := ip_cl 145 [some (.ref s0)] [] (0, 0) b) ((ip_st_of f103_18).trans rfl) (ip_cl_iff)
theorem f103_21 : ip_fetch 103 21 = some (.aload_n 0, 1) := by decide +kernel
theorem s103_21 {x0 : Nat} : ip_WP 103 21 [some (.ref x0)] [] (G, F, I, J) b post px ↔ ip_WP 103 22 [some (.ref x0)] [.ref x0] (G, F, I, J) b post px := ip_nx_iff ((ip_st_of f103_21).trans rfl)
theorem f103_22 : ip_fetch 103 22 = some (.getfield 26, 3) := by decide +kernel
set_option maxRecDepth 100000 in
theorem s103_22 {x0 : Nat} {s0 : Nat} : ip_WP 103 22 [some (.ref x0)] [.ref s0] (G, F, I, J) b post px ↔ (ip_isO G s0 3 = true ∧ ip_WP 103 25 [some (.ref x0)] [F s0 3] (G, F, I, J) b post px) := ip_s_getf f103_22 (by decide +kernel)
theorem f103_25 : ip_fetch 103 25 = some (.invokevirtual 69, 3) := by decide +kernel
set_option maxRecDepth 100000 in
theorem s103_25 {x0 : Nat} {s0 : Nat} : ip_WP 103 25 [some (.ref x0)] [.ref s0] (G, F, I, J) b post px ↔ (ip_isO G s0 6 = true ∧ ip_WP 145 0 [some (.ref s0)] [] (G, F, I, J) (0, 0) (fun r h' => ip_WP 103 28 [some (.ref x0)] (r.toList ++ []) h' b post px) (fun _ _ => False)) := ip_ck_iff (x := ip_cl 145 [some (.ref s0)] [] (0, 0) b) ((ip_st_of f103_25).trans rfl) (ip_cl_iff)
theorem f103_28 : ip_fetch 103 28 = some (.aload_n 0, 1) := by decide +kernel
theorem s103_28 {x0 : Nat} : ip_WP 103 28 [some (.ref x0)] [] (G, F, I, J) b post px ↔ ip_WP 103 29 [some (.ref x0)] [.ref x0] (G, F, I, J) b post px := ip_nx_iff ((ip_st_of f103_28).trans rfl)
theorem f103_29 : ip_fetch 103 29 = some (.getfield 34, 3) := by decide +kernel
set_option maxRecDepth 100000 in
theorem s103_29 {x0 : Nat} {s0 : Nat} : ip_WP 103 29 [some (.ref x0)] [.ref s0] (G, F, I, J) b post px ↔ (ip_isO G s0 3 = true ∧ ip_WP 103 32 [some (.ref x0)] [F s0 4] (G, F, I, J) b post px) := ip_s_getf f103_29 (by decide +kernel)
theorem f103_32 : ip_fetch 103 32 = some (.invokevirtual 72, 3) := by decide +kernel
set_option maxRecDepth 100000 in
theorem s103_32 {x0 : Nat} {s0 : Nat} : ip_WP 103 32 [some (.ref x0)] [.ref s0] (G, F, I, J) b post px ↔ (ip_isO G s0 9 = true ∧ ip_WP 190 0 [some (.ref s0), none] [] (G, F, I, J) (0, 0) (fun r h' => ip_WP 103 35 [some (.ref x0)] (r.toList ++ []) h' b post px) (fun _ _ => False)) := ip_ck_iff (x := ip_cl 190 [some (.ref s0), none] [] (0, 0) b) ((ip_st_of f103_32).trans rfl) (ip_cl_iff)
theorem f103_35 : ip_fetch 103 35 = some (.aload_n 0, 1) := by decide +kernel
theorem s103_35 {x0 : Nat} : ip_WP 103 35 [some (.ref x0)] [] (G, F, I, J) b post px ↔ ip_WP 103 36 [some (.ref x0)] [.ref x0] (G, F, I, J) b post px := ip_nx_iff ((ip_st_of f103_35).trans rfl)
theorem f103_36 : ip_fetch 103 36 = some (.getfield 38, 3) := by decide +kernel
set_option maxRecDepth 100000 in
theorem s103_36 {x0 : Nat} {s0 : Nat} : ip_WP 103 36 [some (.ref x0)] [.ref s0] (G, F, I, J) b post px ↔ (ip_isO G s0 3 = true ∧ ip_WP 103 39 [some (.ref x0)] [F s0 5] (G, F, I, J) b post px) := ip_s_getf f103_36 (by decide +kernel)
theorem f103_39 : ip_fetch 103 39 = some (.invokevirtual 72, 3) := by decide +kernel
set_option maxRecDepth 100000 in
theorem s103_39 {x0 : Nat} {s0 : Nat} : ip_WP 103 39 [some (.ref x0)] [.ref s0] (G, F, I, J) b post px ↔ (ip_isO G s0 9 = true ∧ ip_WP 190 0 [some (.ref s0), none] [] (G, F, I, J) (0, 0) (fun r h' => ip_WP 103 42 [some (.ref x0)] (r.toList ++ []) h' b post px) (fun _ _ => False)) := ip_ck_iff (x := ip_cl 190 [some (.ref s0), none] [] (0, 0) b) ((ip_st_of f103_39).trans rfl) (ip_cl_iff)
theorem f103_42 : ip_fetch 103 42 = some (.aload_n 0, 1) := by decide +kernel
theorem s103_42 {x0 : Nat} : ip_WP 103 42 [some (.ref x0)] [] (G, F, I, J) b post px ↔ ip_WP 103 43 [some (.ref x0)] [.ref x0] (G, F, I, J) b post px := ip_nx_iff ((ip_st_of f103_42).trans rfl)
theorem f103_43 : ip_fetch 103 43 = some (.getfield 41, 3) := by decide +kernel
set_option maxRecDepth 100000 in
theorem s103_43 {x0 : Nat} {s0 : Nat} : ip_WP 103 43 [some (.ref x0)] [.ref s0] (G, F, I, J) b post px ↔ (ip_isO G s0 3 = true ∧ ip_WP 103 46 [some (.ref x0)] [F s0 6] (G, F, I, J) b post px) := ip_s_getf f103_43 (by decide +kernel)
theorem f103_46 : ip_fetch 103 46 = some (.invokevirtual 72, 3) := by decide +kernel
set_option maxRecDepth 100000 in
theorem s103_46 {x0 : Nat} {s0 : Nat} : ip_WP 103 46 [some (.ref x0)] [.ref s0] (G, F, I, J) b post px ↔ (ip_isO G s0 9 = true ∧ ip_WP 190 0 [some (.ref s0), none] [] (G, F, I, J) (0, 0) (fun r h' => ip_WP 103 49 [some (.ref x0)] (r.toList ++ []) h' b post px) (fun _ _ => False)) := ip_ck_iff (x := ip_cl 190 [some (.ref s0), none] [] (0, 0) b) ((ip_st_of f103_46).trans rfl) (ip_cl_iff)
theorem f103_49 : ip_fetch 103 49 = some (.aload_n 0, 1) := by decide +kernel
theorem s103_49 {x0 : Nat} : ip_WP 103 49 [some (.ref x0)] [] (G, F, I, J) b post px ↔ ip_WP 103 50 [some (.ref x0)] [.ref x0] (G, F, I, J) b post px := ip_nx_iff ((ip_st_of f103_49).trans rfl)
theorem f103_50 : ip_fetch 103 50 = some (.getfield 44, 3) := by decide +kernel
set_option maxRecDepth 100000 in
theorem s103_50 {x0 : Nat} {s0 : Nat} : ip_WP 103 50 [some (.ref x0)] [.ref s0] (G, F, I, J) b post px ↔ (ip_isO G s0 3 = true ∧ ip_WP 103 53 [some (.ref x0)] [F s0 7] (G, F, I, J) b post px) := ip_s_getf f103_50 (by decide +kernel)
theorem f103_53 : ip_fetch 103 53 = some (.invokevirtual 72, 3) := by decide +kernel
set_option maxRecDepth 100000 in
theorem s103_53 {x0 : Nat} {s0 : Nat} : ip_WP 103 53 [some (.ref x0)] [.ref s0] (G, F, I, J) b post px ↔ (ip_isO G s0 9 = true ∧ ip_WP 190 0 [some (.ref s0), none] [] (G, F, I, J) (0, 0) (fun r h' => ip_WP 103 56 [some (.ref x0)] (r.toList ++ []) h' b post px) (fun _ _ => False)) := ip_ck_iff (x := ip_cl 190 [some (.ref s0), none] [] (0, 0) b) ((ip_st_of f103_53).trans rfl) (ip_cl_iff)
theorem f103_56 : ip_fetch 103 56 = some (.aload_n 0, 1) := by decide +kernel
theorem s103_56 {x0 : Nat} : ip_WP 103 56 [some (.ref x0)] [] (G, F, I, J) b post px ↔ ip_WP 103 57 [some (.ref x0)] [.ref x0] (G, F, I, J) b post px := ip_nx_iff ((ip_st_of f103_56).trans rfl)
theorem f103_57 : ip_fetch 103 57 = some (.getfield 47, 3) := by decide +kernel
set_option maxRecDepth 100000 in
theorem s103_57 {x0 : Nat} {s0 : Nat} : ip_WP 103 57 [some (.ref x0)] [.ref s0] (G, F, I, J) b post px ↔ (ip_isO G s0 3 = true ∧ ip_WP 103 60 [some (.ref x0)] [F s0 8] (G, F, I, J) b post px) := ip_s_getf f103_57 (by decide +kernel)
theorem f103_60 : ip_fetch 103 60 = some (.invokevirtual 72, 3) := by decide +kernel
set_option maxRecDepth 100000 in
theorem s103_60 {x0 : Nat} {s0 : Nat} : ip_WP 103 60 [some (.ref x0)] [.ref s0] (G, F, I, J) b post px ↔ (ip_isO G s0 9 = true ∧ ip_WP 190 0 [some (.ref s0), none] [] (G, F, I, J) (0, 0) (fun r h' => ip_WP 103 63 [some (.ref x0)] (r.toList ++ []) h' b post px) (fun _ _ => False)) := ip_ck_iff (x := ip_cl 190 [some (.ref s0), none] [] (0, 0) b) ((ip_st_of f103_60).trans rfl) (ip_cl_iff)
theorem f103_63 : ip_fetch 103 63 = some (.aload_n 0, 1) := by decide +kernel
theorem s103_63 {x0 : Nat} : ip_WP 103 63 [some (.ref x0)] [] (G, F, I, J) b post px ↔ ip_WP 103 64 [some (.ref x0)] [.ref x0] (G, F, I, J) b post px := ip_nx_iff ((ip_st_of f103_63).trans rfl)
theorem f103_64 : ip_fetch 103 64 = some (.getfield 50, 3) := by decide +kernel
set_option maxRecDepth 100000 in
theorem s103_64 {x0 : Nat} {s0 : Nat} : ip_WP 103 64 [some (.ref x0)] [.ref s0] (G, F, I, J) b post px ↔ (ip_isO G s0 3 = true ∧ ip_WP 103 67 [some (.ref x0)] [F s0 9] (G, F, I, J) b post px) := ip_s_getf f103_64 (by decide +kernel)
theorem f103_67 : ip_fetch 103 67 = some (.invokevirtual 72, 3) := by decide +kernel
set_option maxRecDepth 100000 in
theorem s103_67 {x0 : Nat} {s0 : Nat} : ip_WP 103 67 [some (.ref x0)] [.ref s0] (G, F, I, J) b post px ↔ (ip_isO G s0 9 = true ∧ ip_WP 190 0 [some (.ref s0), none] [] (G, F, I, J) (0, 0) (fun r h' => ip_WP 103 70 [some (.ref x0)] (r.toList ++ []) h' b post px) (fun _ _ => False)) := ip_ck_iff (x := ip_cl 190 [some (.ref s0), none] [] (0, 0) b) ((ip_st_of f103_67).trans rfl) (ip_cl_iff)
theorem f103_70 : ip_fetch 103 70 = some (.aload_n 0, 1) := by decide +kernel
theorem s103_70 {x0 : Nat} : ip_WP 103 70 [some (.ref x0)] [] (G, F, I, J) b post px ↔ ip_WP 103 71 [some (.ref x0)] [.ref x0] (G, F, I, J) b post px := ip_nx_iff ((ip_st_of f103_70).trans rfl)
theorem f103_71 : ip_fetch 103 71 = some (.getfield 53, 3) := by decide +kernel
set_option maxRecDepth 100000 in
theorem s103_71 {x0 : Nat} {s0 : Nat} : ip_WP 103 71 [some (.ref x0)] [.ref s0] (G, F, I, J) b post px ↔ (ip_isO G s0 3 = true ∧ ip_WP 103 74 [some (.ref x0)] [F s0 10] (G, F, I, J) b post px) := ip_s_getf f103_71 (by decide +kernel)
theorem f103_74 : ip_fetch 103 74 = some (.invokevirtual 72, 3) := by decide +kernel
set_option maxRecDepth 100000 in
theorem s103_74 {x0 : Nat} {s0 : Nat} : ip_WP 103 74 [some (.ref x0)] [.ref s0] (G, F, I, J) b post px ↔ (ip_isO G s0 9 = true ∧ ip_WP 190 0 [some (.ref s0), none] [] (G, F, I, J) (0, 0) (fun r h' => ip_WP 103 77 [some (.ref x0)] (r.toList ++ []) h' b post px) (fun _ _ => False)) := ip_ck_iff (x := ip_cl 190 [some (.ref s0), none] [] (0, 0) b) ((ip_st_of f103_74).trans rfl) (ip_cl_iff)
theorem f103_77 : ip_fetch 103 77 = some (.aload_n 0, 1) := by decide +kernel
theorem s103_77 {x0 : Nat} : ip_WP 103 77 [some (.ref x0)] [] (G, F, I, J) b post px ↔ ip_WP 103 78 [some (.ref x0)] [.ref x0] (G, F, I, J) b post px := ip_nx_iff ((ip_st_of f103_77).trans rfl)
theorem f103_78 : ip_fetch 103 78 = some (.getfield 56, 3) := by decide +kernel
set_option maxRecDepth 100000 in
theorem s103_78 {x0 : Nat} {s0 : Nat} : ip_WP 103 78 [some (.ref x0)] [.ref s0] (G, F, I, J) b post px ↔ (ip_isO G s0 3 = true ∧ ip_WP 103 81 [some (.ref x0)] [F s0 11] (G, F, I, J) b post px) := ip_s_getf f103_78 (by decide +kernel)
theorem f103_81 : ip_fetch 103 81 = some (.invokevirtual 72, 3) := by decide +kernel
set_option maxRecDepth 100000 in
theorem s103_81 {x0 : Nat} {s0 : Nat} : ip_WP 103 81 [some (.ref x0)] [.ref s0] (G, F, I, J) b post px ↔ (ip_isO G s0 9 = true ∧ ip_WP 190 0 [some (.ref s0), none] [] (G, F, I, J) (0, 0) (fun r h' => ip_WP 103 84 [some (.ref x0)] (r.toList ++ []) h' b post px) (fun _ _ => False)) := ip_ck_iff (x := ip_cl 190 [some (.ref s0), none] [] (0, 0) b) ((ip_st_of f103_81).trans rfl) (ip_cl_iff)
theorem f103_84 : ip_fetch 103 84 = some (.aload_n 0, 1) := by decide +kernel
theorem s103_84 {x0 : Nat} : ip_WP 103 84 [some (.ref x0)] [] (G, F, I, J) b post px ↔ ip_WP 103 85 [some (.ref x0)] [.ref x0] (G, F, I, J) b post px := ip_nx_iff ((ip_st_of f103_84).trans rfl)
theorem f103_85 : ip_fetch 103 85 = some (.getfield 59, 3) := by decide +kernel
set_option maxRecDepth 100000 in
theorem s103_85 {x0 : Nat} {s0 : Nat} : ip_WP 103 85 [some (.ref x0)] [.ref s0] (G, F, I, J) b post px ↔ (ip_isO G s0 3 = true ∧ ip_WP 103 88 [some (.ref x0)] [F s0 12] (G, F, I, J) b post px) := ip_s_getf f103_85 (by decide +kernel)
theorem f103_88 : ip_fetch 103 88 = some (.invokevirtual 72, 3) := by decide +kernel
set_option maxRecDepth 100000 in
theorem s103_88 {x0 : Nat} {s0 : Nat} : ip_WP 103 88 [some (.ref x0)] [.ref s0] (G, F, I, J) b post px ↔ (ip_isO G s0 9 = true ∧ ip_WP 190 0 [some (.ref s0), none] [] (G, F, I, J) (0, 0) (fun r h' => ip_WP 103 91 [some (.ref x0)] (r.toList ++ []) h' b post px) (fun _ _ => False)) := ip_ck_iff (x := ip_cl 190 [some (.ref s0), none] [] (0, 0) b) ((ip_st_of f103_88).trans rfl) (ip_cl_iff)
theorem f103_91 : ip_fetch 103 91 = some (.aload_n 0, 1) := by decide +kernel
theorem s103_91 {x0 : Nat} : ip_WP 103 91 [some (.ref x0)] [] (G, F, I, J) b post px ↔ ip_WP 103 92 [some (.ref x0)] [.ref x0] (G, F, I, J) b post px := ip_nx_iff ((ip_st_of f103_91).trans rfl)
theorem f103_92 : ip_fetch 103 92 = some (.iconst 0, 1) := by decide +kernel
theorem s103_92 {x0 : Nat} {s0 : Nat} : ip_WP 103 92 [some (.ref x0)] [.ref s0] (G, F, I, J) b post px ↔ ip_WP 103 93 [some (.ref x0)] [.int 0, .ref s0] (G, F, I, J) b post px := ip_s_iconst f103_92 (by decide)
theorem f103_93 : ip_fetch 103 93 = some (.putfield 62, 3) := by decide +kernel
set_option maxRecDepth 100000 in
theorem s103_93 {x0 : Nat} {s0 : Nat} {s1 : Int32} : ip_WP 103 93 [some (.ref x0)] [.int s1, .ref s0] (G, F, I, J) b post px ↔ (ip_isO G s0 3 = true ∧ ip_WP 103 96 [some (.ref x0)] [] (G, ip_up F s0 13 (.int s1), I, J) b post px) := ip_s_put f103_93 (by decide +kernel) rfl
theorem f103_96 : ip_fetch 103 96 = some (.aload_n 0, 1) := by decide +kernel
theorem s103_96 {x0 : Nat} : ip_WP 103 96 [some (.ref x0)] [] (G, F, I, J) b post px ↔ ip_WP 103 97 [some (.ref x0)] [.ref x0] (G, F, I, J) b post px := ip_nx_iff ((ip_st_of f103_96).trans rfl)
theorem f103_97 : ip_fetch 103 97 = some (.iconst 0, 1) := by decide +kernel
theorem s103_97 {x0 : Nat} {s0 : Nat} : ip_WP 103 97 [some (.ref x0)] [.ref s0] (G, F, I, J) b post px ↔ ip_WP 103 98 [some (.ref x0)] [.int 0, .ref s0] (G, F, I, J) b post px := ip_s_iconst f103_97 (by decide)
theorem f103_98 : ip_fetch 103 98 = some (.putfield 66, 3) := by decide +kernel
set_option maxRecDepth 100000 in
theorem s103_98 {x0 : Nat} {s0 : Nat} {s1 : Int32} : ip_WP 103 98 [some (.ref x0)] [.int s1, .ref s0] (G, F, I, J) b post px ↔ (ip_isO G s0 3 = true ∧ ip_WP 103 101 [some (.ref x0)] [] (G, ip_up F s0 14 (.int s1), I, J) b post px) := ip_s_put f103_98 (by decide +kernel) rfl
theorem f103_101 : ip_fetch 103 101 = some (.return_, 1) := by decide +kernel
theorem s103_101 {x0 : Nat} : ip_WP 103 101 [some (.ref x0)] [] (G, F, I, J) b post px ↔ post none (G, F, I, J) := ip_rt_iff ((ip_st_of f103_101).trans rfl)
theorem f104_0 : ip_fetch 104 0 = some (.aload_n 0, 1) := by decide +kernel
theorem s104_0 {x0 : Nat} : ip_WP 104 0 [some (.ref x0)] [] (G, F, I, J) b post px ↔ ip_WP 104 1 [some (.ref x0)] [.ref x0] (G, F, I, J) b post px := ip_nx_iff ((ip_st_of f104_0).trans rfl)
theorem f104_1 : ip_fetch 104 1 = some (.getfield 66, 3) := by decide +kernel
set_option maxRecDepth 100000 in
theorem s104_1 {x0 : Nat} {s0 : Nat} : ip_WP 104 1 [some (.ref x0)] [.ref s0] (G, F, I, J) b post px ↔ (ip_isO G s0 3 = true ∧ ip_WP 104 4 [some (.ref x0)] [F s0 14] (G, F, I, J) b post px) := ip_s_getf f104_1 (by decide +kernel)
theorem f104_4 : ip_fetch 104 4 = some (.ireturn, 1) := by decide +kernel
theorem s104_4 {x0 : Nat} {s0 : Int32} : ip_WP 104 4 [some (.ref x0)] [.int s0] (G, F, I, J) b post px ↔ post (some (.int s0)) (G, F, I, J) := ip_rt_iff ((ip_st_of f104_4).trans rfl)
theorem f105_0 : ip_fetch 105 0 = some (.aload_n 0, 1) := by decide +kernel
theorem s105_0 {x0 : Nat} : ip_WP 105 0 [some (.ref x0)] [] (G, F, I, J) b post px ↔ ip_WP 105 1 [some (.ref x0)] [.ref x0] (G, F, I, J) b post px := ip_nx_iff ((ip_st_of f105_0).trans rfl)
theorem f105_1 : ip_fetch 105 1 = some (.dup, 1) := by decide +kernel
theorem s105_1 {x0 : Nat} {s0 : Nat} : ip_WP 105 1 [some (.ref x0)] [.ref s0] (G, F, I, J) b post px ↔ ip_WP 105 2 [some (.ref x0)] [.ref s0, .ref s0] (G, F, I, J) b post px := ip_nx_iff ((ip_st_of f105_1).trans rfl)
theorem f105_2 : ip_fetch 105 2 = some (.getfield 66, 3) := by decide +kernel
set_option maxRecDepth 100000 in
theorem s105_2 {x0 : Nat} {s0 : Nat} {s1 : Nat} : ip_WP 105 2 [some (.ref x0)] [.ref s1, .ref s0] (G, F, I, J) b post px ↔ (ip_isO G s1 3 = true ∧ ip_WP 105 5 [some (.ref x0)] [F s1 14, .ref s0] (G, F, I, J) b post px) := ip_s_getf f105_2 (by decide +kernel)
theorem f105_5 : ip_fetch 105 5 = some (.iconst 1, 1) := by decide +kernel
theorem s105_5 {x0 : Nat} {s0 : Nat} {s1 : Int32} : ip_WP 105 5 [some (.ref x0)] [.int s1, .ref s0] (G, F, I, J) b post px ↔ ip_WP 105 6 [some (.ref x0)] [.int 1, .int s1, .ref s0] (G, F, I, J) b post px := ip_s_iconst f105_5 (by decide)
theorem f105_6 : ip_fetch 105 6 = some (.iadd, 1) := by decide +kernel
theorem s105_6 {x0 : Nat} {s0 : Nat} {s1 : Int32} {s2 : Int32} : ip_WP 105 6 [some (.ref x0)] [.int s2, .int s1, .ref s0] (G, F, I, J) b post px ↔ ip_WP 105 7 [some (.ref x0)] [.int (s1 + s2), .ref s0] (G, F, I, J) b post px := ip_nx_iff ((ip_st_of f105_6).trans rfl)
theorem f105_7 : ip_fetch 105 7 = some (.putfield 66, 3) := by decide +kernel
set_option maxRecDepth 100000 in
theorem s105_7 {x0 : Nat} {s0 : Nat} {s1 : Int32} : ip_WP 105 7 [some (.ref x0)] [.int s1, .ref s0] (G, F, I, J) b post px ↔ (ip_isO G s0 3 = true ∧ ip_WP 105 10 [some (.ref x0)] [] (G, ip_up F s0 14 (.int s1), I, J) b post px) := ip_s_put f105_7 (by decide +kernel) rfl
theorem f105_10 : ip_fetch 105 10 = some (.return_, 1) := by decide +kernel
theorem s105_10 {x0 : Nat} : ip_WP 105 10 [some (.ref x0)] [] (G, F, I, J) b post px ↔ post none (G, F, I, J) := ip_rt_iff ((ip_st_of f105_10).trans rfl)
theorem f106_0 : ip_fetch 106 0 = some (.aload_n 0, 1) := by decide +kernel
theorem s106_0 {x0 : Nat} {x1 : Int64} : ip_WP 106 0 [some (.ref x0), some (.long x1), none] [] (G, F, I, J) b post px ↔ ip_WP 106 1 [some (.ref x0), some (.long x1), none] [.ref x0] (G, F, I, J) b post px := ip_nx_iff ((ip_st_of f106_0).trans rfl)
theorem f106_1 : ip_fetch 106 1 = some (.getfield 16, 3) := by decide +kernel
set_option maxRecDepth 100000 in
theorem s106_1 {x0 : Nat} {x1 : Int64} {s0 : Nat} : ip_WP 106 1 [some (.ref x0), some (.long x1), none] [.ref s0] (G, F, I, J) b post px ↔ (ip_isO G s0 3 = true ∧ ip_WP 106 4 [some (.ref x0), some (.long x1), none] [F s0 0] (G, F, I, J) b post px) := ip_s_getf f106_1 (by decide +kernel)
theorem f106_4 : ip_fetch 106 4 = some (.lload_n 1, 1) := by decide +kernel
theorem s106_4 {x0 : Nat} {x1 : Int64} {s0 : Nat} : ip_WP 106 4 [some (.ref x0), some (.long x1), none] [.ref s0] (G, F, I, J) b post px ↔ ip_WP 106 5 [some (.ref x0), some (.long x1), none] [.long x1, .ref s0] (G, F, I, J) b post px := ip_nx_iff ((ip_st_of f106_4).trans rfl)
theorem f106_5 : ip_fetch 106 5 = some (.invokevirtual 73, 3) := by decide +kernel
set_option maxRecDepth 100000 in
theorem s106_5 {x0 : Nat} {x1 : Int64} {s0 : Nat} {s1 : Int64} : ip_WP 106 5 [some (.ref x0), some (.long x1), none] [.long s1, .ref s0] (G, F, I, J) b post px ↔ (ip_isO G s0 6 = true ∧ ip_WP 148 0 [some (.ref s0), some (.long s1), none, none] [] (G, F, I, J) (0, 0) (fun r h' => ip_WP 106 8 [some (.ref x0), some (.long x1), none] (r.toList ++ []) h' b post px) (fun _ _ => False)) := ip_ck_iff (x := ip_cl 148 [some (.ref s0), some (.long s1), none, none] [] (0, 0) b) ((ip_st_of f106_5).trans rfl) (ip_cl_iff)
theorem f106_8 : ip_fetch 106 8 = some (.iconst (-1), 1) := by decide +kernel
theorem s106_8 {x0 : Nat} {x1 : Int64} {s0 : Int32} : ip_WP 106 8 [some (.ref x0), some (.long x1), none] [.int s0] (G, F, I, J) b post px ↔ ip_WP 106 9 [some (.ref x0), some (.long x1), none] [.int (-1), .int s0] (G, F, I, J) b post px := ip_s_iconst f106_8 (by decide)
theorem f106_9 : ip_fetch 106 9 = some (.if_icmp .ne 39, 3) := by decide +kernel
theorem s106_9 {x0 : Nat} {x1 : Int64} {s0 : Int32} {s1 : Int32} : ip_WP 106 9 [some (.ref x0), some (.long x1), none] [.int s1, .int s0] (G, F, I, J) b post px ↔ if ¬ s0 = s1 then ip_WP 106 48 [some (.ref x0), some (.long x1), none] [] (G, F, I, J) b post px else ip_WP 106 12 [some (.ref x0), some (.long x1), none] [] (G, F, I, J) b post px := ip_s_ic_ne f106_9 rfl
theorem f106_12 : ip_fetch 106 12 = some (.aload_n 0, 1) := by decide +kernel
theorem s106_12 {x0 : Nat} {x1 : Int64} : ip_WP 106 12 [some (.ref x0), some (.long x1), none] [] (G, F, I, J) b post px ↔ ip_WP 106 13 [some (.ref x0), some (.long x1), none] [.ref x0] (G, F, I, J) b post px := ip_nx_iff ((ip_st_of f106_12).trans rfl)
theorem f106_13 : ip_fetch 106 13 = some (.getfield 20, 3) := by decide +kernel
set_option maxRecDepth 100000 in
theorem s106_13 {x0 : Nat} {x1 : Int64} {s0 : Nat} : ip_WP 106 13 [some (.ref x0), some (.long x1), none] [.ref s0] (G, F, I, J) b post px ↔ (ip_isO G s0 3 = true ∧ ip_WP 106 16 [some (.ref x0), some (.long x1), none] [F s0 1] (G, F, I, J) b post px) := ip_s_getf f106_13 (by decide +kernel)
theorem f106_16 : ip_fetch 106 16 = some (.lload_n 1, 1) := by decide +kernel
theorem s106_16 {x0 : Nat} {x1 : Int64} {s0 : Nat} : ip_WP 106 16 [some (.ref x0), some (.long x1), none] [.ref s0] (G, F, I, J) b post px ↔ ip_WP 106 17 [some (.ref x0), some (.long x1), none] [.long x1, .ref s0] (G, F, I, J) b post px := ip_nx_iff ((ip_st_of f106_16).trans rfl)
theorem f106_17 : ip_fetch 106 17 = some (.invokevirtual 73, 3) := by decide +kernel
set_option maxRecDepth 100000 in
theorem s106_17 {x0 : Nat} {x1 : Int64} {s0 : Nat} {s1 : Int64} : ip_WP 106 17 [some (.ref x0), some (.long x1), none] [.long s1, .ref s0] (G, F, I, J) b post px ↔ (ip_isO G s0 6 = true ∧ ip_WP 148 0 [some (.ref s0), some (.long s1), none, none] [] (G, F, I, J) (0, 0) (fun r h' => ip_WP 106 20 [some (.ref x0), some (.long x1), none] (r.toList ++ []) h' b post px) (fun _ _ => False)) := ip_ck_iff (x := ip_cl 148 [some (.ref s0), some (.long s1), none, none] [] (0, 0) b) ((ip_st_of f106_17).trans rfl) (ip_cl_iff)
theorem f106_20 : ip_fetch 106 20 = some (.iconst (-1), 1) := by decide +kernel
theorem s106_20 {x0 : Nat} {x1 : Int64} {s0 : Int32} : ip_WP 106 20 [some (.ref x0), some (.long x1), none] [.int s0] (G, F, I, J) b post px ↔ ip_WP 106 21 [some (.ref x0), some (.long x1), none] [.int (-1), .int s0] (G, F, I, J) b post px := ip_s_iconst f106_20 (by decide)
theorem f106_21 : ip_fetch 106 21 = some (.if_icmp .ne 27, 3) := by decide +kernel
theorem s106_21 {x0 : Nat} {x1 : Int64} {s0 : Int32} {s1 : Int32} : ip_WP 106 21 [some (.ref x0), some (.long x1), none] [.int s1, .int s0] (G, F, I, J) b post px ↔ if ¬ s0 = s1 then ip_WP 106 48 [some (.ref x0), some (.long x1), none] [] (G, F, I, J) b post px else ip_WP 106 24 [some (.ref x0), some (.long x1), none] [] (G, F, I, J) b post px := ip_s_ic_ne f106_21 rfl
theorem f106_24 : ip_fetch 106 24 = some (.aload_n 0, 1) := by decide +kernel
theorem s106_24 {x0 : Nat} {x1 : Int64} : ip_WP 106 24 [some (.ref x0), some (.long x1), none] [] (G, F, I, J) b post px ↔ ip_WP 106 25 [some (.ref x0), some (.long x1), none] [.ref x0] (G, F, I, J) b post px := ip_nx_iff ((ip_st_of f106_24).trans rfl)
theorem f106_25 : ip_fetch 106 25 = some (.getfield 23, 3) := by decide +kernel
set_option maxRecDepth 100000 in
theorem s106_25 {x0 : Nat} {x1 : Int64} {s0 : Nat} : ip_WP 106 25 [some (.ref x0), some (.long x1), none] [.ref s0] (G, F, I, J) b post px ↔ (ip_isO G s0 3 = true ∧ ip_WP 106 28 [some (.ref x0), some (.long x1), none] [F s0 2] (G, F, I, J) b post px) := ip_s_getf f106_25 (by decide +kernel)
theorem f106_28 : ip_fetch 106 28 = some (.lload_n 1, 1) := by decide +kernel
theorem s106_28 {x0 : Nat} {x1 : Int64} {s0 : Nat} : ip_WP 106 28 [some (.ref x0), some (.long x1), none] [.ref s0] (G, F, I, J) b post px ↔ ip_WP 106 29 [some (.ref x0), some (.long x1), none] [.long x1, .ref s0] (G, F, I, J) b post px := ip_nx_iff ((ip_st_of f106_28).trans rfl)
theorem f106_29 : ip_fetch 106 29 = some (.invokevirtual 73, 3) := by decide +kernel
set_option maxRecDepth 100000 in
theorem s106_29 {x0 : Nat} {x1 : Int64} {s0 : Nat} {s1 : Int64} : ip_WP 106 29 [some (.ref x0), some (.long x1), none] [.long s1, .ref s0] (G, F, I, J) b post px ↔ (ip_isO G s0 6 = true ∧ ip_WP 148 0 [some (.ref s0), some (.long s1), none, none] [] (G, F, I, J) (0, 0) (fun r h' => ip_WP 106 32 [some (.ref x0), some (.long x1), none] (r.toList ++ []) h' b post px) (fun _ _ => False)) := ip_ck_iff (x := ip_cl 148 [some (.ref s0), some (.long s1), none, none] [] (0, 0) b) ((ip_st_of f106_29).trans rfl) (ip_cl_iff)
theorem f106_32 : ip_fetch 106 32 = some (.iconst (-1), 1) := by decide +kernel
theorem s106_32 {x0 : Nat} {x1 : Int64} {s0 : Int32} : ip_WP 106 32 [some (.ref x0), some (.long x1), none] [.int s0] (G, F, I, J) b post px ↔ ip_WP 106 33 [some (.ref x0), some (.long x1), none] [.int (-1), .int s0] (G, F, I, J) b post px := ip_s_iconst f106_32 (by decide)
theorem f106_33 : ip_fetch 106 33 = some (.if_icmp .ne 15, 3) := by decide +kernel
theorem s106_33 {x0 : Nat} {x1 : Int64} {s0 : Int32} {s1 : Int32} : ip_WP 106 33 [some (.ref x0), some (.long x1), none] [.int s1, .int s0] (G, F, I, J) b post px ↔ if ¬ s0 = s1 then ip_WP 106 48 [some (.ref x0), some (.long x1), none] [] (G, F, I, J) b post px else ip_WP 106 36 [some (.ref x0), some (.long x1), none] [] (G, F, I, J) b post px := ip_s_ic_ne f106_33 rfl
theorem f106_36 : ip_fetch 106 36 = some (.aload_n 0, 1) := by decide +kernel
theorem s106_36 {x0 : Nat} {x1 : Int64} : ip_WP 106 36 [some (.ref x0), some (.long x1), none] [] (G, F, I, J) b post px ↔ ip_WP 106 37 [some (.ref x0), some (.long x1), none] [.ref x0] (G, F, I, J) b post px := ip_nx_iff ((ip_st_of f106_36).trans rfl)
theorem f106_37 : ip_fetch 106 37 = some (.getfield 26, 3) := by decide +kernel
set_option maxRecDepth 100000 in
theorem s106_37 {x0 : Nat} {x1 : Int64} {s0 : Nat} : ip_WP 106 37 [some (.ref x0), some (.long x1), none] [.ref s0] (G, F, I, J) b post px ↔ (ip_isO G s0 3 = true ∧ ip_WP 106 40 [some (.ref x0), some (.long x1), none] [F s0 3] (G, F, I, J) b post px) := ip_s_getf f106_37 (by decide +kernel)
theorem f106_40 : ip_fetch 106 40 = some (.lload_n 1, 1) := by decide +kernel
theorem s106_40 {x0 : Nat} {x1 : Int64} {s0 : Nat} : ip_WP 106 40 [some (.ref x0), some (.long x1), none] [.ref s0] (G, F, I, J) b post px ↔ ip_WP 106 41 [some (.ref x0), some (.long x1), none] [.long x1, .ref s0] (G, F, I, J) b post px := ip_nx_iff ((ip_st_of f106_40).trans rfl)
theorem f106_41 : ip_fetch 106 41 = some (.invokevirtual 73, 3) := by decide +kernel
set_option maxRecDepth 100000 in
theorem s106_41 {x0 : Nat} {x1 : Int64} {s0 : Nat} {s1 : Int64} : ip_WP 106 41 [some (.ref x0), some (.long x1), none] [.long s1, .ref s0] (G, F, I, J) b post px ↔ (ip_isO G s0 6 = true ∧ ip_WP 148 0 [some (.ref s0), some (.long s1), none, none] [] (G, F, I, J) (0, 0) (fun r h' => ip_WP 106 44 [some (.ref x0), some (.long x1), none] (r.toList ++ []) h' b post px) (fun _ _ => False)) := ip_ck_iff (x := ip_cl 148 [some (.ref s0), some (.long s1), none, none] [] (0, 0) b) ((ip_st_of f106_41).trans rfl) (ip_cl_iff)
theorem f106_44 : ip_fetch 106 44 = some (.iconst (-1), 1) := by decide +kernel
theorem s106_44 {x0 : Nat} {x1 : Int64} {s0 : Int32} : ip_WP 106 44 [some (.ref x0), some (.long x1), none] [.int s0] (G, F, I, J) b post px ↔ ip_WP 106 45 [some (.ref x0), some (.long x1), none] [.int (-1), .int s0] (G, F, I, J) b post px := ip_s_iconst f106_44 (by decide)
theorem f106_45 : ip_fetch 106 45 = some (.if_icmp .eq 7, 3) := by decide +kernel
theorem s106_45 {x0 : Nat} {x1 : Int64} {s0 : Int32} {s1 : Int32} : ip_WP 106 45 [some (.ref x0), some (.long x1), none] [.int s1, .int s0] (G, F, I, J) b post px ↔ if s0 = s1 then ip_WP 106 52 [some (.ref x0), some (.long x1), none] [] (G, F, I, J) b post px else ip_WP 106 48 [some (.ref x0), some (.long x1), none] [] (G, F, I, J) b post px := ip_s_ic_eq f106_45 rfl
theorem f106_48 : ip_fetch 106 48 = some (.iconst 1, 1) := by decide +kernel
theorem s106_48 {x0 : Nat} {x1 : Int64} : ip_WP 106 48 [some (.ref x0), some (.long x1), none] [] (G, F, I, J) b post px ↔ ip_WP 106 49 [some (.ref x0), some (.long x1), none] [.int 1] (G, F, I, J) b post px := ip_s_iconst f106_48 (by decide)
theorem f106_49 : ip_fetch 106 49 = some (.goto 4, 3) := by decide +kernel
theorem s106_49 {x0 : Nat} {x1 : Int64} {s0 : Int32} : ip_WP 106 49 [some (.ref x0), some (.long x1), none] [.int s0] (G, F, I, J) b post px ↔ ip_WP 106 53 [some (.ref x0), some (.long x1), none] [.int s0] (G, F, I, J) b post px := ip_nx_iff ((ip_st_of f106_49).trans rfl)
theorem f106_52 : ip_fetch 106 52 = some (.iconst 0, 1) := by decide +kernel
theorem s106_52 {x0 : Nat} {x1 : Int64} : ip_WP 106 52 [some (.ref x0), some (.long x1), none] [] (G, F, I, J) b post px ↔ ip_WP 106 53 [some (.ref x0), some (.long x1), none] [.int 0] (G, F, I, J) b post px := ip_s_iconst f106_52 (by decide)
theorem f106_53 : ip_fetch 106 53 = some (.ireturn, 1) := by decide +kernel
theorem s106_53 {x0 : Nat} {x1 : Int64} {s0 : Int32} : ip_WP 106 53 [some (.ref x0), some (.long x1), none] [.int s0] (G, F, I, J) b post px ↔ ((s0 = 0 ∨ s0 = 1) ∧ post (some (.int s0)) (G, F, I, J)) := ip_s_zret ((ip_st_of f106_53).trans rfl)
theorem f107_0 : ip_fetch 107 0 = some (.aload_n 0, 1) := by decide +kernel
theorem s107_0 {x0 : Nat} {x1 : Int32} {x2 : Option Value} : ip_WP 107 0 [some (.ref x0), some (.int x1), x2] [] (G, F, I, J) b post px ↔ ip_WP 107 1 [some (.ref x0), some (.int x1), x2] [.ref x0] (G, F, I, J) b post px := ip_nx_iff ((ip_st_of f107_0).trans rfl)
theorem f107_1 : ip_fetch 107 1 = some (.getfield 34, 3) := by decide +kernel
set_option maxRecDepth 100000 in
theorem s107_1 {x0 : Nat} {x1 : Int32} {x2 : Option Value} {s0 : Nat} : ip_WP 107 1 [some (.ref x0), some (.int x1), x2] [.ref s0] (G, F, I, J) b post px ↔ (ip_isO G s0 3 = true ∧ ip_WP 107 4 [some (.ref x0), some (.int x1), x2] [F s0 4] (G, F, I, J) b post px) := ip_s_getf f107_1 (by decide +kernel)
theorem f107_4 : ip_fetch 107 4 = some (.iload_n 1, 1) := by decide +kernel
theorem s107_4 {x0 : Nat} {x1 : Int32} {x2 : Option Value} {s0 : Nat} : ip_WP 107 4 [some (.ref x0), some (.int x1), x2] [.ref s0] (G, F, I, J) b post px ↔ ip_WP 107 5 [some (.ref x0), some (.int x1), x2] [.int x1, .ref s0] (G, F, I, J) b post px := ip_nx_iff ((ip_st_of f107_4).trans rfl)
theorem f107_5 : ip_fetch 107 5 = some (.invokevirtual 77, 3) := by decide +kernel
set_option maxRecDepth 100000 in
theorem s107_5 {x0 : Nat} {x1 : Int32} {x2 : Option Value} {s0 : Nat} {s1 : Int32} : ip_WP 107 5 [some (.ref x0), some (.int x1), x2] [.int s1, .ref s0] (G, F, I, J) b post px ↔ (ip_isO G s0 9 = true ∧ ip_WP 191 0 [some (.ref s0), some (.int s1)] [] (G, F, I, J) (0, 0) (fun r h' => ip_WP 107 8 [some (.ref x0), some (.int x1), x2] (r.toList ++ []) h' b post px) (fun _ _ => False)) := ip_ck_iff (x := ip_cl 191 [some (.ref s0), some (.int s1)] [] (0, 0) b) ((ip_st_of f107_5).trans rfl) (ip_cl_iff)
theorem f107_8 : ip_fetch 107 8 = some (.istore_n 2, 1) := by decide +kernel
theorem s107_8 {x0 : Nat} {x1 : Int32} {x2 : Option Value} {s0 : Int32} : ip_WP 107 8 [some (.ref x0), some (.int x1), x2] [.int s0] (G, F, I, J) b post px ↔ ip_WP 107 9 [some (.ref x0), some (.int x1), some (.int s0)] [] (G, F, I, J) b post px := ip_nx_iff ((ip_st_of f107_8).trans rfl)
theorem f107_9 : ip_fetch 107 9 = some (.iload_n 2, 1) := by decide +kernel
theorem s107_9 {x0 : Nat} {x1 : Int32} {x2 : Int32} : ip_WP 107 9 [some (.ref x0), some (.int x1), some (.int x2)] [] (G, F, I, J) b post px ↔ ip_WP 107 10 [some (.ref x0), some (.int x1), some (.int x2)] [.int x2] (G, F, I, J) b post px := ip_nx_iff ((ip_st_of f107_9).trans rfl)
theorem f107_10 : ip_fetch 107 10 = some (.iconst (-1), 1) := by decide +kernel
theorem s107_10 {x0 : Nat} {x1 : Int32} {x2 : Int32} {s0 : Int32} : ip_WP 107 10 [some (.ref x0), some (.int x1), some (.int x2)] [.int s0] (G, F, I, J) b post px ↔ ip_WP 107 11 [some (.ref x0), some (.int x1), some (.int x2)] [.int (-1), .int s0] (G, F, I, J) b post px := ip_s_iconst f107_10 (by decide)
theorem f107_11 : ip_fetch 107 11 = some (.if_icmp .ne 7, 3) := by decide +kernel
theorem s107_11 {x0 : Nat} {x1 : Int32} {x2 : Int32} {s0 : Int32} {s1 : Int32} : ip_WP 107 11 [some (.ref x0), some (.int x1), some (.int x2)] [.int s1, .int s0] (G, F, I, J) b post px ↔ if ¬ s0 = s1 then ip_WP 107 18 [some (.ref x0), some (.int x1), some (.int x2)] [] (G, F, I, J) b post px else ip_WP 107 14 [some (.ref x0), some (.int x1), some (.int x2)] [] (G, F, I, J) b post px := ip_s_ic_ne f107_11 rfl
theorem f107_14 : ip_fetch 107 14 = some (.iconst 1, 1) := by decide +kernel
theorem s107_14 {x0 : Nat} {x1 : Int32} {x2 : Int32} : ip_WP 107 14 [some (.ref x0), some (.int x1), some (.int x2)] [] (G, F, I, J) b post px ↔ ip_WP 107 15 [some (.ref x0), some (.int x1), some (.int x2)] [.int 1] (G, F, I, J) b post px := ip_s_iconst f107_14 (by decide)
theorem f107_15 : ip_fetch 107 15 = some (.goto 4, 3) := by decide +kernel
theorem s107_15 {x0 : Nat} {x1 : Int32} {x2 : Int32} {s0 : Int32} : ip_WP 107 15 [some (.ref x0), some (.int x1), some (.int x2)] [.int s0] (G, F, I, J) b post px ↔ ip_WP 107 19 [some (.ref x0), some (.int x1), some (.int x2)] [.int s0] (G, F, I, J) b post px := ip_nx_iff ((ip_st_of f107_15).trans rfl)
theorem f107_18 : ip_fetch 107 18 = some (.iload_n 2, 1) := by decide +kernel
theorem s107_18 {x0 : Nat} {x1 : Int32} {x2 : Int32} : ip_WP 107 18 [some (.ref x0), some (.int x1), some (.int x2)] [] (G, F, I, J) b post px ↔ ip_WP 107 19 [some (.ref x0), some (.int x1), some (.int x2)] [.int x2] (G, F, I, J) b post px := ip_nx_iff ((ip_st_of f107_18).trans rfl)
theorem f107_19 : ip_fetch 107 19 = some (.ireturn, 1) := by decide +kernel
theorem s107_19 {x0 : Nat} {x1 : Int32} {x2 : Int32} {s0 : Int32} : ip_WP 107 19 [some (.ref x0), some (.int x1), some (.int x2)] [.int s0] (G, F, I, J) b post px ↔ post (some (.int s0)) (G, F, I, J) := ip_rt_iff ((ip_st_of f107_19).trans rfl)
theorem f108_0 : ip_fetch 108 0 = some (.aload_n 0, 1) := by decide +kernel
theorem s108_0 {x0 : Nat} {x1 : Int32} : ip_WP 108 0 [some (.ref x0), some (.int x1)] [] (G, F, I, J) b post px ↔ ip_WP 108 1 [some (.ref x0), some (.int x1)] [.ref x0] (G, F, I, J) b post px := ip_nx_iff ((ip_st_of f108_0).trans rfl)
theorem f108_1 : ip_fetch 108 1 = some (.getfield 41, 3) := by decide +kernel
set_option maxRecDepth 100000 in
theorem s108_1 {x0 : Nat} {x1 : Int32} {s0 : Nat} : ip_WP 108 1 [some (.ref x0), some (.int x1)] [.ref s0] (G, F, I, J) b post px ↔ (ip_isO G s0 3 = true ∧ ip_WP 108 4 [some (.ref x0), some (.int x1)] [F s0 6] (G, F, I, J) b post px) := ip_s_getf f108_1 (by decide +kernel)
theorem f108_4 : ip_fetch 108 4 = some (.iload_n 1, 1) := by decide +kernel
theorem s108_4 {x0 : Nat} {x1 : Int32} {s0 : Nat} : ip_WP 108 4 [some (.ref x0), some (.int x1)] [.ref s0] (G, F, I, J) b post px ↔ ip_WP 108 5 [some (.ref x0), some (.int x1)] [.int x1, .ref s0] (G, F, I, J) b post px := ip_nx_iff ((ip_st_of f108_4).trans rfl)
theorem f108_5 : ip_fetch 108 5 = some (.invokevirtual 77, 3) := by decide +kernel
set_option maxRecDepth 100000 in
theorem s108_5 {x0 : Nat} {x1 : Int32} {s0 : Nat} {s1 : Int32} : ip_WP 108 5 [some (.ref x0), some (.int x1)] [.int s1, .ref s0] (G, F, I, J) b post px ↔ (ip_isO G s0 9 = true ∧ ip_WP 191 0 [some (.ref s0), some (.int s1)] [] (G, F, I, J) (0, 0) (fun r h' => ip_WP 108 8 [some (.ref x0), some (.int x1)] (r.toList ++ []) h' b post px) (fun _ _ => False)) := ip_ck_iff (x := ip_cl 191 [some (.ref s0), some (.int s1)] [] (0, 0) b) ((ip_st_of f108_5).trans rfl) (ip_cl_iff)
theorem f108_8 : ip_fetch 108 8 = some (.ifCond .eq 7, 3) := by decide +kernel
theorem s108_8 {x0 : Nat} {x1 : Int32} {s0 : Int32} : ip_WP 108 8 [some (.ref x0), some (.int x1)] [.int s0] (G, F, I, J) b post px ↔ if s0 = 0 then ip_WP 108 15 [some (.ref x0), some (.int x1)] [] (G, F, I, J) b post px else ip_WP 108 11 [some (.ref x0), some (.int x1)] [] (G, F, I, J) b post px := ip_s_if_eq f108_8 rfl
theorem f108_11 : ip_fetch 108 11 = some (.iconst 1, 1) := by decide +kernel
theorem s108_11 {x0 : Nat} {x1 : Int32} : ip_WP 108 11 [some (.ref x0), some (.int x1)] [] (G, F, I, J) b post px ↔ ip_WP 108 12 [some (.ref x0), some (.int x1)] [.int 1] (G, F, I, J) b post px := ip_s_iconst f108_11 (by decide)
theorem f108_12 : ip_fetch 108 12 = some (.goto 4, 3) := by decide +kernel
theorem s108_12 {x0 : Nat} {x1 : Int32} {s0 : Int32} : ip_WP 108 12 [some (.ref x0), some (.int x1)] [.int s0] (G, F, I, J) b post px ↔ ip_WP 108 16 [some (.ref x0), some (.int x1)] [.int s0] (G, F, I, J) b post px := ip_nx_iff ((ip_st_of f108_12).trans rfl)
theorem f108_15 : ip_fetch 108 15 = some (.iconst 0, 1) := by decide +kernel
theorem s108_15 {x0 : Nat} {x1 : Int32} : ip_WP 108 15 [some (.ref x0), some (.int x1)] [] (G, F, I, J) b post px ↔ ip_WP 108 16 [some (.ref x0), some (.int x1)] [.int 0] (G, F, I, J) b post px := ip_s_iconst f108_15 (by decide)
theorem f108_16 : ip_fetch 108 16 = some (.ireturn, 1) := by decide +kernel
theorem s108_16 {x0 : Nat} {x1 : Int32} {s0 : Int32} : ip_WP 108 16 [some (.ref x0), some (.int x1)] [.int s0] (G, F, I, J) b post px ↔ ((s0 = 0 ∨ s0 = 1) ∧ post (some (.int s0)) (G, F, I, J)) := ip_s_zret ((ip_st_of f108_16).trans rfl)
theorem f109_0 : ip_fetch 109 0 = some (.aload_n 0, 1) := by decide +kernel
theorem s109_0 {x0 : Nat} {x1 : Int32} {x2 : Int32} : ip_WP 109 0 [some (.ref x0), some (.int x1), some (.int x2)] [] (G, F, I, J) b post px ↔ ip_WP 109 1 [some (.ref x0), some (.int x1), some (.int x2)] [.ref x0] (G, F, I, J) b post px := ip_nx_iff ((ip_st_of f109_0).trans rfl)
theorem f109_1 : ip_fetch 109 1 = some (.getfield 44, 3) := by decide +kernel
set_option maxRecDepth 100000 in
theorem s109_1 {x0 : Nat} {x1 : Int32} {x2 : Int32} {s0 : Nat} : ip_WP 109 1 [some (.ref x0), some (.int x1), some (.int x2)] [.ref s0] (G, F, I, J) b post px ↔ (ip_isO G s0 3 = true ∧ ip_WP 109 4 [some (.ref x0), some (.int x1), some (.int x2)] [F s0 7] (G, F, I, J) b post px) := ip_s_getf f109_1 (by decide +kernel)
theorem f109_4 : ip_fetch 109 4 = some (.iload_n 2, 1) := by decide +kernel
theorem s109_4 {x0 : Nat} {x1 : Int32} {x2 : Int32} {s0 : Nat} : ip_WP 109 4 [some (.ref x0), some (.int x1), some (.int x2)] [.ref s0] (G, F, I, J) b post px ↔ ip_WP 109 5 [some (.ref x0), some (.int x1), some (.int x2)] [.int x2, .ref s0] (G, F, I, J) b post px := ip_nx_iff ((ip_st_of f109_4).trans rfl)
theorem f109_5 : ip_fetch 109 5 = some (.invokevirtual 77, 3) := by decide +kernel
set_option maxRecDepth 100000 in
theorem s109_5 {x0 : Nat} {x1 : Int32} {x2 : Int32} {s0 : Nat} {s1 : Int32} : ip_WP 109 5 [some (.ref x0), some (.int x1), some (.int x2)] [.int s1, .ref s0] (G, F, I, J) b post px ↔ (ip_isO G s0 9 = true ∧ ip_WP 191 0 [some (.ref s0), some (.int s1)] [] (G, F, I, J) (0, 0) (fun r h' => ip_WP 109 8 [some (.ref x0), some (.int x1), some (.int x2)] (r.toList ++ []) h' b post px) (fun _ _ => False)) := ip_ck_iff (x := ip_cl 191 [some (.ref s0), some (.int s1)] [] (0, 0) b) ((ip_st_of f109_5).trans rfl) (ip_cl_iff)
theorem f109_8 : ip_fetch 109 8 = some (.iload_n 1, 1) := by decide +kernel
theorem s109_8 {x0 : Nat} {x1 : Int32} {x2 : Int32} {s0 : Int32} : ip_WP 109 8 [some (.ref x0), some (.int x1), some (.int x2)] [.int s0] (G, F, I, J) b post px ↔ ip_WP 109 9 [some (.ref x0), some (.int x1), some (.int x2)] [.int x1, .int s0] (G, F, I, J) b post px := ip_nx_iff ((ip_st_of f109_8).trans rfl)
theorem f109_9 : ip_fetch 109 9 = some (.if_icmp .ne 7, 3) := by decide +kernel
theorem s109_9 {x0 : Nat} {x1 : Int32} {x2 : Int32} {s0 : Int32} {s1 : Int32} : ip_WP 109 9 [some (.ref x0), some (.int x1), some (.int x2)] [.int s1, .int s0] (G, F, I, J) b post px ↔ if ¬ s0 = s1 then ip_WP 109 16 [some (.ref x0), some (.int x1), some (.int x2)] [] (G, F, I, J) b post px else ip_WP 109 12 [some (.ref x0), some (.int x1), some (.int x2)] [] (G, F, I, J) b post px := ip_s_ic_ne f109_9 rfl
theorem f109_12 : ip_fetch 109 12 = some (.iconst 1, 1) := by decide +kernel
theorem s109_12 {x0 : Nat} {x1 : Int32} {x2 : Int32} : ip_WP 109 12 [some (.ref x0), some (.int x1), some (.int x2)] [] (G, F, I, J) b post px ↔ ip_WP 109 13 [some (.ref x0), some (.int x1), some (.int x2)] [.int 1] (G, F, I, J) b post px := ip_s_iconst f109_12 (by decide)
theorem f109_13 : ip_fetch 109 13 = some (.goto 4, 3) := by decide +kernel
theorem s109_13 {x0 : Nat} {x1 : Int32} {x2 : Int32} {s0 : Int32} : ip_WP 109 13 [some (.ref x0), some (.int x1), some (.int x2)] [.int s0] (G, F, I, J) b post px ↔ ip_WP 109 17 [some (.ref x0), some (.int x1), some (.int x2)] [.int s0] (G, F, I, J) b post px := ip_nx_iff ((ip_st_of f109_13).trans rfl)
theorem f109_16 : ip_fetch 109 16 = some (.iconst 0, 1) := by decide +kernel
theorem s109_16 {x0 : Nat} {x1 : Int32} {x2 : Int32} : ip_WP 109 16 [some (.ref x0), some (.int x1), some (.int x2)] [] (G, F, I, J) b post px ↔ ip_WP 109 17 [some (.ref x0), some (.int x1), some (.int x2)] [.int 0] (G, F, I, J) b post px := ip_s_iconst f109_16 (by decide)
theorem f109_17 : ip_fetch 109 17 = some (.ireturn, 1) := by decide +kernel
theorem s109_17 {x0 : Nat} {x1 : Int32} {x2 : Int32} {s0 : Int32} : ip_WP 109 17 [some (.ref x0), some (.int x1), some (.int x2)] [.int s0] (G, F, I, J) b post px ↔ ((s0 = 0 ∨ s0 = 1) ∧ post (some (.int s0)) (G, F, I, J)) := ip_s_zret ((ip_st_of f109_17).trans rfl)
theorem f110_0 : ip_fetch 110 0 = some (.aload_n 0, 1) := by decide +kernel
theorem s110_0 {x0 : Nat} : ip_WP 110 0 [some (.ref x0)] [] (G, F, I, J) b post px ↔ ip_WP 110 1 [some (.ref x0)] [.ref x0] (G, F, I, J) b post px := ip_nx_iff ((ip_st_of f110_0).trans rfl)
theorem f110_1 : ip_fetch 110 1 = some (.getfield 62, 3) := by decide +kernel
set_option maxRecDepth 100000 in
theorem s110_1 {x0 : Nat} {s0 : Nat} : ip_WP 110 1 [some (.ref x0)] [.ref s0] (G, F, I, J) b post px ↔ (ip_isO G s0 3 = true ∧ ip_WP 110 4 [some (.ref x0)] [F s0 13] (G, F, I, J) b post px) := ip_s_getf f110_1 (by decide +kernel)
theorem f110_4 : ip_fetch 110 4 = some (.ireturn, 1) := by decide +kernel
theorem s110_4 {x0 : Nat} {s0 : Int32} : ip_WP 110 4 [some (.ref x0)] [.int s0] (G, F, I, J) b post px ↔ post (some (.int s0)) (G, F, I, J) := ip_rt_iff ((ip_st_of f110_4).trans rfl)
theorem f111_0 : ip_fetch 111 0 = some (.aload_n 0, 1) := by decide +kernel
theorem s111_0 {x0 : Nat} : ip_WP 111 0 [some (.ref x0)] [] (G, F, I, J) b post px ↔ ip_WP 111 1 [some (.ref x0)] [.ref x0] (G, F, I, J) b post px := ip_nx_iff ((ip_st_of f111_0).trans rfl)
theorem f111_1 : ip_fetch 111 1 = some (.getfield 62, 3) := by decide +kernel
set_option maxRecDepth 100000 in
theorem s111_1 {x0 : Nat} {s0 : Nat} : ip_WP 111 1 [some (.ref x0)] [.ref s0] (G, F, I, J) b post px ↔ (ip_isO G s0 3 = true ∧ ip_WP 111 4 [some (.ref x0)] [F s0 13] (G, F, I, J) b post px) := ip_s_getf f111_1 (by decide +kernel)
theorem f111_4 : ip_fetch 111 4 = some (.bipush 24, 2) := by decide +kernel
theorem s111_4 {x0 : Nat} {s0 : Int32} : ip_WP 111 4 [some (.ref x0)] [.int s0] (G, F, I, J) b post px ↔ ip_WP 111 6 [some (.ref x0)] [.int 24, .int s0] (G, F, I, J) b post px := ip_s_bipush f111_4 (by decide)
theorem f111_6 : ip_fetch 111 6 = some (.if_icmp .lt 7, 3) := by decide +kernel
theorem s111_6 {x0 : Nat} {s0 : Int32} {s1 : Int32} : ip_WP 111 6 [some (.ref x0)] [.int s1, .int s0] (G, F, I, J) b post px ↔ if s0 < s1 then ip_WP 111 13 [some (.ref x0)] [] (G, F, I, J) b post px else ip_WP 111 9 [some (.ref x0)] [] (G, F, I, J) b post px := ip_s_ic_lt f111_6 rfl
theorem f111_9 : ip_fetch 111 9 = some (.iconst 1, 1) := by decide +kernel
theorem s111_9 {x0 : Nat} : ip_WP 111 9 [some (.ref x0)] [] (G, F, I, J) b post px ↔ ip_WP 111 10 [some (.ref x0)] [.int 1] (G, F, I, J) b post px := ip_s_iconst f111_9 (by decide)
theorem f111_10 : ip_fetch 111 10 = some (.goto 4, 3) := by decide +kernel
theorem s111_10 {x0 : Nat} {s0 : Int32} : ip_WP 111 10 [some (.ref x0)] [.int s0] (G, F, I, J) b post px ↔ ip_WP 111 14 [some (.ref x0)] [.int s0] (G, F, I, J) b post px := ip_nx_iff ((ip_st_of f111_10).trans rfl)
theorem f111_13 : ip_fetch 111 13 = some (.iconst 0, 1) := by decide +kernel
theorem s111_13 {x0 : Nat} : ip_WP 111 13 [some (.ref x0)] [] (G, F, I, J) b post px ↔ ip_WP 111 14 [some (.ref x0)] [.int 0] (G, F, I, J) b post px := ip_s_iconst f111_13 (by decide)
theorem f111_14 : ip_fetch 111 14 = some (.ireturn, 1) := by decide +kernel
theorem s111_14 {x0 : Nat} {s0 : Int32} : ip_WP 111 14 [some (.ref x0)] [.int s0] (G, F, I, J) b post px ↔ ((s0 = 0 ∨ s0 = 1) ∧ post (some (.int s0)) (G, F, I, J)) := ip_s_zret ((ip_st_of f111_14).trans rfl)
theorem f112_0 : ip_fetch 112 0 = some (.aload_n 0, 1) := by decide +kernel
theorem s112_0 {x0 : Nat} {x1 : Int32} {x2 : Int32} : ip_WP 112 0 [some (.ref x0), some (.int x1), some (.int x2)] [] (G, F, I, J) b post px ↔ ip_WP 112 1 [some (.ref x0), some (.int x1), some (.int x2)] [.ref x0] (G, F, I, J) b post px := ip_nx_iff ((ip_st_of f112_0).trans rfl)
theorem f112_1 : ip_fetch 112 1 = some (.getfield 47, 3) := by decide +kernel
set_option maxRecDepth 100000 in
theorem s112_1 {x0 : Nat} {x1 : Int32} {x2 : Int32} {s0 : Nat} : ip_WP 112 1 [some (.ref x0), some (.int x1), some (.int x2)] [.ref s0] (G, F, I, J) b post px ↔ (ip_isO G s0 3 = true ∧ ip_WP 112 4 [some (.ref x0), some (.int x1), some (.int x2)] [F s0 8] (G, F, I, J) b post px) := ip_s_getf f112_1 (by decide +kernel)
theorem f112_4 : ip_fetch 112 4 = some (.aload_n 0, 1) := by decide +kernel
theorem s112_4 {x0 : Nat} {x1 : Int32} {x2 : Int32} {s0 : Nat} : ip_WP 112 4 [some (.ref x0), some (.int x1), some (.int x2)] [.ref s0] (G, F, I, J) b post px ↔ ip_WP 112 5 [some (.ref x0), some (.int x1), some (.int x2)] [.ref x0, .ref s0] (G, F, I, J) b post px := ip_nx_iff ((ip_st_of f112_4).trans rfl)
theorem f112_5 : ip_fetch 112 5 = some (.getfield 62, 3) := by decide +kernel
set_option maxRecDepth 100000 in
theorem s112_5 {x0 : Nat} {x1 : Int32} {x2 : Int32} {s0 : Nat} {s1 : Nat} : ip_WP 112 5 [some (.ref x0), some (.int x1), some (.int x2)] [.ref s1, .ref s0] (G, F, I, J) b post px ↔ (ip_isO G s1 3 = true ∧ ip_WP 112 8 [some (.ref x0), some (.int x1), some (.int x2)] [F s1 13, .ref s0] (G, F, I, J) b post px) := ip_s_getf f112_5 (by decide +kernel)
theorem f112_8 : ip_fetch 112 8 = some (.iload_n 1, 1) := by decide +kernel
theorem s112_8 {x0 : Nat} {x1 : Int32} {x2 : Int32} {s0 : Nat} {s1 : Int32} : ip_WP 112 8 [some (.ref x0), some (.int x1), some (.int x2)] [.int s1, .ref s0] (G, F, I, J) b post px ↔ ip_WP 112 9 [some (.ref x0), some (.int x1), some (.int x2)] [.int x1, .int s1, .ref s0] (G, F, I, J) b post px := ip_nx_iff ((ip_st_of f112_8).trans rfl)
theorem f112_9 : ip_fetch 112 9 = some (.invokevirtual 81, 3) := by decide +kernel
set_option maxRecDepth 100000 in
theorem s112_9 {x0 : Nat} {x1 : Int32} {x2 : Int32} {s0 : Nat} {s1 : Int32} {s2 : Int32} : ip_WP 112 9 [some (.ref x0), some (.int x1), some (.int x2)] [.int s2, .int s1, .ref s0] (G, F, I, J) b post px ↔ (ip_isO G s0 9 = true ∧ ip_WP 192 0 [some (.ref s0), some (.int s1), some (.int s2)] [] (G, F, I, J) (0, 0) (fun r h' => ip_WP 112 12 [some (.ref x0), some (.int x1), some (.int x2)] (r.toList ++ []) h' b post px) (fun _ _ => False)) := ip_ck_iff (x := ip_cl 192 [some (.ref s0), some (.int s1), some (.int s2)] [] (0, 0) b) ((ip_st_of f112_9).trans rfl) (ip_cl_iff)
theorem f112_12 : ip_fetch 112 12 = some (.aload_n 0, 1) := by decide +kernel
theorem s112_12 {x0 : Nat} {x1 : Int32} {x2 : Int32} : ip_WP 112 12 [some (.ref x0), some (.int x1), some (.int x2)] [] (G, F, I, J) b post px ↔ ip_WP 112 13 [some (.ref x0), some (.int x1), some (.int x2)] [.ref x0] (G, F, I, J) b post px := ip_nx_iff ((ip_st_of f112_12).trans rfl)
theorem f112_13 : ip_fetch 112 13 = some (.getfield 50, 3) := by decide +kernel
set_option maxRecDepth 100000 in
theorem s112_13 {x0 : Nat} {x1 : Int32} {x2 : Int32} {s0 : Nat} : ip_WP 112 13 [some (.ref x0), some (.int x1), some (.int x2)] [.ref s0] (G, F, I, J) b post px ↔ (ip_isO G s0 3 = true ∧ ip_WP 112 16 [some (.ref x0), some (.int x1), some (.int x2)] [F s0 9] (G, F, I, J) b post px) := ip_s_getf f112_13 (by decide +kernel)
theorem f112_16 : ip_fetch 112 16 = some (.aload_n 0, 1) := by decide +kernel
theorem s112_16 {x0 : Nat} {x1 : Int32} {x2 : Int32} {s0 : Nat} : ip_WP 112 16 [some (.ref x0), some (.int x1), some (.int x2)] [.ref s0] (G, F, I, J) b post px ↔ ip_WP 112 17 [some (.ref x0), some (.int x1), some (.int x2)] [.ref x0, .ref s0] (G, F, I, J) b post px := ip_nx_iff ((ip_st_of f112_16).trans rfl)
theorem f112_17 : ip_fetch 112 17 = some (.getfield 62, 3) := by decide +kernel
set_option maxRecDepth 100000 in
theorem s112_17 {x0 : Nat} {x1 : Int32} {x2 : Int32} {s0 : Nat} {s1 : Nat} : ip_WP 112 17 [some (.ref x0), some (.int x1), some (.int x2)] [.ref s1, .ref s0] (G, F, I, J) b post px ↔ (ip_isO G s1 3 = true ∧ ip_WP 112 20 [some (.ref x0), some (.int x1), some (.int x2)] [F s1 13, .ref s0] (G, F, I, J) b post px) := ip_s_getf f112_17 (by decide +kernel)
theorem f112_20 : ip_fetch 112 20 = some (.iload_n 2, 1) := by decide +kernel
theorem s112_20 {x0 : Nat} {x1 : Int32} {x2 : Int32} {s0 : Nat} {s1 : Int32} : ip_WP 112 20 [some (.ref x0), some (.int x1), some (.int x2)] [.int s1, .ref s0] (G, F, I, J) b post px ↔ ip_WP 112 21 [some (.ref x0), some (.int x1), some (.int x2)] [.int x2, .int s1, .ref s0] (G, F, I, J) b post px := ip_nx_iff ((ip_st_of f112_20).trans rfl)
theorem f112_21 : ip_fetch 112 21 = some (.invokevirtual 81, 3) := by decide +kernel
set_option maxRecDepth 100000 in
theorem s112_21 {x0 : Nat} {x1 : Int32} {x2 : Int32} {s0 : Nat} {s1 : Int32} {s2 : Int32} : ip_WP 112 21 [some (.ref x0), some (.int x1), some (.int x2)] [.int s2, .int s1, .ref s0] (G, F, I, J) b post px ↔ (ip_isO G s0 9 = true ∧ ip_WP 192 0 [some (.ref s0), some (.int s1), some (.int s2)] [] (G, F, I, J) (0, 0) (fun r h' => ip_WP 112 24 [some (.ref x0), some (.int x1), some (.int x2)] (r.toList ++ []) h' b post px) (fun _ _ => False)) := ip_ck_iff (x := ip_cl 192 [some (.ref s0), some (.int s1), some (.int s2)] [] (0, 0) b) ((ip_st_of f112_21).trans rfl) (ip_cl_iff)
theorem f112_24 : ip_fetch 112 24 = some (.aload_n 0, 1) := by decide +kernel
theorem s112_24 {x0 : Nat} {x1 : Int32} {x2 : Int32} : ip_WP 112 24 [some (.ref x0), some (.int x1), some (.int x2)] [] (G, F, I, J) b post px ↔ ip_WP 112 25 [some (.ref x0), some (.int x1), some (.int x2)] [.ref x0] (G, F, I, J) b post px := ip_nx_iff ((ip_st_of f112_24).trans rfl)
theorem f112_25 : ip_fetch 112 25 = some (.dup, 1) := by decide +kernel
theorem s112_25 {x0 : Nat} {x1 : Int32} {x2 : Int32} {s0 : Nat} : ip_WP 112 25 [some (.ref x0), some (.int x1), some (.int x2)] [.ref s0] (G, F, I, J) b post px ↔ ip_WP 112 26 [some (.ref x0), some (.int x1), some (.int x2)] [.ref s0, .ref s0] (G, F, I, J) b post px := ip_nx_iff ((ip_st_of f112_25).trans rfl)
theorem f112_26 : ip_fetch 112 26 = some (.getfield 62, 3) := by decide +kernel
set_option maxRecDepth 100000 in
theorem s112_26 {x0 : Nat} {x1 : Int32} {x2 : Int32} {s0 : Nat} {s1 : Nat} : ip_WP 112 26 [some (.ref x0), some (.int x1), some (.int x2)] [.ref s1, .ref s0] (G, F, I, J) b post px ↔ (ip_isO G s1 3 = true ∧ ip_WP 112 29 [some (.ref x0), some (.int x1), some (.int x2)] [F s1 13, .ref s0] (G, F, I, J) b post px) := ip_s_getf f112_26 (by decide +kernel)
theorem f112_29 : ip_fetch 112 29 = some (.iconst 1, 1) := by decide +kernel
theorem s112_29 {x0 : Nat} {x1 : Int32} {x2 : Int32} {s0 : Nat} {s1 : Int32} : ip_WP 112 29 [some (.ref x0), some (.int x1), some (.int x2)] [.int s1, .ref s0] (G, F, I, J) b post px ↔ ip_WP 112 30 [some (.ref x0), some (.int x1), some (.int x2)] [.int 1, .int s1, .ref s0] (G, F, I, J) b post px := ip_s_iconst f112_29 (by decide)
theorem f112_30 : ip_fetch 112 30 = some (.iadd, 1) := by decide +kernel
theorem s112_30 {x0 : Nat} {x1 : Int32} {x2 : Int32} {s0 : Nat} {s1 : Int32} {s2 : Int32} : ip_WP 112 30 [some (.ref x0), some (.int x1), some (.int x2)] [.int s2, .int s1, .ref s0] (G, F, I, J) b post px ↔ ip_WP 112 31 [some (.ref x0), some (.int x1), some (.int x2)] [.int (s1 + s2), .ref s0] (G, F, I, J) b post px := ip_nx_iff ((ip_st_of f112_30).trans rfl)
theorem f112_31 : ip_fetch 112 31 = some (.putfield 62, 3) := by decide +kernel
set_option maxRecDepth 100000 in
theorem s112_31 {x0 : Nat} {x1 : Int32} {x2 : Int32} {s0 : Nat} {s1 : Int32} : ip_WP 112 31 [some (.ref x0), some (.int x1), some (.int x2)] [.int s1, .ref s0] (G, F, I, J) b post px ↔ (ip_isO G s0 3 = true ∧ ip_WP 112 34 [some (.ref x0), some (.int x1), some (.int x2)] [] (G, ip_up F s0 13 (.int s1), I, J) b post px) := ip_s_put f112_31 (by decide +kernel) rfl
theorem f112_34 : ip_fetch 112 34 = some (.return_, 1) := by decide +kernel
theorem s112_34 {x0 : Nat} {x1 : Int32} {x2 : Int32} : ip_WP 112 34 [some (.ref x0), some (.int x1), some (.int x2)] [] (G, F, I, J) b post px ↔ post none (G, F, I, J) := ip_rt_iff ((ip_st_of f112_34).trans rfl)
theorem f113_0 : ip_fetch 113 0 = some (.iconst 0, 1) := by decide +kernel
theorem s113_0 {x0 : Nat} {x1 : Int32} {x2 : Int32} {x3 : Option Value} : ip_WP 113 0 [some (.ref x0), some (.int x1), some (.int x2), x3] [] (G, F, I, J) b post px ↔ ip_WP 113 1 [some (.ref x0), some (.int x1), some (.int x2), x3] [.int 0] (G, F, I, J) b post px := ip_s_iconst f113_0 (by decide)
theorem f113_1 : ip_fetch 113 1 = some (.istore_n 3, 1) := by decide +kernel
theorem s113_1 {x0 : Nat} {x1 : Int32} {x2 : Int32} {x3 : Option Value} {s0 : Int32} : ip_WP 113 1 [some (.ref x0), some (.int x1), some (.int x2), x3] [.int s0] (G, F, I, J) b post px ↔ ip_WP 113 2 [some (.ref x0), some (.int x1), some (.int x2), some (.int s0)] [] (G, F, I, J) b post px := ip_nx_iff ((ip_st_of f113_1).trans rfl)
theorem f113_2 : ip_fetch 113 2 = some (.iload_n 3, 1) := by decide +kernel
theorem s113_2 {x0 : Nat} {x1 : Int32} {x2 : Int32} {x3 : Int32} : ip_WP 113 2 [some (.ref x0), some (.int x1), some (.int x2), some (.int x3)] [] (G, F, I, J) b post px ↔ ip_WP 113 3 [some (.ref x0), some (.int x1), some (.int x2), some (.int x3)] [.int x3] (G, F, I, J) b post px := ip_nx_iff ((ip_st_of f113_2).trans rfl)
theorem f113_3 : ip_fetch 113 3 = some (.aload_n 0, 1) := by decide +kernel
theorem s113_3 {x0 : Nat} {x1 : Int32} {x2 : Int32} {x3 : Int32} {s0 : Int32} : ip_WP 113 3 [some (.ref x0), some (.int x1), some (.int x2), some (.int x3)] [.int s0] (G, F, I, J) b post px ↔ ip_WP 113 4 [some (.ref x0), some (.int x1), some (.int x2), some (.int x3)] [.ref x0, .int s0] (G, F, I, J) b post px := ip_nx_iff ((ip_st_of f113_3).trans rfl)
theorem f113_4 : ip_fetch 113 4 = some (.getfield 62, 3) := by decide +kernel
set_option maxRecDepth 100000 in
theorem s113_4 {x0 : Nat} {x1 : Int32} {x2 : Int32} {x3 : Int32} {s0 : Int32} {s1 : Nat} : ip_WP 113 4 [some (.ref x0), some (.int x1), some (.int x2), some (.int x3)] [.ref s1, .int s0] (G, F, I, J) b post px ↔ (ip_isO G s1 3 = true ∧ ip_WP 113 7 [some (.ref x0), some (.int x1), some (.int x2), some (.int x3)] [F s1 13, .int s0] (G, F, I, J) b post px) := ip_s_getf f113_4 (by decide +kernel)
theorem f113_7 : ip_fetch 113 7 = some (.if_icmp .ge 35, 3) := by decide +kernel
theorem s113_7 {x0 : Nat} {x1 : Int32} {x2 : Int32} {x3 : Int32} {s0 : Int32} {s1 : Int32} : ip_WP 113 7 [some (.ref x0), some (.int x1), some (.int x2), some (.int x3)] [.int s1, .int s0] (G, F, I, J) b post px ↔ if s1 ≤ s0 then ip_WP 113 42 [some (.ref x0), some (.int x1), some (.int x2), some (.int x3)] [] (G, F, I, J) b post px else ip_WP 113 10 [some (.ref x0), some (.int x1), some (.int x2), some (.int x3)] [] (G, F, I, J) b post px := ip_s_ic_ge f113_7 rfl
theorem f113_10 : ip_fetch 113 10 = some (.aload_n 0, 1) := by decide +kernel
theorem s113_10 {x0 : Nat} {x1 : Int32} {x2 : Int32} {x3 : Int32} : ip_WP 113 10 [some (.ref x0), some (.int x1), some (.int x2), some (.int x3)] [] (G, F, I, J) b post px ↔ ip_WP 113 11 [some (.ref x0), some (.int x1), some (.int x2), some (.int x3)] [.ref x0] (G, F, I, J) b post px := ip_nx_iff ((ip_st_of f113_10).trans rfl)
theorem f113_11 : ip_fetch 113 11 = some (.getfield 47, 3) := by decide +kernel
set_option maxRecDepth 100000 in
theorem s113_11 {x0 : Nat} {x1 : Int32} {x2 : Int32} {x3 : Int32} {s0 : Nat} : ip_WP 113 11 [some (.ref x0), some (.int x1), some (.int x2), some (.int x3)] [.ref s0] (G, F, I, J) b post px ↔ (ip_isO G s0 3 = true ∧ ip_WP 113 14 [some (.ref x0), some (.int x1), some (.int x2), some (.int x3)] [F s0 8] (G, F, I, J) b post px) := ip_s_getf f113_11 (by decide +kernel)
theorem f113_14 : ip_fetch 113 14 = some (.iload_n 3, 1) := by decide +kernel
theorem s113_14 {x0 : Nat} {x1 : Int32} {x2 : Int32} {x3 : Int32} {s0 : Nat} : ip_WP 113 14 [some (.ref x0), some (.int x1), some (.int x2), some (.int x3)] [.ref s0] (G, F, I, J) b post px ↔ ip_WP 113 15 [some (.ref x0), some (.int x1), some (.int x2), some (.int x3)] [.int x3, .ref s0] (G, F, I, J) b post px := ip_nx_iff ((ip_st_of f113_14).trans rfl)
theorem f113_15 : ip_fetch 113 15 = some (.invokevirtual 77, 3) := by decide +kernel
set_option maxRecDepth 100000 in
theorem s113_15 {x0 : Nat} {x1 : Int32} {x2 : Int32} {x3 : Int32} {s0 : Nat} {s1 : Int32} : ip_WP 113 15 [some (.ref x0), some (.int x1), some (.int x2), some (.int x3)] [.int s1, .ref s0] (G, F, I, J) b post px ↔ (ip_isO G s0 9 = true ∧ ip_WP 191 0 [some (.ref s0), some (.int s1)] [] (G, F, I, J) (0, 0) (fun r h' => ip_WP 113 18 [some (.ref x0), some (.int x1), some (.int x2), some (.int x3)] (r.toList ++ []) h' b post px) (fun _ _ => False)) := ip_ck_iff (x := ip_cl 191 [some (.ref s0), some (.int s1)] [] (0, 0) b) ((ip_st_of f113_15).trans rfl) (ip_cl_iff)
theorem f113_18 : ip_fetch 113 18 = some (.iload_n 1, 1) := by decide +kernel
theorem s113_18 {x0 : Nat} {x1 : Int32} {x2 : Int32} {x3 : Int32} {s0 : Int32} : ip_WP 113 18 [some (.ref x0), some (.int x1), some (.int x2), some (.int x3)] [.int s0] (G, F, I, J) b post px ↔ ip_WP 113 19 [some (.ref x0), some (.int x1), some (.int x2), some (.int x3)] [.int x1, .int s0] (G, F, I, J) b post px := ip_nx_iff ((ip_st_of f113_18).trans rfl)
theorem f113_19 : ip_fetch 113 19 = some (.if_icmp .ne 17, 3) := by decide +kernel
theorem s113_19 {x0 : Nat} {x1 : Int32} {x2 : Int32} {x3 : Int32} {s0 : Int32} {s1 : Int32} : ip_WP 113 19 [some (.ref x0), some (.int x1), some (.int x2), some (.int x3)] [.int s1, .int s0] (G, F, I, J) b post px ↔ if ¬ s0 = s1 then ip_WP 113 36 [some (.ref x0), some (.int x1), some (.int x2), some (.int x3)] [] (G, F, I, J) b post px else ip_WP 113 22 [some (.ref x0), some (.int x1), some (.int x2), some (.int x3)] [] (G, F, I, J) b post px := ip_s_ic_ne f113_19 rfl
theorem f113_22 : ip_fetch 113 22 = some (.aload_n 0, 1) := by decide +kernel
theorem s113_22 {x0 : Nat} {x1 : Int32} {x2 : Int32} {x3 : Int32} : ip_WP 113 22 [some (.ref x0), some (.int x1), some (.int x2), some (.int x3)] [] (G, F, I, J) b post px ↔ ip_WP 113 23 [some (.ref x0), some (.int x1), some (.int x2), some (.int x3)] [.ref x0] (G, F, I, J) b post px := ip_nx_iff ((ip_st_of f113_22).trans rfl)
theorem f113_23 : ip_fetch 113 23 = some (.getfield 50, 3) := by decide +kernel
set_option maxRecDepth 100000 in
theorem s113_23 {x0 : Nat} {x1 : Int32} {x2 : Int32} {x3 : Int32} {s0 : Nat} : ip_WP 113 23 [some (.ref x0), some (.int x1), some (.int x2), some (.int x3)] [.ref s0] (G, F, I, J) b post px ↔ (ip_isO G s0 3 = true ∧ ip_WP 113 26 [some (.ref x0), some (.int x1), some (.int x2), some (.int x3)] [F s0 9] (G, F, I, J) b post px) := ip_s_getf f113_23 (by decide +kernel)
theorem f113_26 : ip_fetch 113 26 = some (.iload_n 3, 1) := by decide +kernel
theorem s113_26 {x0 : Nat} {x1 : Int32} {x2 : Int32} {x3 : Int32} {s0 : Nat} : ip_WP 113 26 [some (.ref x0), some (.int x1), some (.int x2), some (.int x3)] [.ref s0] (G, F, I, J) b post px ↔ ip_WP 113 27 [some (.ref x0), some (.int x1), some (.int x2), some (.int x3)] [.int x3, .ref s0] (G, F, I, J) b post px := ip_nx_iff ((ip_st_of f113_26).trans rfl)
theorem f113_27 : ip_fetch 113 27 = some (.invokevirtual 77, 3) := by decide +kernel
set_option maxRecDepth 100000 in
theorem s113_27 {x0 : Nat} {x1 : Int32} {x2 : Int32} {x3 : Int32} {s0 : Nat} {s1 : Int32} : ip_WP 113 27 [some (.ref x0), some (.int x1), some (.int x2), some (.int x3)] [.int s1, .ref s0] (G, F, I, J) b post px ↔ (ip_isO G s0 9 = true ∧ ip_WP 191 0 [some (.ref s0), some (.int s1)] [] (G, F, I, J) (0, 0) (fun r h' => ip_WP 113 30 [some (.ref x0), some (.int x1), some (.int x2), some (.int x3)] (r.toList ++ []) h' b post px) (fun _ _ => False)) := ip_ck_iff (x := ip_cl 191 [some (.ref s0), some (.int s1)] [] (0, 0) b) ((ip_st_of f113_27).trans rfl) (ip_cl_iff)
theorem f113_30 : ip_fetch 113 30 = some (.iload_n 2, 1) := by decide +kernel
theorem s113_30 {x0 : Nat} {x1 : Int32} {x2 : Int32} {x3 : Int32} {s0 : Int32} : ip_WP 113 30 [some (.ref x0), some (.int x1), some (.int x2), some (.int x3)] [.int s0] (G, F, I, J) b post px ↔ ip_WP 113 31 [some (.ref x0), some (.int x1), some (.int x2), some (.int x3)] [.int x2, .int s0] (G, F, I, J) b post px := ip_nx_iff ((ip_st_of f113_30).trans rfl)
theorem f113_31 : ip_fetch 113 31 = some (.if_icmp .ne 5, 3) := by decide +kernel
theorem s113_31 {x0 : Nat} {x1 : Int32} {x2 : Int32} {x3 : Int32} {s0 : Int32} {s1 : Int32} : ip_WP 113 31 [some (.ref x0), some (.int x1), some (.int x2), some (.int x3)] [.int s1, .int s0] (G, F, I, J) b post px ↔ if ¬ s0 = s1 then ip_WP 113 36 [some (.ref x0), some (.int x1), some (.int x2), some (.int x3)] [] (G, F, I, J) b post px else ip_WP 113 34 [some (.ref x0), some (.int x1), some (.int x2), some (.int x3)] [] (G, F, I, J) b post px := ip_s_ic_ne f113_31 rfl
theorem f113_34 : ip_fetch 113 34 = some (.iconst 1, 1) := by decide +kernel
theorem s113_34 {x0 : Nat} {x1 : Int32} {x2 : Int32} {x3 : Int32} : ip_WP 113 34 [some (.ref x0), some (.int x1), some (.int x2), some (.int x3)] [] (G, F, I, J) b post px ↔ ip_WP 113 35 [some (.ref x0), some (.int x1), some (.int x2), some (.int x3)] [.int 1] (G, F, I, J) b post px := ip_s_iconst f113_34 (by decide)
theorem f113_35 : ip_fetch 113 35 = some (.ireturn, 1) := by decide +kernel
theorem s113_35 {x0 : Nat} {x1 : Int32} {x2 : Int32} {x3 : Int32} {s0 : Int32} : ip_WP 113 35 [some (.ref x0), some (.int x1), some (.int x2), some (.int x3)] [.int s0] (G, F, I, J) b post px ↔ ((s0 = 0 ∨ s0 = 1) ∧ post (some (.int s0)) (G, F, I, J)) := ip_s_zret ((ip_st_of f113_35).trans rfl)
theorem f113_36 : ip_fetch 113 36 = some (.iinc 3 1, 3) := by decide +kernel
theorem s113_36 {x0 : Nat} {x1 : Int32} {x2 : Int32} {x3 : Int32} : ip_WP 113 36 [some (.ref x0), some (.int x1), some (.int x2), some (.int x3)] [] (G, F, I, J) b post px ↔ ip_WP 113 39 [some (.ref x0), some (.int x1), some (.int x2), some (.int (x3 + 1))] [] (G, F, I, J) b post px := ip_s_iinc f113_36 rfl (by decide)
theorem f113_39 : ip_fetch 113 39 = some (.goto (-37), 3) := by decide +kernel
theorem s113_39 {x0 : Nat} {x1 : Int32} {x2 : Int32} {x3 : Int32} : ip_WP 113 39 [some (.ref x0), some (.int x1), some (.int x2), some (.int x3)] [] (G, F, I, J) b post px ↔ ip_WP 113 2 [some (.ref x0), some (.int x1), some (.int x2), some (.int x3)] [] (G, F, I, J) b post px := ip_nx_iff ((ip_st_of f113_39).trans rfl)
theorem f113_42 : ip_fetch 113 42 = some (.iconst 0, 1) := by decide +kernel
theorem s113_42 {x0 : Nat} {x1 : Int32} {x2 : Int32} {x3 : Int32} : ip_WP 113 42 [some (.ref x0), some (.int x1), some (.int x2), some (.int x3)] [] (G, F, I, J) b post px ↔ ip_WP 113 43 [some (.ref x0), some (.int x1), some (.int x2), some (.int x3)] [.int 0] (G, F, I, J) b post px := ip_s_iconst f113_42 (by decide)
theorem f113_43 : ip_fetch 113 43 = some (.ireturn, 1) := by decide +kernel
theorem s113_43 {x0 : Nat} {x1 : Int32} {x2 : Int32} {x3 : Int32} {s0 : Int32} : ip_WP 113 43 [some (.ref x0), some (.int x1), some (.int x2), some (.int x3)] [.int s0] (G, F, I, J) b post px ↔ ((s0 = 0 ∨ s0 = 1) ∧ post (some (.int s0)) (G, F, I, J)) := ip_s_zret ((ip_st_of f113_43).trans rfl)
theorem f114_0 : ip_fetch 114 0 = some (.aload_n 0, 1) := by decide +kernel
theorem s114_0 {x0 : Nat} {x1 : Int32} {x2 : Int32} : ip_WP 114 0 [some (.ref x0), some (.int x1), some (.int x2)] [] (G, F, I, J) b post px ↔ ip_WP 114 1 [some (.ref x0), some (.int x1), some (.int x2)] [.ref x0] (G, F, I, J) b post px := ip_nx_iff ((ip_st_of f114_0).trans rfl)
theorem f114_1 : ip_fetch 114 1 = some (.getfield 59, 3) := by decide +kernel
set_option maxRecDepth 100000 in
theorem s114_1 {x0 : Nat} {x1 : Int32} {x2 : Int32} {s0 : Nat} : ip_WP 114 1 [some (.ref x0), some (.int x1), some (.int x2)] [.ref s0] (G, F, I, J) b post px ↔ (ip_isO G s0 3 = true ∧ ip_WP 114 4 [some (.ref x0), some (.int x1), some (.int x2)] [F s0 12] (G, F, I, J) b post px) := ip_s_getf f114_1 (by decide +kernel)
theorem f114_4 : ip_fetch 114 4 = some (.iload_n 1, 1) := by decide +kernel
theorem s114_4 {x0 : Nat} {x1 : Int32} {x2 : Int32} {s0 : Nat} : ip_WP 114 4 [some (.ref x0), some (.int x1), some (.int x2)] [.ref s0] (G, F, I, J) b post px ↔ ip_WP 114 5 [some (.ref x0), some (.int x1), some (.int x2)] [.int x1, .ref s0] (G, F, I, J) b post px := ip_nx_iff ((ip_st_of f114_4).trans rfl)
theorem f114_5 : ip_fetch 114 5 = some (.invokevirtual 77, 3) := by decide +kernel
set_option maxRecDepth 100000 in
theorem s114_5 {x0 : Nat} {x1 : Int32} {x2 : Int32} {s0 : Nat} {s1 : Int32} : ip_WP 114 5 [some (.ref x0), some (.int x1), some (.int x2)] [.int s1, .ref s0] (G, F, I, J) b post px ↔ (ip_isO G s0 9 = true ∧ ip_WP 191 0 [some (.ref s0), some (.int s1)] [] (G, F, I, J) (0, 0) (fun r h' => ip_WP 114 8 [some (.ref x0), some (.int x1), some (.int x2)] (r.toList ++ []) h' b post px) (fun _ _ => False)) := ip_ck_iff (x := ip_cl 191 [some (.ref s0), some (.int s1)] [] (0, 0) b) ((ip_st_of f114_5).trans rfl) (ip_cl_iff)
theorem f114_8 : ip_fetch 114 8 = some (.iload_n 2, 1) := by decide +kernel
theorem s114_8 {x0 : Nat} {x1 : Int32} {x2 : Int32} {s0 : Int32} : ip_WP 114 8 [some (.ref x0), some (.int x1), some (.int x2)] [.int s0] (G, F, I, J) b post px ↔ ip_WP 114 9 [some (.ref x0), some (.int x1), some (.int x2)] [.int x2, .int s0] (G, F, I, J) b post px := ip_nx_iff ((ip_st_of f114_8).trans rfl)
theorem f114_9 : ip_fetch 114 9 = some (.ishr, 1) := by decide +kernel
theorem s114_9 {x0 : Nat} {x1 : Int32} {x2 : Int32} {s0 : Int32} {s1 : Int32} : ip_WP 114 9 [some (.ref x0), some (.int x1), some (.int x2)] [.int s1, .int s0] (G, F, I, J) b post px ↔ ip_WP 114 10 [some (.ref x0), some (.int x1), some (.int x2)] [.int (s0 >>> (s1 &&& 31))] (G, F, I, J) b post px := ip_nx_iff ((ip_st_of f114_9).trans rfl)
theorem f114_10 : ip_fetch 114 10 = some (.iconst 1, 1) := by decide +kernel
theorem s114_10 {x0 : Nat} {x1 : Int32} {x2 : Int32} {s0 : Int32} : ip_WP 114 10 [some (.ref x0), some (.int x1), some (.int x2)] [.int s0] (G, F, I, J) b post px ↔ ip_WP 114 11 [some (.ref x0), some (.int x1), some (.int x2)] [.int 1, .int s0] (G, F, I, J) b post px := ip_s_iconst f114_10 (by decide)
theorem f114_11 : ip_fetch 114 11 = some (.iand, 1) := by decide +kernel
theorem s114_11 {x0 : Nat} {x1 : Int32} {x2 : Int32} {s0 : Int32} {s1 : Int32} : ip_WP 114 11 [some (.ref x0), some (.int x1), some (.int x2)] [.int s1, .int s0] (G, F, I, J) b post px ↔ ip_WP 114 12 [some (.ref x0), some (.int x1), some (.int x2)] [.int (s0 &&& s1)] (G, F, I, J) b post px := ip_nx_iff ((ip_st_of f114_11).trans rfl)
theorem f114_12 : ip_fetch 114 12 = some (.ifCond .eq 7, 3) := by decide +kernel
theorem s114_12 {x0 : Nat} {x1 : Int32} {x2 : Int32} {s0 : Int32} : ip_WP 114 12 [some (.ref x0), some (.int x1), some (.int x2)] [.int s0] (G, F, I, J) b post px ↔ if s0 = 0 then ip_WP 114 19 [some (.ref x0), some (.int x1), some (.int x2)] [] (G, F, I, J) b post px else ip_WP 114 15 [some (.ref x0), some (.int x1), some (.int x2)] [] (G, F, I, J) b post px := ip_s_if_eq f114_12 rfl
theorem f114_15 : ip_fetch 114 15 = some (.iconst 1, 1) := by decide +kernel
theorem s114_15 {x0 : Nat} {x1 : Int32} {x2 : Int32} : ip_WP 114 15 [some (.ref x0), some (.int x1), some (.int x2)] [] (G, F, I, J) b post px ↔ ip_WP 114 16 [some (.ref x0), some (.int x1), some (.int x2)] [.int 1] (G, F, I, J) b post px := ip_s_iconst f114_15 (by decide)
theorem f114_16 : ip_fetch 114 16 = some (.goto 4, 3) := by decide +kernel
theorem s114_16 {x0 : Nat} {x1 : Int32} {x2 : Int32} {s0 : Int32} : ip_WP 114 16 [some (.ref x0), some (.int x1), some (.int x2)] [.int s0] (G, F, I, J) b post px ↔ ip_WP 114 20 [some (.ref x0), some (.int x1), some (.int x2)] [.int s0] (G, F, I, J) b post px := ip_nx_iff ((ip_st_of f114_16).trans rfl)
theorem f114_19 : ip_fetch 114 19 = some (.iconst 0, 1) := by decide +kernel
theorem s114_19 {x0 : Nat} {x1 : Int32} {x2 : Int32} : ip_WP 114 19 [some (.ref x0), some (.int x1), some (.int x2)] [] (G, F, I, J) b post px ↔ ip_WP 114 20 [some (.ref x0), some (.int x1), some (.int x2)] [.int 0] (G, F, I, J) b post px := ip_s_iconst f114_19 (by decide)
theorem f114_20 : ip_fetch 114 20 = some (.ireturn, 1) := by decide +kernel
theorem s114_20 {x0 : Nat} {x1 : Int32} {x2 : Int32} {s0 : Int32} : ip_WP 114 20 [some (.ref x0), some (.int x1), some (.int x2)] [.int s0] (G, F, I, J) b post px ↔ ((s0 = 0 ∨ s0 = 1) ∧ post (some (.int s0)) (G, F, I, J)) := ip_s_zret ((ip_st_of f114_20).trans rfl)
theorem f115_0 : ip_fetch 115 0 = some (.aload_n 0, 1) := by decide +kernel
theorem s115_0 {x0 : Nat} {x1 : Int32} {x2 : Int32} : ip_WP 115 0 [some (.ref x0), some (.int x1), some (.int x2)] [] (G, F, I, J) b post px ↔ ip_WP 115 1 [some (.ref x0), some (.int x1), some (.int x2)] [.ref x0] (G, F, I, J) b post px := ip_nx_iff ((ip_st_of f115_0).trans rfl)
theorem f115_1 : ip_fetch 115 1 = some (.getfield 59, 3) := by decide +kernel
set_option maxRecDepth 100000 in
theorem s115_1 {x0 : Nat} {x1 : Int32} {x2 : Int32} {s0 : Nat} : ip_WP 115 1 [some (.ref x0), some (.int x1), some (.int x2)] [.ref s0] (G, F, I, J) b post px ↔ (ip_isO G s0 3 = true ∧ ip_WP 115 4 [some (.ref x0), some (.int x1), some (.int x2)] [F s0 12] (G, F, I, J) b post px) := ip_s_getf f115_1 (by decide +kernel)
theorem f115_4 : ip_fetch 115 4 = some (.iload_n 1, 1) := by decide +kernel
theorem s115_4 {x0 : Nat} {x1 : Int32} {x2 : Int32} {s0 : Nat} : ip_WP 115 4 [some (.ref x0), some (.int x1), some (.int x2)] [.ref s0] (G, F, I, J) b post px ↔ ip_WP 115 5 [some (.ref x0), some (.int x1), some (.int x2)] [.int x1, .ref s0] (G, F, I, J) b post px := ip_nx_iff ((ip_st_of f115_4).trans rfl)
theorem f115_5 : ip_fetch 115 5 = some (.aload_n 0, 1) := by decide +kernel
theorem s115_5 {x0 : Nat} {x1 : Int32} {x2 : Int32} {s0 : Nat} {s1 : Int32} : ip_WP 115 5 [some (.ref x0), some (.int x1), some (.int x2)] [.int s1, .ref s0] (G, F, I, J) b post px ↔ ip_WP 115 6 [some (.ref x0), some (.int x1), some (.int x2)] [.ref x0, .int s1, .ref s0] (G, F, I, J) b post px := ip_nx_iff ((ip_st_of f115_5).trans rfl)
theorem f115_6 : ip_fetch 115 6 = some (.getfield 59, 3) := by decide +kernel
set_option maxRecDepth 100000 in
theorem s115_6 {x0 : Nat} {x1 : Int32} {x2 : Int32} {s0 : Nat} {s1 : Int32} {s2 : Nat} : ip_WP 115 6 [some (.ref x0), some (.int x1), some (.int x2)] [.ref s2, .int s1, .ref s0] (G, F, I, J) b post px ↔ (ip_isO G s2 3 = true ∧ ip_WP 115 9 [some (.ref x0), some (.int x1), some (.int x2)] [F s2 12, .int s1, .ref s0] (G, F, I, J) b post px) := ip_s_getf f115_6 (by decide +kernel)
theorem f115_9 : ip_fetch 115 9 = some (.iload_n 1, 1) := by decide +kernel
theorem s115_9 {x0 : Nat} {x1 : Int32} {x2 : Int32} {s0 : Nat} {s1 : Int32} {s2 : Nat} : ip_WP 115 9 [some (.ref x0), some (.int x1), some (.int x2)] [.ref s2, .int s1, .ref s0] (G, F, I, J) b post px ↔ ip_WP 115 10 [some (.ref x0), some (.int x1), some (.int x2)] [.int x1, .ref s2, .int s1, .ref s0] (G, F, I, J) b post px := ip_nx_iff ((ip_st_of f115_9).trans rfl)
theorem f115_10 : ip_fetch 115 10 = some (.invokevirtual 77, 3) := by decide +kernel
set_option maxRecDepth 100000 in
theorem s115_10 {x0 : Nat} {x1 : Int32} {x2 : Int32} {s0 : Nat} {s1 : Int32} {s2 : Nat} {s3 : Int32} : ip_WP 115 10 [some (.ref x0), some (.int x1), some (.int x2)] [.int s3, .ref s2, .int s1, .ref s0] (G, F, I, J) b post px ↔ (ip_isO G s2 9 = true ∧ ip_WP 191 0 [some (.ref s2), some (.int s3)] [] (G, F, I, J) (0, 0) (fun r h' => ip_WP 115 13 [some (.ref x0), some (.int x1), some (.int x2)] (r.toList ++ [.int s1, .ref s0]) h' b post px) (fun _ _ => False)) := ip_ck_iff (x := ip_cl 191 [some (.ref s2), some (.int s3)] [.int s1, .ref s0] (0, 0) b) ((ip_st_of f115_10).trans rfl) (ip_cl_iff)
theorem f115_13 : ip_fetch 115 13 = some (.iconst 1, 1) := by decide +kernel
theorem s115_13 {x0 : Nat} {x1 : Int32} {x2 : Int32} {s0 : Nat} {s1 : Int32} {s2 : Int32} : ip_WP 115 13 [some (.ref x0), some (.int x1), some (.int x2)] [.int s2, .int s1, .ref s0] (G, F, I, J) b post px ↔ ip_WP 115 14 [some (.ref x0), some (.int x1), some (.int x2)] [.int 1, .int s2, .int s1, .ref s0] (G, F, I, J) b post px := ip_s_iconst f115_13 (by decide)
theorem f115_14 : ip_fetch 115 14 = some (.iload_n 2, 1) := by decide +kernel
theorem s115_14 {x0 : Nat} {x1 : Int32} {x2 : Int32} {s0 : Nat} {s1 : Int32} {s2 : Int32} {s3 : Int32} : ip_WP 115 14 [some (.ref x0), some (.int x1), some (.int x2)] [.int s3, .int s2, .int s1, .ref s0] (G, F, I, J) b post px ↔ ip_WP 115 15 [some (.ref x0), some (.int x1), some (.int x2)] [.int x2, .int s3, .int s2, .int s1, .ref s0] (G, F, I, J) b post px := ip_nx_iff ((ip_st_of f115_14).trans rfl)
theorem f115_15 : ip_fetch 115 15 = some (.ishl, 1) := by decide +kernel
theorem s115_15 {x0 : Nat} {x1 : Int32} {x2 : Int32} {s0 : Nat} {s1 : Int32} {s2 : Int32} {s3 : Int32} {s4 : Int32} : ip_WP 115 15 [some (.ref x0), some (.int x1), some (.int x2)] [.int s4, .int s3, .int s2, .int s1, .ref s0] (G, F, I, J) b post px ↔ ip_WP 115 16 [some (.ref x0), some (.int x1), some (.int x2)] [.int (s3 <<< (s4 &&& 31)), .int s2, .int s1, .ref s0] (G, F, I, J) b post px := ip_nx_iff ((ip_st_of f115_15).trans rfl)
theorem f115_16 : ip_fetch 115 16 = some (.ior, 1) := by decide +kernel
theorem s115_16 {x0 : Nat} {x1 : Int32} {x2 : Int32} {s0 : Nat} {s1 : Int32} {s2 : Int32} {s3 : Int32} : ip_WP 115 16 [some (.ref x0), some (.int x1), some (.int x2)] [.int s3, .int s2, .int s1, .ref s0] (G, F, I, J) b post px ↔ ip_WP 115 17 [some (.ref x0), some (.int x1), some (.int x2)] [.int (s2 ||| s3), .int s1, .ref s0] (G, F, I, J) b post px := ip_nx_iff ((ip_st_of f115_16).trans rfl)
theorem f115_17 : ip_fetch 115 17 = some (.invokevirtual 81, 3) := by decide +kernel
set_option maxRecDepth 100000 in
theorem s115_17 {x0 : Nat} {x1 : Int32} {x2 : Int32} {s0 : Nat} {s1 : Int32} {s2 : Int32} : ip_WP 115 17 [some (.ref x0), some (.int x1), some (.int x2)] [.int s2, .int s1, .ref s0] (G, F, I, J) b post px ↔ (ip_isO G s0 9 = true ∧ ip_WP 192 0 [some (.ref s0), some (.int s1), some (.int s2)] [] (G, F, I, J) (0, 0) (fun r h' => ip_WP 115 20 [some (.ref x0), some (.int x1), some (.int x2)] (r.toList ++ []) h' b post px) (fun _ _ => False)) := ip_ck_iff (x := ip_cl 192 [some (.ref s0), some (.int s1), some (.int s2)] [] (0, 0) b) ((ip_st_of f115_17).trans rfl) (ip_cl_iff)
theorem f115_20 : ip_fetch 115 20 = some (.return_, 1) := by decide +kernel
theorem s115_20 {x0 : Nat} {x1 : Int32} {x2 : Int32} : ip_WP 115 20 [some (.ref x0), some (.int x1), some (.int x2)] [] (G, F, I, J) b post px ↔ post none (G, F, I, J) := ip_rt_iff ((ip_st_of f115_20).trans rfl)
theorem f116_0 : ip_fetch 116 0 = some (.iconst 0, 1) := by decide +kernel
theorem s116_0 {x0 : Nat} {x1 : Int32} {x2 : Option Value} {x3 : Option Value} : ip_WP 116 0 [some (.ref x0), some (.int x1), x2, x3] [] (G, F, I, J) b post px ↔ ip_WP 116 1 [some (.ref x0), some (.int x1), x2, x3] [.int 0] (G, F, I, J) b post px := ip_s_iconst f116_0 (by decide)
theorem f116_1 : ip_fetch 116 1 = some (.istore_n 2, 1) := by decide +kernel
theorem s116_1 {x0 : Nat} {x1 : Int32} {x2 : Option Value} {x3 : Option Value} {s0 : Int32} : ip_WP 116 1 [some (.ref x0), some (.int x1), x2, x3] [.int s0] (G, F, I, J) b post px ↔ ip_WP 116 2 [some (.ref x0), some (.int x1), some (.int s0), x3] [] (G, F, I, J) b post px := ip_nx_iff ((ip_st_of f116_1).trans rfl)
theorem f116_2 : ip_fetch 116 2 = some (.iconst 0, 1) := by decide +kernel
theorem s116_2 {x0 : Nat} {x1 : Int32} {x2 : Int32} {x3 : Option Value} : ip_WP 116 2 [some (.ref x0), some (.int x1), some (.int x2), x3] [] (G, F, I, J) b post px ↔ ip_WP 116 3 [some (.ref x0), some (.int x1), some (.int x2), x3] [.int 0] (G, F, I, J) b post px := ip_s_iconst f116_2 (by decide)
theorem f116_3 : ip_fetch 116 3 = some (.istore_n 3, 1) := by decide +kernel
theorem s116_3 {x0 : Nat} {x1 : Int32} {x2 : Int32} {x3 : Option Value} {s0 : Int32} : ip_WP 116 3 [some (.ref x0), some (.int x1), some (.int x2), x3] [.int s0] (G, F, I, J) b post px ↔ ip_WP 116 4 [some (.ref x0), some (.int x1), some (.int x2), some (.int s0)] [] (G, F, I, J) b post px := ip_nx_iff ((ip_st_of f116_3).trans rfl)
theorem f116_4 : ip_fetch 116 4 = some (.iload_n 3, 1) := by decide +kernel
theorem s116_4 {x0 : Nat} {x1 : Int32} {x2 : Int32} {x3 : Int32} : ip_WP 116 4 [some (.ref x0), some (.int x1), some (.int x2), some (.int x3)] [] (G, F, I, J) b post px ↔ ip_WP 116 5 [some (.ref x0), some (.int x1), some (.int x2), some (.int x3)] [.int x3] (G, F, I, J) b post px := ip_nx_iff ((ip_st_of f116_4).trans rfl)
theorem f116_5 : ip_fetch 116 5 = some (.aload_n 0, 1) := by decide +kernel
theorem s116_5 {x0 : Nat} {x1 : Int32} {x2 : Int32} {x3 : Int32} {s0 : Int32} : ip_WP 116 5 [some (.ref x0), some (.int x1), some (.int x2), some (.int x3)] [.int s0] (G, F, I, J) b post px ↔ ip_WP 116 6 [some (.ref x0), some (.int x1), some (.int x2), some (.int x3)] [.ref x0, .int s0] (G, F, I, J) b post px := ip_nx_iff ((ip_st_of f116_5).trans rfl)
theorem f116_6 : ip_fetch 116 6 = some (.getfield 26, 3) := by decide +kernel
set_option maxRecDepth 100000 in
theorem s116_6 {x0 : Nat} {x1 : Int32} {x2 : Int32} {x3 : Int32} {s0 : Int32} {s1 : Nat} : ip_WP 116 6 [some (.ref x0), some (.int x1), some (.int x2), some (.int x3)] [.ref s1, .int s0] (G, F, I, J) b post px ↔ (ip_isO G s1 3 = true ∧ ip_WP 116 9 [some (.ref x0), some (.int x1), some (.int x2), some (.int x3)] [F s1 3, .int s0] (G, F, I, J) b post px) := ip_s_getf f116_6 (by decide +kernel)
theorem f116_9 : ip_fetch 116 9 = some (.invokevirtual 84, 3) := by decide +kernel
set_option maxRecDepth 100000 in
theorem s116_9 {x0 : Nat} {x1 : Int32} {x2 : Int32} {x3 : Int32} {s0 : Int32} {s1 : Nat} : ip_WP 116 9 [some (.ref x0), some (.int x1), some (.int x2), some (.int x3)] [.ref s1, .int s0] (G, F, I, J) b post px ↔ (ip_isO G s1 6 = true ∧ ip_WP 143 0 [some (.ref s1)] [] (G, F, I, J) (0, 0) (fun r h' => ip_WP 116 12 [some (.ref x0), some (.int x1), some (.int x2), some (.int x3)] (r.toList ++ [.int s0]) h' b post px) (fun _ _ => False)) := ip_ck_iff (x := ip_cl 143 [some (.ref s1)] [.int s0] (0, 0) b) ((ip_st_of f116_9).trans rfl) (ip_cl_iff)
theorem f116_12 : ip_fetch 116 12 = some (.if_icmp .ge 21, 3) := by decide +kernel
theorem s116_12 {x0 : Nat} {x1 : Int32} {x2 : Int32} {x3 : Int32} {s0 : Int32} {s1 : Int32} : ip_WP 116 12 [some (.ref x0), some (.int x1), some (.int x2), some (.int x3)] [.int s1, .int s0] (G, F, I, J) b post px ↔ if s1 ≤ s0 then ip_WP 116 33 [some (.ref x0), some (.int x1), some (.int x2), some (.int x3)] [] (G, F, I, J) b post px else ip_WP 116 15 [some (.ref x0), some (.int x1), some (.int x2), some (.int x3)] [] (G, F, I, J) b post px := ip_s_ic_ge f116_12 rfl
theorem f116_15 : ip_fetch 116 15 = some (.aload_n 0, 1) := by decide +kernel
theorem s116_15 {x0 : Nat} {x1 : Int32} {x2 : Int32} {x3 : Int32} : ip_WP 116 15 [some (.ref x0), some (.int x1), some (.int x2), some (.int x3)] [] (G, F, I, J) b post px ↔ ip_WP 116 16 [some (.ref x0), some (.int x1), some (.int x2), some (.int x3)] [.ref x0] (G, F, I, J) b post px := ip_nx_iff ((ip_st_of f116_15).trans rfl)
theorem f116_16 : ip_fetch 116 16 = some (.iload_n 3, 1) := by decide +kernel
theorem s116_16 {x0 : Nat} {x1 : Int32} {x2 : Int32} {x3 : Int32} {s0 : Nat} : ip_WP 116 16 [some (.ref x0), some (.int x1), some (.int x2), some (.int x3)] [.ref s0] (G, F, I, J) b post px ↔ ip_WP 116 17 [some (.ref x0), some (.int x1), some (.int x2), some (.int x3)] [.int x3, .ref s0] (G, F, I, J) b post px := ip_nx_iff ((ip_st_of f116_16).trans rfl)
theorem f116_17 : ip_fetch 116 17 = some (.iload_n 1, 1) := by decide +kernel
theorem s116_17 {x0 : Nat} {x1 : Int32} {x2 : Int32} {x3 : Int32} {s0 : Nat} {s1 : Int32} : ip_WP 116 17 [some (.ref x0), some (.int x1), some (.int x2), some (.int x3)] [.int s1, .ref s0] (G, F, I, J) b post px ↔ ip_WP 116 18 [some (.ref x0), some (.int x1), some (.int x2), some (.int x3)] [.int x1, .int s1, .ref s0] (G, F, I, J) b post px := ip_nx_iff ((ip_st_of f116_17).trans rfl)
theorem f116_18 : ip_fetch 116 18 = some (.invokevirtual 88, 3) := by decide +kernel
set_option maxRecDepth 100000 in
theorem s116_18 {x0 : Nat} {x1 : Int32} {x2 : Int32} {x3 : Int32} {s0 : Nat} {s1 : Int32} {s2 : Int32} : ip_WP 116 18 [some (.ref x0), some (.int x1), some (.int x2), some (.int x3)] [.int s2, .int s1, .ref s0] (G, F, I, J) b post px ↔ (ip_isO G s0 3 = true ∧ ip_WP 114 0 [some (.ref s0), some (.int s1), some (.int s2)] [] (G, F, I, J) (0, 0) (fun r h' => ip_WP 116 21 [some (.ref x0), some (.int x1), some (.int x2), some (.int x3)] (r.toList ++ []) h' b post px) (fun _ _ => False)) := ip_ck_iff (x := ip_cl 114 [some (.ref s0), some (.int s1), some (.int s2)] [] (0, 0) b) ((ip_st_of f116_18).trans rfl) (ip_cl_iff)
theorem f116_21 : ip_fetch 116 21 = some (.ifCond .eq 6, 3) := by decide +kernel
theorem s116_21 {x0 : Nat} {x1 : Int32} {x2 : Int32} {x3 : Int32} {s0 : Int32} : ip_WP 116 21 [some (.ref x0), some (.int x1), some (.int x2), some (.int x3)] [.int s0] (G, F, I, J) b post px ↔ if s0 = 0 then ip_WP 116 27 [some (.ref x0), some (.int x1), some (.int x2), some (.int x3)] [] (G, F, I, J) b post px else ip_WP 116 24 [some (.ref x0), some (.int x1), some (.int x2), some (.int x3)] [] (G, F, I, J) b post px := ip_s_if_eq f116_21 rfl
theorem f116_24 : ip_fetch 116 24 = some (.iinc 2 1, 3) := by decide +kernel
theorem s116_24 {x0 : Nat} {x1 : Int32} {x2 : Int32} {x3 : Int32} : ip_WP 116 24 [some (.ref x0), some (.int x1), some (.int x2), some (.int x3)] [] (G, F, I, J) b post px ↔ ip_WP 116 27 [some (.ref x0), some (.int x1), some (.int (x2 + 1)), some (.int x3)] [] (G, F, I, J) b post px := ip_s_iinc f116_24 rfl (by decide)
theorem f116_27 : ip_fetch 116 27 = some (.iinc 3 1, 3) := by decide +kernel
theorem s116_27 {x0 : Nat} {x1 : Int32} {x2 : Int32} {x3 : Int32} : ip_WP 116 27 [some (.ref x0), some (.int x1), some (.int x2), some (.int x3)] [] (G, F, I, J) b post px ↔ ip_WP 116 30 [some (.ref x0), some (.int x1), some (.int x2), some (.int (x3 + 1))] [] (G, F, I, J) b post px := ip_s_iinc f116_27 rfl (by decide)
theorem f116_30 : ip_fetch 116 30 = some (.goto (-26), 3) := by decide +kernel
theorem s116_30 {x0 : Nat} {x1 : Int32} {x2 : Int32} {x3 : Int32} : ip_WP 116 30 [some (.ref x0), some (.int x1), some (.int x2), some (.int x3)] [] (G, F, I, J) b post px ↔ ip_WP 116 4 [some (.ref x0), some (.int x1), some (.int x2), some (.int x3)] [] (G, F, I, J) b post px := ip_nx_iff ((ip_st_of f116_30).trans rfl)
theorem f116_33 : ip_fetch 116 33 = some (.iload_n 2, 1) := by decide +kernel
theorem s116_33 {x0 : Nat} {x1 : Int32} {x2 : Int32} {x3 : Int32} : ip_WP 116 33 [some (.ref x0), some (.int x1), some (.int x2), some (.int x3)] [] (G, F, I, J) b post px ↔ ip_WP 116 34 [some (.ref x0), some (.int x1), some (.int x2), some (.int x3)] [.int x2] (G, F, I, J) b post px := ip_nx_iff ((ip_st_of f116_33).trans rfl)
theorem f116_34 : ip_fetch 116 34 = some (.ireturn, 1) := by decide +kernel
theorem s116_34 {x0 : Nat} {x1 : Int32} {x2 : Int32} {x3 : Int32} {s0 : Int32} : ip_WP 116 34 [some (.ref x0), some (.int x1), some (.int x2), some (.int x3)] [.int s0] (G, F, I, J) b post px ↔ post (some (.int s0)) (G, F, I, J) := ip_rt_iff ((ip_st_of f116_34).trans rfl)
theorem f117_0 : ip_fetch 117 0 = some (.iconst 0, 1) := by decide +kernel
theorem s117_0 {x0 : Nat} {x1 : Int32} {x2 : Option Value} : ip_WP 117 0 [some (.ref x0), some (.int x1), x2] [] (G, F, I, J) b post px ↔ ip_WP 117 1 [some (.ref x0), some (.int x1), x2] [.int 0] (G, F, I, J) b post px := ip_s_iconst f117_0 (by decide)
theorem f117_1 : ip_fetch 117 1 = some (.istore_n 2, 1) := by decide +kernel
theorem s117_1 {x0 : Nat} {x1 : Int32} {x2 : Option Value} {s0 : Int32} : ip_WP 117 1 [some (.ref x0), some (.int x1), x2] [.int s0] (G, F, I, J) b post px ↔ ip_WP 117 2 [some (.ref x0), some (.int x1), some (.int s0)] [] (G, F, I, J) b post px := ip_nx_iff ((ip_st_of f117_1).trans rfl)
theorem f117_2 : ip_fetch 117 2 = some (.iload_n 2, 1) := by decide +kernel
theorem s117_2 {x0 : Nat} {x1 : Int32} {x2 : Int32} : ip_WP 117 2 [some (.ref x0), some (.int x1), some (.int x2)] [] (G, F, I, J) b post px ↔ ip_WP 117 3 [some (.ref x0), some (.int x1), some (.int x2)] [.int x2] (G, F, I, J) b post px := ip_nx_iff ((ip_st_of f117_2).trans rfl)
theorem f117_3 : ip_fetch 117 3 = some (.aload_n 0, 1) := by decide +kernel
theorem s117_3 {x0 : Nat} {x1 : Int32} {x2 : Int32} {s0 : Int32} : ip_WP 117 3 [some (.ref x0), some (.int x1), some (.int x2)] [.int s0] (G, F, I, J) b post px ↔ ip_WP 117 4 [some (.ref x0), some (.int x1), some (.int x2)] [.ref x0, .int s0] (G, F, I, J) b post px := ip_nx_iff ((ip_st_of f117_3).trans rfl)
theorem f117_4 : ip_fetch 117 4 = some (.getfield 16, 3) := by decide +kernel
set_option maxRecDepth 100000 in
theorem s117_4 {x0 : Nat} {x1 : Int32} {x2 : Int32} {s0 : Int32} {s1 : Nat} : ip_WP 117 4 [some (.ref x0), some (.int x1), some (.int x2)] [.ref s1, .int s0] (G, F, I, J) b post px ↔ (ip_isO G s1 3 = true ∧ ip_WP 117 7 [some (.ref x0), some (.int x1), some (.int x2)] [F s1 0, .int s0] (G, F, I, J) b post px) := ip_s_getf f117_4 (by decide +kernel)
theorem f117_7 : ip_fetch 117 7 = some (.invokevirtual 84, 3) := by decide +kernel
set_option maxRecDepth 100000 in
theorem s117_7 {x0 : Nat} {x1 : Int32} {x2 : Int32} {s0 : Int32} {s1 : Nat} : ip_WP 117 7 [some (.ref x0), some (.int x1), some (.int x2)] [.ref s1, .int s0] (G, F, I, J) b post px ↔ (ip_isO G s1 6 = true ∧ ip_WP 143 0 [some (.ref s1)] [] (G, F, I, J) (0, 0) (fun r h' => ip_WP 117 10 [some (.ref x0), some (.int x1), some (.int x2)] (r.toList ++ [.int s0]) h' b post px) (fun _ _ => False)) := ip_ck_iff (x := ip_cl 143 [some (.ref s1)] [.int s0] (0, 0) b) ((ip_st_of f117_7).trans rfl) (ip_cl_iff)
theorem f117_10 : ip_fetch 117 10 = some (.if_icmp .ge 23, 3) := by decide +kernel
theorem s117_10 {x0 : Nat} {x1 : Int32} {x2 : Int32} {s0 : Int32} {s1 : Int32} : ip_WP 117 10 [some (.ref x0), some (.int x1), some (.int x2)] [.int s1, .int s0] (G, F, I, J) b post px ↔ if s1 ≤ s0 then ip_WP 117 33 [some (.ref x0), some (.int x1), some (.int x2)] [] (G, F, I, J) b post px else ip_WP 117 13 [some (.ref x0), some (.int x1), some (.int x2)] [] (G, F, I, J) b post px := ip_s_ic_ge f117_10 rfl
theorem f117_13 : ip_fetch 117 13 = some (.aload_n 0, 1) := by decide +kernel
theorem s117_13 {x0 : Nat} {x1 : Int32} {x2 : Int32} : ip_WP 117 13 [some (.ref x0), some (.int x1), some (.int x2)] [] (G, F, I, J) b post px ↔ ip_WP 117 14 [some (.ref x0), some (.int x1), some (.int x2)] [.ref x0] (G, F, I, J) b post px := ip_nx_iff ((ip_st_of f117_13).trans rfl)
theorem f117_14 : ip_fetch 117 14 = some (.getfield 38, 3) := by decide +kernel
set_option maxRecDepth 100000 in
theorem s117_14 {x0 : Nat} {x1 : Int32} {x2 : Int32} {s0 : Nat} : ip_WP 117 14 [some (.ref x0), some (.int x1), some (.int x2)] [.ref s0] (G, F, I, J) b post px ↔ (ip_isO G s0 3 = true ∧ ip_WP 117 17 [some (.ref x0), some (.int x1), some (.int x2)] [F s0 5] (G, F, I, J) b post px) := ip_s_getf f117_14 (by decide +kernel)
theorem f117_17 : ip_fetch 117 17 = some (.iload_n 2, 1) := by decide +kernel
theorem s117_17 {x0 : Nat} {x1 : Int32} {x2 : Int32} {s0 : Nat} : ip_WP 117 17 [some (.ref x0), some (.int x1), some (.int x2)] [.ref s0] (G, F, I, J) b post px ↔ ip_WP 117 18 [some (.ref x0), some (.int x1), some (.int x2)] [.int x2, .ref s0] (G, F, I, J) b post px := ip_nx_iff ((ip_st_of f117_17).trans rfl)
theorem f117_18 : ip_fetch 117 18 = some (.invokevirtual 77, 3) := by decide +kernel
set_option maxRecDepth 100000 in
theorem s117_18 {x0 : Nat} {x1 : Int32} {x2 : Int32} {s0 : Nat} {s1 : Int32} : ip_WP 117 18 [some (.ref x0), some (.int x1), some (.int x2)] [.int s1, .ref s0] (G, F, I, J) b post px ↔ (ip_isO G s0 9 = true ∧ ip_WP 191 0 [some (.ref s0), some (.int s1)] [] (G, F, I, J) (0, 0) (fun r h' => ip_WP 117 21 [some (.ref x0), some (.int x1), some (.int x2)] (r.toList ++ []) h' b post px) (fun _ _ => False)) := ip_ck_iff (x := ip_cl 191 [some (.ref s0), some (.int s1)] [] (0, 0) b) ((ip_st_of f117_18).trans rfl) (ip_cl_iff)
theorem f117_21 : ip_fetch 117 21 = some (.iload_n 1, 1) := by decide +kernel
theorem s117_21 {x0 : Nat} {x1 : Int32} {x2 : Int32} {s0 : Int32} : ip_WP 117 21 [some (.ref x0), some (.int x1), some (.int x2)] [.int s0] (G, F, I, J) b post px ↔ ip_WP 117 22 [some (.ref x0), some (.int x1), some (.int x2)] [.int x1, .int s0] (G, F, I, J) b post px := ip_nx_iff ((ip_st_of f117_21).trans rfl)
theorem f117_22 : ip_fetch 117 22 = some (.if_icmp .ne 5, 3) := by decide +kernel
theorem s117_22 {x0 : Nat} {x1 : Int32} {x2 : Int32} {s0 : Int32} {s1 : Int32} : ip_WP 117 22 [some (.ref x0), some (.int x1), some (.int x2)] [.int s1, .int s0] (G, F, I, J) b post px ↔ if ¬ s0 = s1 then ip_WP 117 27 [some (.ref x0), some (.int x1), some (.int x2)] [] (G, F, I, J) b post px else ip_WP 117 25 [some (.ref x0), some (.int x1), some (.int x2)] [] (G, F, I, J) b post px := ip_s_ic_ne f117_22 rfl
theorem f117_25 : ip_fetch 117 25 = some (.iconst 1, 1) := by decide +kernel
theorem s117_25 {x0 : Nat} {x1 : Int32} {x2 : Int32} : ip_WP 117 25 [some (.ref x0), some (.int x1), some (.int x2)] [] (G, F, I, J) b post px ↔ ip_WP 117 26 [some (.ref x0), some (.int x1), some (.int x2)] [.int 1] (G, F, I, J) b post px := ip_s_iconst f117_25 (by decide)
theorem f117_26 : ip_fetch 117 26 = some (.ireturn, 1) := by decide +kernel
theorem s117_26 {x0 : Nat} {x1 : Int32} {x2 : Int32} {s0 : Int32} : ip_WP 117 26 [some (.ref x0), some (.int x1), some (.int x2)] [.int s0] (G, F, I, J) b post px ↔ ((s0 = 0 ∨ s0 = 1) ∧ post (some (.int s0)) (G, F, I, J)) := ip_s_zret ((ip_st_of f117_26).trans rfl)
theorem f117_27 : ip_fetch 117 27 = some (.iinc 2 1, 3) := by decide +kernel
theorem s117_27 {x0 : Nat} {x1 : Int32} {x2 : Int32} : ip_WP 117 27 [some (.ref x0), some (.int x1), some (.int x2)] [] (G, F, I, J) b post px ↔ ip_WP 117 30 [some (.ref x0), some (.int x1), some (.int (x2 + 1))] [] (G, F, I, J) b post px := ip_s_iinc f117_27 rfl (by decide)
theorem f117_30 : ip_fetch 117 30 = some (.goto (-28), 3) := by decide +kernel
theorem s117_30 {x0 : Nat} {x1 : Int32} {x2 : Int32} : ip_WP 117 30 [some (.ref x0), some (.int x1), some (.int x2)] [] (G, F, I, J) b post px ↔ ip_WP 117 2 [some (.ref x0), some (.int x1), some (.int x2)] [] (G, F, I, J) b post px := ip_nx_iff ((ip_st_of f117_30).trans rfl)
theorem f117_33 : ip_fetch 117 33 = some (.iconst 0, 1) := by decide +kernel
theorem s117_33 {x0 : Nat} {x1 : Int32} {x2 : Int32} : ip_WP 117 33 [some (.ref x0), some (.int x1), some (.int x2)] [] (G, F, I, J) b post px ↔ ip_WP 117 34 [some (.ref x0), some (.int x1), some (.int x2)] [.int 0] (G, F, I, J) b post px := ip_s_iconst f117_33 (by decide)
theorem f117_34 : ip_fetch 117 34 = some (.ireturn, 1) := by decide +kernel
theorem s117_34 {x0 : Nat} {x1 : Int32} {x2 : Int32} {s0 : Int32} : ip_WP 117 34 [some (.ref x0), some (.int x1), some (.int x2)] [.int s0] (G, F, I, J) b post px ↔ ((s0 = 0 ∨ s0 = 1) ∧ post (some (.int s0)) (G, F, I, J)) := ip_s_zret ((ip_st_of f117_34).trans rfl)
theorem f118_0 : ip_fetch 118 0 = some (.iconst 0, 1) := by decide +kernel
theorem s118_0 {x0 : Nat} {x1 : Int32} {x2 : Option Value} : ip_WP 118 0 [some (.ref x0), some (.int x1), x2] [] (G, F, I, J) b post px ↔ ip_WP 118 1 [some (.ref x0), some (.int x1), x2] [.int 0] (G, F, I, J) b post px := ip_s_iconst f118_0 (by decide)
theorem f118_1 : ip_fetch 118 1 = some (.istore_n 2, 1) := by decide +kernel
theorem s118_1 {x0 : Nat} {x1 : Int32} {x2 : Option Value} {s0 : Int32} : ip_WP 118 1 [some (.ref x0), some (.int x1), x2] [.int s0] (G, F, I, J) b post px ↔ ip_WP 118 2 [some (.ref x0), some (.int x1), some (.int s0)] [] (G, F, I, J) b post px := ip_nx_iff ((ip_st_of f118_1).trans rfl)
theorem f118_2 : ip_fetch 118 2 = some (.iload_n 2, 1) := by decide +kernel
theorem s118_2 {x0 : Nat} {x1 : Int32} {x2 : Int32} : ip_WP 118 2 [some (.ref x0), some (.int x1), some (.int x2)] [] (G, F, I, J) b post px ↔ ip_WP 118 3 [some (.ref x0), some (.int x1), some (.int x2)] [.int x2] (G, F, I, J) b post px := ip_nx_iff ((ip_st_of f118_2).trans rfl)
theorem f118_3 : ip_fetch 118 3 = some (.bipush 7, 2) := by decide +kernel
theorem s118_3 {x0 : Nat} {x1 : Int32} {x2 : Int32} {s0 : Int32} : ip_WP 118 3 [some (.ref x0), some (.int x1), some (.int x2)] [.int s0] (G, F, I, J) b post px ↔ ip_WP 118 5 [some (.ref x0), some (.int x1), some (.int x2)] [.int 7, .int s0] (G, F, I, J) b post px := ip_s_bipush f118_3 (by decide)
theorem f118_5 : ip_fetch 118 5 = some (.if_icmp .ge 20, 3) := by decide +kernel
theorem s118_5 {x0 : Nat} {x1 : Int32} {x2 : Int32} {s0 : Int32} {s1 : Int32} : ip_WP 118 5 [some (.ref x0), some (.int x1), some (.int x2)] [.int s1, .int s0] (G, F, I, J) b post px ↔ if s1 ≤ s0 then ip_WP 118 25 [some (.ref x0), some (.int x1), some (.int x2)] [] (G, F, I, J) b post px else ip_WP 118 8 [some (.ref x0), some (.int x1), some (.int x2)] [] (G, F, I, J) b post px := ip_s_ic_ge f118_5 rfl
theorem f118_8 : ip_fetch 118 8 = some (.aload_n 0, 1) := by decide +kernel
theorem s118_8 {x0 : Nat} {x1 : Int32} {x2 : Int32} : ip_WP 118 8 [some (.ref x0), some (.int x1), some (.int x2)] [] (G, F, I, J) b post px ↔ ip_WP 118 9 [some (.ref x0), some (.int x1), some (.int x2)] [.ref x0] (G, F, I, J) b post px := ip_nx_iff ((ip_st_of f118_8).trans rfl)
theorem f118_9 : ip_fetch 118 9 = some (.iload_n 1, 1) := by decide +kernel
theorem s118_9 {x0 : Nat} {x1 : Int32} {x2 : Int32} {s0 : Nat} : ip_WP 118 9 [some (.ref x0), some (.int x1), some (.int x2)] [.ref s0] (G, F, I, J) b post px ↔ ip_WP 118 10 [some (.ref x0), some (.int x1), some (.int x2)] [.int x1, .ref s0] (G, F, I, J) b post px := ip_nx_iff ((ip_st_of f118_9).trans rfl)
theorem f118_10 : ip_fetch 118 10 = some (.iload_n 2, 1) := by decide +kernel
theorem s118_10 {x0 : Nat} {x1 : Int32} {x2 : Int32} {s0 : Nat} {s1 : Int32} : ip_WP 118 10 [some (.ref x0), some (.int x1), some (.int x2)] [.int s1, .ref s0] (G, F, I, J) b post px ↔ ip_WP 118 11 [some (.ref x0), some (.int x1), some (.int x2)] [.int x2, .int s1, .ref s0] (G, F, I, J) b post px := ip_nx_iff ((ip_st_of f118_10).trans rfl)
theorem f118_11 : ip_fetch 118 11 = some (.invokevirtual 92, 3) := by decide +kernel
set_option maxRecDepth 100000 in
theorem s118_11 {x0 : Nat} {x1 : Int32} {x2 : Int32} {s0 : Nat} {s1 : Int32} {s2 : Int32} : ip_WP 118 11 [some (.ref x0), some (.int x1), some (.int x2)] [.int s2, .int s1, .ref s0] (G, F, I, J) b post px ↔ (ip_isO G s0 3 = true ∧ ip_WP 109 0 [some (.ref s0), some (.int s1), some (.int s2)] [] (G, F, I, J) (0, 0) (fun r h' => ip_WP 118 14 [some (.ref x0), some (.int x1), some (.int x2)] (r.toList ++ []) h' b post px) (fun _ _ => False)) := ip_ck_iff (x := ip_cl 109 [some (.ref s0), some (.int s1), some (.int s2)] [] (0, 0) b) ((ip_st_of f118_11).trans rfl) (ip_cl_iff)
theorem f118_14 : ip_fetch 118 14 = some (.ifCond .eq 5, 3) := by decide +kernel
theorem s118_14 {x0 : Nat} {x1 : Int32} {x2 : Int32} {s0 : Int32} : ip_WP 118 14 [some (.ref x0), some (.int x1), some (.int x2)] [.int s0] (G, F, I, J) b post px ↔ if s0 = 0 then ip_WP 118 19 [some (.ref x0), some (.int x1), some (.int x2)] [] (G, F, I, J) b post px else ip_WP 118 17 [some (.ref x0), some (.int x1), some (.int x2)] [] (G, F, I, J) b post px := ip_s_if_eq f118_14 rfl
theorem f118_17 : ip_fetch 118 17 = some (.iconst 0, 1) := by decide +kernel
theorem s118_17 {x0 : Nat} {x1 : Int32} {x2 : Int32} : ip_WP 118 17 [some (.ref x0), some (.int x1), some (.int x2)] [] (G, F, I, J) b post px ↔ ip_WP 118 18 [some (.ref x0), some (.int x1), some (.int x2)] [.int 0] (G, F, I, J) b post px := ip_s_iconst f118_17 (by decide)
theorem f118_18 : ip_fetch 118 18 = some (.ireturn, 1) := by decide +kernel
theorem s118_18 {x0 : Nat} {x1 : Int32} {x2 : Int32} {s0 : Int32} : ip_WP 118 18 [some (.ref x0), some (.int x1), some (.int x2)] [.int s0] (G, F, I, J) b post px ↔ ((s0 = 0 ∨ s0 = 1) ∧ post (some (.int s0)) (G, F, I, J)) := ip_s_zret ((ip_st_of f118_18).trans rfl)
theorem f118_19 : ip_fetch 118 19 = some (.iinc 2 1, 3) := by decide +kernel
theorem s118_19 {x0 : Nat} {x1 : Int32} {x2 : Int32} : ip_WP 118 19 [some (.ref x0), some (.int x1), some (.int x2)] [] (G, F, I, J) b post px ↔ ip_WP 118 22 [some (.ref x0), some (.int x1), some (.int (x2 + 1))] [] (G, F, I, J) b post px := ip_s_iinc f118_19 rfl (by decide)
theorem f118_22 : ip_fetch 118 22 = some (.goto (-20), 3) := by decide +kernel
theorem s118_22 {x0 : Nat} {x1 : Int32} {x2 : Int32} : ip_WP 118 22 [some (.ref x0), some (.int x1), some (.int x2)] [] (G, F, I, J) b post px ↔ ip_WP 118 2 [some (.ref x0), some (.int x1), some (.int x2)] [] (G, F, I, J) b post px := ip_nx_iff ((ip_st_of f118_22).trans rfl)
theorem f118_25 : ip_fetch 118 25 = some (.iconst 0, 1) := by decide +kernel
theorem s118_25 {x0 : Nat} {x1 : Int32} {x2 : Int32} : ip_WP 118 25 [some (.ref x0), some (.int x1), some (.int x2)] [] (G, F, I, J) b post px ↔ ip_WP 118 26 [some (.ref x0), some (.int x1), some (.int x2)] [.int 0] (G, F, I, J) b post px := ip_s_iconst f118_25 (by decide)
theorem f118_26 : ip_fetch 118 26 = some (.istore_n 2, 1) := by decide +kernel
theorem s118_26 {x0 : Nat} {x1 : Int32} {x2 : Int32} {s0 : Int32} : ip_WP 118 26 [some (.ref x0), some (.int x1), some (.int x2)] [.int s0] (G, F, I, J) b post px ↔ ip_WP 118 27 [some (.ref x0), some (.int x1), some (.int s0)] [] (G, F, I, J) b post px := ip_nx_iff ((ip_st_of f118_26).trans rfl)
theorem f118_27 : ip_fetch 118 27 = some (.iload_n 2, 1) := by decide +kernel
theorem s118_27 {x0 : Nat} {x1 : Int32} {x2 : Int32} : ip_WP 118 27 [some (.ref x0), some (.int x1), some (.int x2)] [] (G, F, I, J) b post px ↔ ip_WP 118 28 [some (.ref x0), some (.int x1), some (.int x2)] [.int x2] (G, F, I, J) b post px := ip_nx_iff ((ip_st_of f118_27).trans rfl)
theorem f118_28 : ip_fetch 118 28 = some (.aload_n 0, 1) := by decide +kernel
theorem s118_28 {x0 : Nat} {x1 : Int32} {x2 : Int32} {s0 : Int32} : ip_WP 118 28 [some (.ref x0), some (.int x1), some (.int x2)] [.int s0] (G, F, I, J) b post px ↔ ip_WP 118 29 [some (.ref x0), some (.int x1), some (.int x2)] [.ref x0, .int s0] (G, F, I, J) b post px := ip_nx_iff ((ip_st_of f118_28).trans rfl)
theorem f118_29 : ip_fetch 118 29 = some (.getfield 23, 3) := by decide +kernel
set_option maxRecDepth 100000 in
theorem s118_29 {x0 : Nat} {x1 : Int32} {x2 : Int32} {s0 : Int32} {s1 : Nat} : ip_WP 118 29 [some (.ref x0), some (.int x1), some (.int x2)] [.ref s1, .int s0] (G, F, I, J) b post px ↔ (ip_isO G s1 3 = true ∧ ip_WP 118 32 [some (.ref x0), some (.int x1), some (.int x2)] [F s1 2, .int s0] (G, F, I, J) b post px) := ip_s_getf f118_29 (by decide +kernel)
theorem f118_32 : ip_fetch 118 32 = some (.invokevirtual 84, 3) := by decide +kernel
set_option maxRecDepth 100000 in
theorem s118_32 {x0 : Nat} {x1 : Int32} {x2 : Int32} {s0 : Int32} {s1 : Nat} : ip_WP 118 32 [some (.ref x0), some (.int x1), some (.int x2)] [.ref s1, .int s0] (G, F, I, J) b post px ↔ (ip_isO G s1 6 = true ∧ ip_WP 143 0 [some (.ref s1)] [] (G, F, I, J) (0, 0) (fun r h' => ip_WP 118 35 [some (.ref x0), some (.int x1), some (.int x2)] (r.toList ++ [.int s0]) h' b post px) (fun _ _ => False)) := ip_ck_iff (x := ip_cl 143 [some (.ref s1)] [.int s0] (0, 0) b) ((ip_st_of f118_32).trans rfl) (ip_cl_iff)
theorem f118_35 : ip_fetch 118 35 = some (.if_icmp .ge 23, 3) := by decide +kernel
theorem s118_35 {x0 : Nat} {x1 : Int32} {x2 : Int32} {s0 : Int32} {s1 : Int32} : ip_WP 118 35 [some (.ref x0), some (.int x1), some (.int x2)] [.int s1, .int s0] (G, F, I, J) b post px ↔ if s1 ≤ s0 then ip_WP 118 58 [some (.ref x0), some (.int x1), some (.int x2)] [] (G, F, I, J) b post px else ip_WP 118 38 [some (.ref x0), some (.int x1), some (.int x2)] [] (G, F, I, J) b post px := ip_s_ic_ge f118_35 rfl
theorem f118_38 : ip_fetch 118 38 = some (.aload_n 0, 1) := by decide +kernel
theorem s118_38 {x0 : Nat} {x1 : Int32} {x2 : Int32} : ip_WP 118 38 [some (.ref x0), some (.int x1), some (.int x2)] [] (G, F, I, J) b post px ↔ ip_WP 118 39 [some (.ref x0), some (.int x1), some (.int x2)] [.ref x0] (G, F, I, J) b post px := ip_nx_iff ((ip_st_of f118_38).trans rfl)
theorem f118_39 : ip_fetch 118 39 = some (.getfield 56, 3) := by decide +kernel
set_option maxRecDepth 100000 in
theorem s118_39 {x0 : Nat} {x1 : Int32} {x2 : Int32} {s0 : Nat} : ip_WP 118 39 [some (.ref x0), some (.int x1), some (.int x2)] [.ref s0] (G, F, I, J) b post px ↔ (ip_isO G s0 3 = true ∧ ip_WP 118 42 [some (.ref x0), some (.int x1), some (.int x2)] [F s0 11] (G, F, I, J) b post px) := ip_s_getf f118_39 (by decide +kernel)
theorem f118_42 : ip_fetch 118 42 = some (.iload_n 2, 1) := by decide +kernel
theorem s118_42 {x0 : Nat} {x1 : Int32} {x2 : Int32} {s0 : Nat} : ip_WP 118 42 [some (.ref x0), some (.int x1), some (.int x2)] [.ref s0] (G, F, I, J) b post px ↔ ip_WP 118 43 [some (.ref x0), some (.int x1), some (.int x2)] [.int x2, .ref s0] (G, F, I, J) b post px := ip_nx_iff ((ip_st_of f118_42).trans rfl)
theorem f118_43 : ip_fetch 118 43 = some (.invokevirtual 77, 3) := by decide +kernel
set_option maxRecDepth 100000 in
theorem s118_43 {x0 : Nat} {x1 : Int32} {x2 : Int32} {s0 : Nat} {s1 : Int32} : ip_WP 118 43 [some (.ref x0), some (.int x1), some (.int x2)] [.int s1, .ref s0] (G, F, I, J) b post px ↔ (ip_isO G s0 9 = true ∧ ip_WP 191 0 [some (.ref s0), some (.int s1)] [] (G, F, I, J) (0, 0) (fun r h' => ip_WP 118 46 [some (.ref x0), some (.int x1), some (.int x2)] (r.toList ++ []) h' b post px) (fun _ _ => False)) := ip_ck_iff (x := ip_cl 191 [some (.ref s0), some (.int s1)] [] (0, 0) b) ((ip_st_of f118_43).trans rfl) (ip_cl_iff)
theorem f118_46 : ip_fetch 118 46 = some (.iload_n 1, 1) := by decide +kernel
theorem s118_46 {x0 : Nat} {x1 : Int32} {x2 : Int32} {s0 : Int32} : ip_WP 118 46 [some (.ref x0), some (.int x1), some (.int x2)] [.int s0] (G, F, I, J) b post px ↔ ip_WP 118 47 [some (.ref x0), some (.int x1), some (.int x2)] [.int x1, .int s0] (G, F, I, J) b post px := ip_nx_iff ((ip_st_of f118_46).trans rfl)
theorem f118_47 : ip_fetch 118 47 = some (.if_icmp .ne 5, 3) := by decide +kernel
theorem s118_47 {x0 : Nat} {x1 : Int32} {x2 : Int32} {s0 : Int32} {s1 : Int32} : ip_WP 118 47 [some (.ref x0), some (.int x1), some (.int x2)] [.int s1, .int s0] (G, F, I, J) b post px ↔ if ¬ s0 = s1 then ip_WP 118 52 [some (.ref x0), some (.int x1), some (.int x2)] [] (G, F, I, J) b post px else ip_WP 118 50 [some (.ref x0), some (.int x1), some (.int x2)] [] (G, F, I, J) b post px := ip_s_ic_ne f118_47 rfl
theorem f118_50 : ip_fetch 118 50 = some (.iconst 0, 1) := by decide +kernel
theorem s118_50 {x0 : Nat} {x1 : Int32} {x2 : Int32} : ip_WP 118 50 [some (.ref x0), some (.int x1), some (.int x2)] [] (G, F, I, J) b post px ↔ ip_WP 118 51 [some (.ref x0), some (.int x1), some (.int x2)] [.int 0] (G, F, I, J) b post px := ip_s_iconst f118_50 (by decide)
theorem f118_51 : ip_fetch 118 51 = some (.ireturn, 1) := by decide +kernel
theorem s118_51 {x0 : Nat} {x1 : Int32} {x2 : Int32} {s0 : Int32} : ip_WP 118 51 [some (.ref x0), some (.int x1), some (.int x2)] [.int s0] (G, F, I, J) b post px ↔ ((s0 = 0 ∨ s0 = 1) ∧ post (some (.int s0)) (G, F, I, J)) := ip_s_zret ((ip_st_of f118_51).trans rfl)
theorem f118_52 : ip_fetch 118 52 = some (.iinc 2 1, 3) := by decide +kernel
theorem s118_52 {x0 : Nat} {x1 : Int32} {x2 : Int32} : ip_WP 118 52 [some (.ref x0), some (.int x1), some (.int x2)] [] (G, F, I, J) b post px ↔ ip_WP 118 55 [some (.ref x0), some (.int x1), some (.int (x2 + 1))] [] (G, F, I, J) b post px := ip_s_iinc f118_52 rfl (by decide)
theorem f118_55 : ip_fetch 118 55 = some (.goto (-28), 3) := by decide +kernel
theorem s118_55 {x0 : Nat} {x1 : Int32} {x2 : Int32} : ip_WP 118 55 [some (.ref x0), some (.int x1), some (.int x2)] [] (G, F, I, J) b post px ↔ ip_WP 118 27 [some (.ref x0), some (.int x1), some (.int x2)] [] (G, F, I, J) b post px := ip_nx_iff ((ip_st_of f118_55).trans rfl)
theorem f118_58 : ip_fetch 118 58 = some (.iconst 1, 1) := by decide +kernel
theorem s118_58 {x0 : Nat} {x1 : Int32} {x2 : Int32} : ip_WP 118 58 [some (.ref x0), some (.int x1), some (.int x2)] [] (G, F, I, J) b post px ↔ ip_WP 118 59 [some (.ref x0), some (.int x1), some (.int x2)] [.int 1] (G, F, I, J) b post px := ip_s_iconst f118_58 (by decide)
theorem f118_59 : ip_fetch 118 59 = some (.ireturn, 1) := by decide +kernel
theorem s118_59 {x0 : Nat} {x1 : Int32} {x2 : Int32} {s0 : Int32} : ip_WP 118 59 [some (.ref x0), some (.int x1), some (.int x2)] [.int s0] (G, F, I, J) b post px ↔ ((s0 = 0 ∨ s0 = 1) ∧ post (some (.int s0)) (G, F, I, J)) := ip_s_zret ((ip_st_of f118_59).trans rfl)
end
