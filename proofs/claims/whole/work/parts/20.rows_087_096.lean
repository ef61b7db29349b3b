section
variable {G : List ip_K} {F : Nat → Nat → Value} {I : Nat → Nat → Int32} {J : Nat → Nat → Int64} {b : ip_B} {post : Option Value → ip_H → Prop} {px : String → ip_H → Prop}
theorem f87_0 : ip_fetch 87 0 = some (.aload_n 0, 1) := by decide +kernel
theorem s87_0 {x0 : Nat} : ip_WP 87 0 [some (.ref x0)] [] (G, F, I, J) b post px ↔ ip_WP 87 1 [some (.ref x0)] [.ref x0] (G, F, I, J) b post px := ip_nx_iff ((ip_st_of f87_0).trans rfl)
theorem f87_1 : ip_fetch 87 1 = some (.invokespecial 3, 3) := by decide +kernel
set_option maxRecDepth 100000 in
theorem s87_1 {x0 : Nat} {s0 : Nat} : ip_WP 87 1 [some (.ref x0)] [.ref s0] (G, F, I, J) b post px ↔ ip_WP 87 4 [some (.ref x0)] [] (G, F, I, J) b post px := ip_s_obj f87_1 rfl (Nat.le_of_ble_eq_true rfl)
theorem f87_4 : ip_fetch 87 4 = some (.aload_n 0, 1) := by decide +kernel
theorem s87_4 {x0 : Nat} : ip_WP 87 4 [some (.ref x0)] [] (G, F, I, J) b post px ↔ ip_WP 87 5 [some (.ref x0)] [.ref x0] (G, F, I, J) b post px := ip_nx_iff ((ip_st_of f87_4).trans rfl)
theorem f87_5 : ip_fetch 87 5 = some (.sipush 4160, 3) := by decide +kernel
theorem s87_5 {x0 : Nat} {s0 : Nat} : ip_WP 87 5 [some (.ref x0)] [.ref s0] (G, F, I, J) b post px ↔ ip_WP 87 8 [some (.ref x0)] [.int 4160, .ref s0] (G, F, I, J) b post px := ip_s_sipush f87_5 (by decide)
theorem f87_8 : ip_fetch 87 8 = some (.newarray .byte, 2) := by decide +kernel
set_option maxRecDepth 100000 in
theorem s87_8 {x0 : Nat} {s0 : Nat} {s1 : Int32} : ip_WP 87 8 [some (.ref x0)] [.int s1, .ref s0] (G, F, I, J) b post px ↔ (ip_wfc G.length [some (.ref x0)] [.ref s0] = true ∧ (1 ≤ b.1 ∧ s1.toNatClampNeg ≤ b.2 ∧ G.length < ip_SC ∧ ¬ s1 < 0 ∧ s1.toNatClampNeg ≤ 60000000) ∧ ip_WP 87 10 [some (.ref x0)] [.ref G.length, .ref s0] (G ++ [.inl (1, s1.toNatClampNeg)], F, fun a j => if a = G.length then 0 else I a j, fun a j => if a = G.length then 0 else J a j) (b.1 - 1, b.2 - s1.toNatClampNeg) post px) := ip_s_newa f87_8 rfl rfl
theorem f87_10 : ip_fetch 87 10 = some (.putfield 11, 3) := by decide +kernel
set_option maxRecDepth 100000 in
theorem s87_10 {x0 : Nat} {s0 : Nat} {s1 : Nat} : ip_WP 87 10 [some (.ref x0)] [.ref s1, .ref s0] (G, F, I, J) b post px ↔ (ip_isO G s0 2 = true ∧ s1 < G.length ∧ ip_WP 87 13 [some (.ref x0)] [] (G, ip_up F s0 0 (.ref s1), I, J) b post px) := ip_s_putR f87_10 (by decide +kernel) rfl
theorem f87_13 : ip_fetch 87 13 = some (.aload_n 0, 1) := by decide +kernel
theorem s87_13 {x0 : Nat} : ip_WP 87 13 [some (.ref x0)] [] (G, F, I, J) b post px ↔ ip_WP 87 14 [some (.ref x0)] [.ref x0] (G, F, I, J) b post px := ip_nx_iff ((ip_st_of f87_13).trans rfl)
theorem f87_14 : ip_fetch 87 14 = some (.iconst 0, 1) := by decide +kernel
theorem s87_14 {x0 : Nat} {s0 : Nat} : ip_WP 87 14 [some (.ref x0)] [.ref s0] (G, F, I, J) b post px ↔ ip_WP 87 15 [some (.ref x0)] [.int 0, .ref s0] (G, F, I, J) b post px := ip_s_iconst f87_14 (by decide)
theorem f87_15 : ip_fetch 87 15 = some (.putfield 15, 3) := by decide +kernel
set_option maxRecDepth 100000 in
theorem s87_15 {x0 : Nat} {s0 : Nat} {s1 : Int32} : ip_WP 87 15 [some (.ref x0)] [.int s1, .ref s0] (G, F, I, J) b post px ↔ (ip_isO G s0 2 = true ∧ ip_WP 87 18 [some (.ref x0)] [] (G, ip_up F s0 1 (.int s1), I, J) b post px) := ip_s_put f87_15 (by decide +kernel) rfl
theorem f87_18 : ip_fetch 87 18 = some (.return_, 1) := by decide +kernel
theorem s87_18 {x0 : Nat} : ip_WP 87 18 [some (.ref x0)] [] (G, F, I, J) b post px ↔ post none (G, F, I, J) := ip_rt_iff ((ip_st_of f87_18).trans rfl)
theorem f88_0 : ip_fetch 88 0 = some (.aload_n 0, 1) := by decide +kernel
theorem s88_0 {x0 : Nat} : ip_WP 88 0 [some (.ref x0)] [] (G, F, I, J) b post px ↔ ip_WP 88 1 [some (.ref x0)] [.ref x0] (G, F, I, J) b post px := ip_nx_iff ((ip_st_of f88_0).trans rfl)
theorem f88_1 : ip_fetch 88 1 = some (.getfield 15, 3) := by decide +kernel
set_option maxRecDepth 100000 in
theorem s88_1 {x0 : Nat} {s0 : Nat} : ip_WP 88 1 [some (.ref x0)] [.ref s0] (G, F, I, J) b post px ↔ (ip_isO G s0 2 = true ∧ ip_WP 88 4 [some (.ref x0)] [F s0 1] (G, F, I, J) b post px) := ip_s_getf f88_1 (by decide +kernel)
theorem f88_4 : ip_fetch 88 4 = some (.ireturn, 1) := by decide +kernel
theorem s88_4 {x0 : Nat} {s0 : Int32} : ip_WP 88 4 [some (.ref x0)] [.int s0] (G, F, I, J) b post px ↔ post (some (.int s0)) (G, F, I, J) := ip_rt_iff ((ip_st_of f88_4).trans rfl)
theorem f89_0 : ip_fetch 89 0 = some (.iload_n 1, 1) := by decide +kernel
theorem s89_0 {x0 : Nat} {x1 : Int32} : ip_WP 89 0 [some (.ref x0), some (.int x1)] [] (G, F, I, J) b post px ↔ ip_WP 89 1 [some (.ref x0), some (.int x1)] [.int x1] (G, F, I, J) b post px := ip_nx_iff ((ip_st_of f89_0).trans rfl)
theorem f89_1 : ip_fetch 89 1 = some (.ifCond .lt 24, 3) := by decide +kernel
theorem s89_1 {x0 : Nat} {x1 : Int32} {s0 : Int32} : ip_WP 89 1 [some (.ref x0), some (.int x1)] [.int s0] (G, F, I, J) b post px ↔ if s0 < 0 then ip_WP 89 25 [some (.ref x0), some (.int x1)] [] (G, F, I, J) b post px else ip_WP 89 4 [some (.ref x0), some (.int x1)] [] (G, F, I, J) b post px := ip_s_if_lt f89_1 rfl
theorem f89_4 : ip_fetch 89 4 = some (.iload_n 1, 1) := by decide +kernel
theorem s89_4 {x0 : Nat} {x1 : Int32} : ip_WP 89 4 [some (.ref x0), some (.int x1)] [] (G, F, I, J) b post px ↔ ip_WP 89 5 [some (.ref x0), some (.int x1)] [.int x1] (G, F, I, J) b post px := ip_nx_iff ((ip_st_of f89_4).trans rfl)
theorem f89_5 : ip_fetch 89 5 = some (.aload_n 0, 1) := by decide +kernel
theorem s89_5 {x0 : Nat} {x1 : Int32} {s0 : Int32} : ip_WP 89 5 [some (.ref x0), some (.int x1)] [.int s0] (G, F, I, J) b post px ↔ ip_WP 89 6 [some (.ref x0), some (.int x1)] [.ref x0, .int s0] (G, F, I, J) b post px := ip_nx_iff ((ip_st_of f89_5).trans rfl)
theorem f89_6 : ip_fetch 89 6 = some (.getfield 15, 3) := by decide +kernel
set_option maxRecDepth 100000 in
theorem s89_6 {x0 : Nat} {x1 : Int32} {s0 : Int32} {s1 : Nat} : ip_WP 89 6 [some (.ref x0), some (.int x1)] [.ref s1, .int s0] (G, F, I, J) b post px ↔ (ip_isO G s1 2 = true ∧ ip_WP 89 9 [some (.ref x0), some (.int x1)] [F s1 1, .int s0] (G, F, I, J) b post px) := ip_s_getf f89_6 (by decide +kernel)
theorem f89_9 : ip_fetch 89 9 = some (.if_icmp .ge 16, 3) := by decide +kernel
theorem s89_9 {x0 : Nat} {x1 : Int32} {s0 : Int32} {s1 : Int32} : ip_WP 89 9 [some (.ref x0), some (.int x1)] [.int s1, .int s0] (G, F, I, J) b post px ↔ if s1 ≤ s0 then ip_WP 89 25 [some (.ref x0), some (.int x1)] [] (G, F, I, J) b post px else ip_WP 89 12 [some (.ref x0), some (.int x1)] [] (G, F, I, J) b post px := ip_s_ic_ge f89_9 rfl
theorem f89_12 : ip_fetch 89 12 = some (.aload_n 0, 1) := by decide +kernel
theorem s89_12 {x0 : Nat} {x1 : Int32} : ip_WP 89 12 [some (.ref x0), some (.int x1)] [] (G, F, I, J) b post px ↔ ip_WP 89 13 [some (.ref x0), some (.int x1)] [.ref x0] (G, F, I, J) b post px := ip_nx_iff ((ip_st_of f89_12).trans rfl)
theorem f89_13 : ip_fetch 89 13 = some (.getfield 11, 3) := by decide +kernel
set_option maxRecDepth 100000 in
theorem s89_13 {x0 : Nat} {x1 : Int32} {s0 : Nat} : ip_WP 89 13 [some (.ref x0), some (.int x1)] [.ref s0] (G, F, I, J) b post px ↔ (ip_isO G s0 2 = true ∧ ip_WP 89 16 [some (.ref x0), some (.int x1)] [F s0 0] (G, F, I, J) b post px) := ip_s_getf f89_13 (by decide +kernel)
theorem f89_16 : ip_fetch 89 16 = some (.iload_n 1, 1) := by decide +kernel
theorem s89_16 {x0 : Nat} {x1 : Int32} {s0 : Nat} : ip_WP 89 16 [some (.ref x0), some (.int x1)] [.ref s0] (G, F, I, J) b post px ↔ ip_WP 89 17 [some (.ref x0), some (.int x1)] [.int x1, .ref s0] (G, F, I, J) b post px := ip_nx_iff ((ip_st_of f89_16).trans rfl)
theorem f89_17 : ip_fetch 89 17 = some (.baload, 1) := by decide +kernel
theorem s89_17 {x0 : Nat} {x1 : Int32} {s0 : Nat} {s1 : Int32} : ip_WP 89 17 [some (.ref x0), some (.int x1)] [.int s1, .ref s0] (G, F, I, J) b post px ↔ ((ip_inA G s0 1 s1 || ip_inA G s0 3 s1) = true ∧ ip_WP 89 18 [some (.ref x0), some (.int x1)] [.int (I s0 s1.toNatClampNeg)] (G, F, I, J) b post px) := ip_ck_iff ((ip_st_of f89_17).trans rfl) ip_nx_iff
theorem f89_18 : ip_fetch 89 18 = some (.sipush 255, 3) := by decide +kernel
theorem s89_18 {x0 : Nat} {x1 : Int32} {s0 : Int32} : ip_WP 89 18 [some (.ref x0), some (.int x1)] [.int s0] (G, F, I, J) b post px ↔ ip_WP 89 21 [some (.ref x0), some (.int x1)] [.int 255, .int s0] (G, F, I, J) b post px := ip_s_sipush f89_18 (by decide)
theorem f89_21 : ip_fetch 89 21 = some (.iand, 1) := by decide +kernel
theorem s89_21 {x0 : Nat} {x1 : Int32} {s0 : Int32} {s1 : Int32} : ip_WP 89 21 [some (.ref x0), some (.int x1)] [.int s1, .int s0] (G, F, I, J) b post px ↔ ip_WP 89 22 [some (.ref x0), some (.int x1)] [.int (s0 &&& s1)] (G, F, I, J) b post px := ip_nx_iff ((ip_st_of f89_21).trans rfl)
theorem f89_22 : ip_fetch 89 22 = some (.goto 4, 3) := by decide +kernel
theorem s89_22 {x0 : Nat} {x1 : Int32} {s0 : Int32} : ip_WP 89 22 [some (.ref x0), some (.int x1)] [.int s0] (G, F, I, J) b post px ↔ ip_WP 89 26 [some (.ref x0), some (.int x1)] [.int s0] (G, F, I, J) b post px := ip_nx_iff ((ip_st_of f89_22).trans rfl)
theorem f89_25 : ip_fetch 89 25 = some (.iconst (-1), 1) := by decide +kernel
theorem s89_25 {x0 : Nat} {x1 : Int32} : ip_WP 89 25 [some (.ref x0), some (.int x1)] [] (G, F, I, J) b post px ↔ ip_WP 89 26 [some (.ref x0), some (.int x1)] [.int (-1)] (G, F, I, J) b post px := ip_s_iconst f89_25 (by decide)
theorem f89_26 : ip_fetch 89 26 = some (.ireturn, 1) := by decide +kernel
theorem s89_26 {x0 : Nat} {x1 : Int32} {s0 : Int32} : ip_WP 89 26 [some (.ref x0), some (.int x1)] [.int s0] (G, F, I, J) b post px ↔ post (some (.int s0)) (G, F, I, J) := ip_rt_iff ((ip_st_of f89_26).trans rfl)
theorem f90_0 : ip_fetch 90 0 = some (.aload_n 0, 1) := by decide +kernel
theorem s90_0 {x0 : Nat} : ip_WP 90 0 [some (.ref x0)] [] (G, F, I, J) b post px ↔ ip_WP 90 1 [some (.ref x0)] [.ref x0] (G, F, I, J) b post px := ip_nx_iff ((ip_st_of f90_0).trans rfl)
theorem f90_1 : ip_fetch 90 1 = some (.iconst 0, 1) := by decide +kernel
theorem s90_1 {x0 : Nat} {s0 : Nat} : ip_WP 90 1 [some (.ref x0)] [.ref s0] (G, F, I, J) b post px ↔ ip_WP 90 2 [some (.ref x0)] [.int 0, .ref s0] (G, F, I, J) b post px := ip_s_iconst f90_1 (by decide)
theorem f90_2 : ip_fetch 90 2 = some (.putfield 15, 3) := by decide +kernel
set_option maxRecDepth 100000 in
theorem s90_2 {x0 : Nat} {s0 : Nat} {s1 : Int32} : ip_WP 90 2 [some (.ref x0)] [.int s1, .ref s0] (G, F, I, J) b post px ↔ (ip_isO G s0 2 = true ∧ ip_WP 90 5 [some (.ref x0)] [] (G, ip_up F s0 1 (.int s1), I, J) b post px) := ip_s_put f90_2 (by decide +kernel) rfl
theorem f90_5 : ip_fetch 90 5 = some (.return_, 1) := by decide +kernel
theorem s90_5 {x0 : Nat} : ip_WP 90 5 [some (.ref x0)] [] (G, F, I, J) b post px ↔ post none (G, F, I, J) := ip_rt_iff ((ip_st_of f90_5).trans rfl)
theorem f91_0 : ip_fetch 91 0 = some (.aload_n 0, 1) := by decide +kernel
theorem s91_0 {x0 : Nat} {x1 : Int32} : ip_WP 91 0 [some (.ref x0), some (.int x1)] [] (G, F, I, J) b post px ↔ ip_WP 91 1 [some (.ref x0), some (.int x1)] [.ref x0] (G, F, I, J) b post px := ip_nx_iff ((ip_st_of f91_0).trans rfl)
theorem f91_1 : ip_fetch 91 1 = some (.getfield 15, 3) := by decide +kernel
set_option maxRecDepth 100000 in
theorem s91_1 {x0 : Nat} {x1 : Int32} {s0 : Nat} : ip_WP 91 1 [some (.ref x0), some (.int x1)] [.ref s0] (G, F, I, J) b post px ↔ (ip_isO G s0 2 = true ∧ ip_WP 91 4 [some (.ref x0), some (.int x1)] [F s0 1] (G, F, I, J) b post px) := ip_s_getf f91_1 (by decide +kernel)
theorem f91_4 : ip_fetch 91 4 = some (.sipush 4160, 3) := by decide +kernel
theorem s91_4 {x0 : Nat} {x1 : Int32} {s0 : Int32} : ip_WP 91 4 [some (.ref x0), some (.int x1)] [.int s0] (G, F, I, J) b post px ↔ ip_WP 91 7 [some (.ref x0), some (.int x1)] [.int 4160, .int s0] (G, F, I, J) b post px := ip_s_sipush f91_4 (by decide)
theorem f91_7 : ip_fetch 91 7 = some (.if_icmp .ge 24, 3) := by decide +kernel
theorem s91_7 {x0 : Nat} {x1 : Int32} {s0 : Int32} {s1 : Int32} : ip_WP 91 7 [some (.ref x0), some (.int x1)] [.int s1, .int s0] (G, F, I, J) b post px ↔ if s1 ≤ s0 then ip_WP 91 31 [some (.ref x0), some (.int x1)] [] (G, F, I, J) b post px else ip_WP 91 10 [some (.ref x0), some (.int x1)] [] (G, F, I, J) b post px := ip_s_ic_ge f91_7 rfl
theorem f91_10 : ip_fetch 91 10 = some (.aload_n 0, 1) := by decide +kernel
theorem s91_10 {x0 : Nat} {x1 : Int32} : ip_WP 91 10 [some (.ref x0), some (.int x1)] [] (G, F, I, J) b post px ↔ ip_WP 91 11 [some (.ref x0), some (.int x1)] [.ref x0] (G, F, I, J) b post px := ip_nx_iff ((ip_st_of f91_10).trans rfl)
theorem f91_11 : ip_fetch 91 11 = some (.getfield 11, 3) := by decide +kernel
set_option maxRecDepth 100000 in
theorem s91_11 {x0 : Nat} {x1 : Int32} {s0 : Nat} : ip_WP 91 11 [some (.ref x0), some (.int x1)] [.ref s0] (G, F, I, J) b post px ↔ (ip_isO G s0 2 = true ∧ ip_WP 91 14 [some (.ref x0), some (.int x1)] [F s0 0] (G, F, I, J) b post px) := ip_s_getf f91_11 (by decide +kernel)
theorem f91_14 : ip_fetch 91 14 = some (.aload_n 0, 1) := by decide +kernel
theorem s91_14 {x0 : Nat} {x1 : Int32} {s0 : Nat} : ip_WP 91 14 [some (.ref x0), some (.int x1)] [.ref s0] (G, F, I, J) b post px ↔ ip_WP 91 15 [some (.ref x0), some (.int x1)] [.ref x0, .ref s0] (G, F, I, J) b post px := ip_nx_iff ((ip_st_of f91_14).trans rfl)
theorem f91_15 : ip_fetch 91 15 = some (.getfield 15, 3) := by decide +kernel
set_option maxRecDepth 100000 in
theorem s91_15 {x0 : Nat} {x1 : Int32} {s0 : Nat} {s1 : Nat} : ip_WP 91 15 [some (.ref x0), some (.int x1)] [.ref s1, .ref s0] (G, F, I, J) b post px ↔ (ip_isO G s1 2 = true ∧ ip_WP 91 18 [some (.ref x0), some (.int x1)] [F s1 1, .ref s0] (G, F, I, J) b post px) := ip_s_getf f91_15 (by decide +kernel)
theorem f91_18 : ip_fetch 91 18 = some (.iload_n 1, 1) := by decide +kernel
theorem s91_18 {x0 : Nat} {x1 : Int32} {s0 : Nat} {s1 : Int32} : ip_WP 91 18 [some (.ref x0), some (.int x1)] [.int s1, .ref s0] (G, F, I, J) b post px ↔ ip_WP 91 19 [some (.ref x0), some (.int x1)] [.int x1, .int s1, .ref s0] (G, F, I, J) b post px := ip_nx_iff ((ip_st_of f91_18).trans rfl)
theorem f91_19 : ip_fetch 91 19 = some (.i2b, 1) := by decide +kernel
theorem s91_19 {x0 : Nat} {x1 : Int32} {s0 : Nat} {s1 : Int32} {s2 : Int32} : ip_WP 91 19 [some (.ref x0), some (.int x1)] [.int s2, .int s1, .ref s0] (G, F, I, J) b post px ↔ ip_WP 91 20 [some (.ref x0), some (.int x1)] [.int s2.toInt8.toInt32, .int s1, .ref s0] (G, F, I, J) b post px := ip_nx_iff ((ip_st_of f91_19).trans rfl)
theorem f91_20 : ip_fetch 91 20 = some (.bastore, 1) := by decide +kernel
theorem s91_20 {x0 : Nat} {x1 : Int32} {s0 : Nat} {s1 : Int32} {s2 : Int32} : ip_WP 91 20 [some (.ref x0), some (.int x1)] [.int s2, .int s1, .ref s0] (G, F, I, J) b post px ↔ if ip_inA G s0 1 s1 = true then ip_WP 91 21 [some (.ref x0), some (.int x1)] [] (G, F, ip_up I s0 s1.toNatClampNeg (vp_nar .byte s2), J) b post px else (ip_inA G s0 3 s1 = true ∧ ip_WP 91 21 [some (.ref x0), some (.int x1)] [] (G, F, ip_up I s0 s1.toNatClampNeg (vp_nar .boolean s2), J) b post px) := ip_if_iff ((ip_st_of f91_20).trans rfl) ip_nx_iff (fun hs => ip_ck_iff hs ip_nx_iff)
theorem f91_21 : ip_fetch 91 21 = some (.aload_n 0, 1) := by decide +kernel
theorem s91_21 {x0 : Nat} {x1 : Int32} : ip_WP 91 21 [some (.ref x0), some (.int x1)] [] (G, F, I, J) b post px ↔ ip_WP 91 22 [some (.ref x0), some (.int x1)] [.ref x0] (G, F, I, J) b post px := ip_nx_iff ((ip_st_of f91_21).trans rfl)
theorem f91_22 : ip_fetch 91 22 = some (.dup, 1) := by decide +kernel
theorem s91_22 {x0 : Nat} {x1 : Int32} {s0 : Nat} : ip_WP 91 22 [some (.ref x0), some (.int x1)] [.ref s0] (G, F, I, J) b post px ↔ ip_WP 91 23 [some (.ref x0), some (.int x1)] [.ref s0, .ref s0] (G, F, I, J) b post px := ip_nx_iff ((ip_st_of f91_22).trans rfl)
theorem f91_23 : ip_fetch 91 23 = some (.getfield 15, 3) := by decide +kernel
set_option maxRecDepth 100000 in
theorem s91_23 {x0 : Nat} {x1 : Int32} {s0 : Nat} {s1 : Nat} : ip_WP 91 23 [some (.ref x0), some (.int x1)] [.ref s1, .ref s0] (G, F, I, J) b post px ↔ (ip_isO G s1 2 = true ∧ ip_WP 91 26 [some (.ref x0), some (.int x1)] [F s1 1, .ref s0] (G, F, I, J) b post px) := ip_s_getf f91_23 (by decide +kernel)
theorem f91_26 : ip_fetch 91 26 = some (.iconst 1, 1) := by decide +kernel
theorem s91_26 {x0 : Nat} {x1 : Int32} {s0 : Nat} {s1 : Int32} : ip_WP 91 26 [some (.ref x0), some (.int x1)] [.int s1, .ref s0] (G, F, I, J) b post px ↔ ip_WP 91 27 [some (.ref x0), some (.int x1)] [.int 1, .int s1, .ref s0] (G, F, I, J) b post px := ip_s_iconst f91_26 (by decide)
theorem f91_27 : ip_fetch 91 27 = some (.iadd, 1) := by decide +kernel
theorem s91_27 {x0 : Nat} {x1 : Int32} {s0 : Nat} {s1 : Int32} {s2 : Int32} : ip_WP 91 27 [some (.ref x0), some (.int x1)] [.int s2, .int s1, .ref s0] (G, F, I, J) b post px ↔ ip_WP 91 28 [some (.ref x0), some (.int x1)] [.int (s1 + s2), .ref s0] (G, F, I, J) b post px := ip_nx_iff ((ip_st_of f91_27).trans rfl)
theorem f91_28 : ip_fetch 91 28 = some (.putfield 15, 3) := by decide +kernel
set_option maxRecDepth 100000 in
theorem s91_28 {x0 : Nat} {x1 : Int32} {s0 : Nat} {s1 : Int32} : ip_WP 91 28 [some (.ref x0), some (.int x1)] [.int s1, .ref s0] (G, F, I, J) b post px ↔ (ip_isO G s0 2 = true ∧ ip_WP 91 31 [some (.ref x0), some (.int x1)] [] (G, ip_up F s0 1 (.int s1), I, J) b post px) := ip_s_put f91_28 (by decide +kernel) rfl
theorem f91_31 : ip_fetch 91 31 = some (.return_, 1) := by decide +kernel
theorem s91_31 {x0 : Nat} {x1 : Int32} : ip_WP 91 31 [some (.ref x0), some (.int x1)] [] (G, F, I, J) b post px ↔ post none (G, F, I, J) := ip_rt_iff ((ip_st_of f91_31).trans rfl)
theorem f92_0 : ip_fetch 92 0 = some (.bipush 24, 2) := by decide +kernel
theorem s92_0 {x0 : Nat} {x1 : Int32} {x2 : Option Value} : ip_WP 92 0 [some (.ref x0), some (.int x1), x2] [] (G, F, I, J) b post px ↔ ip_WP 92 2 [some (.ref x0), some (.int x1), x2] [.int 24] (G, F, I, J) b post px := ip_s_bipush f92_0 (by decide)
theorem f92_2 : ip_fetch 92 2 = some (.istore_n 2, 1) := by decide +kernel
theorem s92_2 {x0 : Nat} {x1 : Int32} {x2 : Option Value} {s0 : Int32} : ip_WP 92 2 [some (.ref x0), some (.int x1), x2] [.int s0] (G, F, I, J) b post px ↔ ip_WP 92 3 [some (.ref x0), some (.int x1), some (.int s0)] [] (G, F, I, J) b post px := ip_nx_iff ((ip_st_of f92_2).trans rfl)
theorem f92_3 : ip_fetch 92 3 = some (.iload_n 2, 1) := by decide +kernel
theorem s92_3 {x0 : Nat} {x1 : Int32} {x2 : Int32} : ip_WP 92 3 [some (.ref x0), some (.int x1), some (.int x2)] [] (G, F, I, J) b post px ↔ ip_WP 92 4 [some (.ref x0), some (.int x1), some (.int x2)] [.int x2] (G, F, I, J) b post px := ip_nx_iff ((ip_st_of f92_3).trans rfl)
theorem f92_4 : ip_fetch 92 4 = some (.ifCond .lt 16, 3) := by decide +kernel
theorem s92_4 {x0 : Nat} {x1 : Int32} {x2 : Int32} {s0 : Int32} : ip_WP 92 4 [some (.ref x0), some (.int x1), some (.int x2)] [.int s0] (G, F, I, J) b post px ↔ if s0 < 0 then ip_WP 92 20 [some (.ref x0), some (.int x1), some (.int x2)] [] (G, F, I, J) b post px else ip_WP 92 7 [some (.ref x0), some (.int x1), some (.int x2)] [] (G, F, I, J) b post px := ip_s_if_lt f92_4 rfl
theorem f92_7 : ip_fetch 92 7 = some (.aload_n 0, 1) := by decide +kernel
theorem s92_7 {x0 : Nat} {x1 : Int32} {x2 : Int32} : ip_WP 92 7 [some (.ref x0), some (.int x1), some (.int x2)] [] (G, F, I, J) b post px ↔ ip_WP 92 8 [some (.ref x0), some (.int x1), some (.int x2)] [.ref x0] (G, F, I, J) b post px := ip_nx_iff ((ip_st_of f92_7).trans rfl)
theorem f92_8 : ip_fetch 92 8 = some (.iload_n 1, 1) := by decide +kernel
theorem s92_8 {x0 : Nat} {x1 : Int32} {x2 : Int32} {s0 : Nat} : ip_WP 92 8 [some (.ref x0), some (.int x1), some (.int x2)] [.ref s0] (G, F, I, J) b post px ↔ ip_WP 92 9 [some (.ref x0), some (.int x1), some (.int x2)] [.int x1, .ref s0] (G, F, I, J) b post px := ip_nx_iff ((ip_st_of f92_8).trans rfl)
theorem f92_9 : ip_fetch 92 9 = some (.iload_n 2, 1) := by decide +kernel
theorem s92_9 {x0 : Nat} {x1 : Int32} {x2 : Int32} {s0 : Nat} {s1 : Int32} : ip_WP 92 9 [some (.ref x0), some (.int x1), some (.int x2)] [.int s1, .ref s0] (G, F, I, J) b post px ↔ ip_WP 92 10 [some (.ref x0), some (.int x1), some (.int x2)] [.int x2, .int s1, .ref s0] (G, F, I, J) b post px := ip_nx_iff ((ip_st_of f92_9).trans rfl)
theorem f92_10 : ip_fetch 92 10 = some (.iushr, 1) := by decide +kernel
theorem s92_10 {x0 : Nat} {x1 : Int32} {x2 : Int32} {s0 : Nat} {s1 : Int32} {s2 : Int32} : ip_WP 92 10 [some (.ref x0), some (.int x1), some (.int x2)] [.int s2, .int s1, .ref s0] (G, F, I, J) b post px ↔ ip_WP 92 11 [some (.ref x0), some (.int x1), some (.int x2)] [.int (s1.toUInt32 >>> (s2.toUInt32 &&& Int32.toUInt32 31)).toInt32, .ref s0] (G, F, I, J) b post px := ip_nx_iff ((ip_st_of f92_10).trans rfl)
theorem f92_11 : ip_fetch 92 11 = some (.invokevirtual 19, 3) := by decide +kernel
set_option maxRecDepth 100000 in
theorem s92_11 {x0 : Nat} {x1 : Int32} {x2 : Int32} {s0 : Nat} {s1 : Int32} : ip_WP 92 11 [some (.ref x0), some (.int x1), some (.int x2)] [.int s1, .ref s0] (G, F, I, J) b post px ↔ (ip_isO G s0 2 = true ∧ ip_WP 91 0 [some (.ref s0), some (.int s1)] [] (G, F, I, J) (0, 0) (fun r h' => ip_WP 92 14 [some (.ref x0), some (.int x1), some (.int x2)] (r.toList ++ []) h' b post px) (fun _ _ => False)) := ip_ck_iff (x := ip_cl 91 [some (.ref s0), some (.int s1)] [] (0, 0) b) ((ip_st_of f92_11).trans rfl) (ip_cl_iff)
theorem f92_14 : ip_fetch 92 14 = some (.iinc 2 (-8), 3) := by decide +kernel
theorem s92_14 {x0 : Nat} {x1 : Int32} {x2 : Int32} : ip_WP 92 14 [some (.ref x0), some (.int x1), some (.int x2)] [] (G, F, I, J) b post px ↔ ip_WP 92 17 [some (.ref x0), some (.int x1), some (.int (x2 + (-8)))] [] (G, F, I, J) b post px := ip_s_iinc f92_14 rfl (by decide)
theorem f92_17 : ip_fetch 92 17 = some (.goto (-14), 3) := by decide +kernel
theorem s92_17 {x0 : Nat} {x1 : Int32} {x2 : Int32} : ip_WP 92 17 [some (.ref x0), some (.int x1), some (.int x2)] [] (G, F, I, J) b post px ↔ ip_WP 92 3 [some (.ref x0), some (.int x1), some (.int x2)] [] (G, F, I, J) b post px := ip_nx_iff ((ip_st_of f92_17).trans rfl)
theorem f92_20 : ip_fetch 92 20 = some (.return_, 1) := by decide +kernel
theorem s92_20 {x0 : Nat} {x1 : Int32} {x2 : Int32} : ip_WP 92 20 [some (.ref x0), some (.int x1), some (.int x2)] [] (G, F, I, J) b post px ↔ post none (G, F, I, J) := ip_rt_iff ((ip_st_of f92_20).trans rfl)
theorem f93_0 : ip_fetch 93 0 = some (.iconst 0, 1) := by decide +kernel
theorem s93_0 {x0 : Nat} {x1 : Nat} {x2 : Option Value} : ip_WP 93 0 [some (.ref x0), some (.ref x1), x2] [] (G, F, I, J) b post px ↔ ip_WP 93 1 [some (.ref x0), some (.ref x1), x2] [.int 0] (G, F, I, J) b post px := ip_s_iconst f93_0 (by decide)
theorem f93_1 : ip_fetch 93 1 = some (.istore_n 2, 1) := by decide +kernel
theorem s93_1 {x0 : Nat} {x1 : Nat} {x2 : Option Value} {s0 : Int32} : ip_WP 93 1 [some (.ref x0), some (.ref x1), x2] [.int s0] (G, F, I, J) b post px ↔ ip_WP 93 2 [some (.ref x0), some (.ref x1), some (.int s0)] [] (G, F, I, J) b post px := ip_nx_iff ((ip_st_of f93_1).trans rfl)
theorem f93_2 : ip_fetch 93 2 = some (.iload_n 2, 1) := by decide +kernel
theorem s93_2 {x0 : Nat} {x1 : Nat} {x2 : Int32} : ip_WP 93 2 [some (.ref x0), some (.ref x1), some (.int x2)] [] (G, F, I, J) b post px ↔ ip_WP 93 3 [some (.ref x0), some (.ref x1), some (.int x2)] [.int x2] (G, F, I, J) b post px := ip_nx_iff ((ip_st_of f93_2).trans rfl)
theorem f93_3 : ip_fetch 93 3 = some (.aload_n 1, 1) := by decide +kernel
theorem s93_3 {x0 : Nat} {x1 : Nat} {x2 : Int32} {s0 : Int32} : ip_WP 93 3 [some (.ref x0), some (.ref x1), some (.int x2)] [.int s0] (G, F, I, J) b post px ↔ ip_WP 93 4 [some (.ref x0), some (.ref x1), some (.int x2)] [.ref x1, .int s0] (G, F, I, J) b post px := ip_nx_iff ((ip_st_of f93_3).trans rfl)
theorem f93_4 : ip_fetch 93 4 = some (.invokevirtual 23, 3) := by decide +kernel
set_option maxRecDepth 100000 in
theorem s93_4 {x0 : Nat} {x1 : Nat} {x2 : Int32} {s0 : Int32} {s1 : Nat} : ip_WP 93 4 [some (.ref x0), some (.ref x1), some (.int x2)] [.ref s1, .int s0] (G, F, I, J) b post px ↔ ip_on (ip_slen s1) (fun n => ip_WP 93 7 [some (.ref x0), some (.ref x1), some (.int x2)] [.int (Int32.ofNat n), .int s0] (G, F, I, J) b post px) := ip_s_slen f93_4 rfl (Nat.le_of_ble_eq_true rfl)
theorem f93_7 : ip_fetch 93 7 = some (.if_icmp .ge 18, 3) := by decide +kernel
theorem s93_7 {x0 : Nat} {x1 : Nat} {x2 : Int32} {s0 : Int32} {s1 : Int32} : ip_WP 93 7 [some (.ref x0), some (.ref x1), some (.int x2)] [.int s1, .int s0] (G, F, I, J) b post px ↔ if s1 ≤ s0 then ip_WP 93 25 [some (.ref x0), some (.ref x1), some (.int x2)] [] (G, F, I, J) b post px else ip_WP 93 10 [some (.ref x0), some (.ref x1), some (.int x2)] [] (G, F, I, J) b post px := ip_s_ic_ge f93_7 rfl
theorem f93_10 : ip_fetch 93 10 = some (.aload_n 0, 1) := by decide +kernel
theorem s93_10 {x0 : Nat} {x1 : Nat} {x2 : Int32} : ip_WP 93 10 [some (.ref x0), some (.ref x1), some (.int x2)] [] (G, F, I, J) b post px ↔ ip_WP 93 11 [some (.ref x0), some (.ref x1), some (.int x2)] [.ref x0] (G, F, I, J) b post px := ip_nx_iff ((ip_st_of f93_10).trans rfl)
theorem f93_11 : ip_fetch 93 11 = some (.aload_n 1, 1) := by decide +kernel
theorem s93_11 {x0 : Nat} {x1 : Nat} {x2 : Int32} {s0 : Nat} : ip_WP 93 11 [some (.ref x0), some (.ref x1), some (.int x2)] [.ref s0] (G, F, I, J) b post px ↔ ip_WP 93 12 [some (.ref x0), some (.ref x1), some (.int x2)] [.ref x1, .ref s0] (G, F, I, J) b post px := ip_nx_iff ((ip_st_of f93_11).trans rfl)
theorem f93_12 : ip_fetch 93 12 = some (.iload_n 2, 1) := by decide +kernel
theorem s93_12 {x0 : Nat} {x1 : Nat} {x2 : Int32} {s0 : Nat} {s1 : Nat} : ip_WP 93 12 [some (.ref x0), some (.ref x1), some (.int x2)] [.ref s1, .ref s0] (G, F, I, J) b post px ↔ ip_WP 93 13 [some (.ref x0), some (.ref x1), some (.int x2)] [.int x2, .ref s1, .ref s0] (G, F, I, J) b post px := ip_nx_iff ((ip_st_of f93_12).trans rfl)
theorem f93_13 : ip_fetch 93 13 = some (.invokevirtual 29, 3) := by decide +kernel
set_option maxRecDepth 100000 in
theorem s93_13 {x0 : Nat} {x1 : Nat} {x2 : Int32} {s0 : Nat} {s1 : Nat} {s2 : Int32} : ip_WP 93 13 [some (.ref x0), some (.ref x1), some (.int x2)] [.int s2, .ref s1, .ref s0] (G, F, I, J) b post px ↔ ip_on (ip_sch s1 s2) (fun c => ip_WP 93 16 [some (.ref x0), some (.ref x1), some (.int x2)] [.int c, .ref s0] (G, F, I, J) b post px) := ip_s_sch f93_13 rfl (Nat.le_of_ble_eq_true rfl)
theorem f93_16 : ip_fetch 93 16 = some (.invokevirtual 19, 3) := by decide +kernel
set_option maxRecDepth 100000 in
theorem s93_16 {x0 : Nat} {x1 : Nat} {x2 : Int32} {s0 : Nat} {s1 : Int32} : ip_WP 93 16 [some (.ref x0), some (.ref x1), some (.int x2)] [.int s1, .ref s0] (G, F, I, J) b post px ↔ (ip_isO G s0 2 = true ∧ ip_WP 91 0 [some (.ref s0), some (.int s1)] [] (G, F, I, J) (0, 0) (fun r h' => ip_WP 93 19 [some (.ref x0), some (.ref x1), some (.int x2)] (r.toList ++ []) h' b post px) (fun _ _ => False)) := ip_ck_iff (x := ip_cl 91 [some (.ref s0), some (.int s1)] [] (0, 0) b) ((ip_st_of f93_16).trans rfl) (ip_cl_iff)
theorem f93_19 : ip_fetch 93 19 = some (.iinc 2 1, 3) := by decide +kernel
theorem s93_19 {x0 : Nat} {x1 : Nat} {x2 : Int32} : ip_WP 93 19 [some (.ref x0), some (.ref x1), some (.int x2)] [] (G, F, I, J) b post px ↔ ip_WP 93 22 [some (.ref x0), some (.ref x1), some (.int (x2 + 1))] [] (G, F, I, J) b post px := ip_s_iinc f93_19 rfl (by decide)
theorem f93_22 : ip_fetch 93 22 = some (.goto (-20), 3) := by decide +kernel
theorem s93_22 {x0 : Nat} {x1 : Nat} {x2 : Int32} : ip_WP 93 22 [some (.ref x0), some (.ref x1), some (.int x2)] [] (G, F, I, J) b post px ↔ ip_WP 93 2 [some (.ref x0), some (.ref x1), some (.int x2)] [] (G, F, I, J) b post px := ip_nx_iff ((ip_st_of f93_22).trans rfl)
theorem f93_25 : ip_fetch 93 25 = some (.return_, 1) := by decide +kernel
theorem s93_25 {x0 : Nat} {x1 : Nat} {x2 : Int32} : ip_WP 93 25 [some (.ref x0), some (.ref x1), some (.int x2)] [] (G, F, I, J) b post px ↔ post none (G, F, I, J) := ip_rt_iff ((ip_st_of f93_25).trans rfl)
theorem f94_0 : ip_fetch 94 0 = some (.iload_n 1, 1) := by decide +kernel
theorem s94_0 {x0 : Nat} {x1 : Int32} : ip_WP 94 0 [some (.ref x0), some (.int x1)] [] (G, F, I, J) b post px ↔ ip_WP 94 1 [some (.ref x0), some (.int x1)] [.int x1] (G, F, I, J) b post px := ip_nx_iff ((ip_st_of f94_0).trans rfl)
theorem f94_1 : ip_fetch 94 1 = some (.ifCond .lt 21, 3) := by decide +kernel
theorem s94_1 {x0 : Nat} {x1 : Int32} {s0 : Int32} : ip_WP 94 1 [some (.ref x0), some (.int x1)] [.int s0] (G, F, I, J) b post px ↔ if s0 < 0 then ip_WP 94 22 [some (.ref x0), some (.int x1)] [] (G, F, I, J) b post px else ip_WP 94 4 [some (.ref x0), some (.int x1)] [] (G, F, I, J) b post px := ip_s_if_lt f94_1 rfl
theorem f94_4 : ip_fetch 94 4 = some (.iload_n 1, 1) := by decide +kernel
theorem s94_4 {x0 : Nat} {x1 : Int32} : ip_WP 94 4 [some (.ref x0), some (.int x1)] [] (G, F, I, J) b post px ↔ ip_WP 94 5 [some (.ref x0), some (.int x1)] [.int x1] (G, F, I, J) b post px := ip_nx_iff ((ip_st_of f94_4).trans rfl)
theorem f94_5 : ip_fetch 94 5 = some (.aload_n 0, 1) := by decide +kernel
theorem s94_5 {x0 : Nat} {x1 : Int32} {s0 : Int32} : ip_WP 94 5 [some (.ref x0), some (.int x1)] [.int s0] (G, F, I, J) b post px ↔ ip_WP 94 6 [some (.ref x0), some (.int x1)] [.ref x0, .int s0] (G, F, I, J) b post px := ip_nx_iff ((ip_st_of f94_5).trans rfl)
theorem f94_6 : ip_fetch 94 6 = some (.getfield 15, 3) := by decide +kernel
set_option maxRecDepth 100000 in
theorem s94_6 {x0 : Nat} {x1 : Int32} {s0 : Int32} {s1 : Nat} : ip_WP 94 6 [some (.ref x0), some (.int x1)] [.ref s1, .int s0] (G, F, I, J) b post px ↔ (ip_isO G s1 2 = true ∧ ip_WP 94 9 [some (.ref x0), some (.int x1)] [F s1 1, .int s0] (G, F, I, J) b post px) := ip_s_getf f94_6 (by decide +kernel)
theorem f94_9 : ip_fetch 94 9 = some (.if_icmp .gt 13, 3) := by decide +kernel
theorem s94_9 {x0 : Nat} {x1 : Int32} {s0 : Int32} {s1 : Int32} : ip_WP 94 9 [some (.ref x0), some (.int x1)] [.int s1, .int s0] (G, F, I, J) b post px ↔ if s1 < s0 then ip_WP 94 22 [some (.ref x0), some (.int x1)] [] (G, F, I, J) b post px else ip_WP 94 12 [some (.ref x0), some (.int x1)] [] (G, F, I, J) b post px := ip_s_ic_gt f94_9 rfl
theorem f94_12 : ip_fetch 94 12 = some (.aload_n 0, 1) := by decide +kernel
theorem s94_12 {x0 : Nat} {x1 : Int32} : ip_WP 94 12 [some (.ref x0), some (.int x1)] [] (G, F, I, J) b post px ↔ ip_WP 94 13 [some (.ref x0), some (.int x1)] [.ref x0] (G, F, I, J) b post px := ip_nx_iff ((ip_st_of f94_12).trans rfl)
theorem f94_13 : ip_fetch 94 13 = some (.dup, 1) := by decide +kernel
theorem s94_13 {x0 : Nat} {x1 : Int32} {s0 : Nat} : ip_WP 94 13 [some (.ref x0), some (.int x1)] [.ref s0] (G, F, I, J) b post px ↔ ip_WP 94 14 [some (.ref x0), some (.int x1)] [.ref s0, .ref s0] (G, F, I, J) b post px := ip_nx_iff ((ip_st_of f94_13).trans rfl)
theorem f94_14 : ip_fetch 94 14 = some (.getfield 15, 3) := by decide +kernel
set_option maxRecDepth 100000 in
theorem s94_14 {x0 : Nat} {x1 : Int32} {s0 : Nat} {s1 : Nat} : ip_WP 94 14 [some (.ref x0), some (.int x1)] [.ref s1, .ref s0] (G, F, I, J) b post px ↔ (ip_isO G s1 2 = true ∧ ip_WP 94 17 [some (.ref x0), some (.int x1)] [F s1 1, .ref s0] (G, F, I, J) b post px) := ip_s_getf f94_14 (by decide +kernel)
theorem f94_17 : ip_fetch 94 17 = some (.iload_n 1, 1) := by decide +kernel
theorem s94_17 {x0 : Nat} {x1 : Int32} {s0 : Nat} {s1 : Int32} : ip_WP 94 17 [some (.ref x0), some (.int x1)] [.int s1, .ref s0] (G, F, I, J) b post px ↔ ip_WP 94 18 [some (.ref x0), some (.int x1)] [.int x1, .int s1, .ref s0] (G, F, I, J) b post px := ip_nx_iff ((ip_st_of f94_17).trans rfl)
theorem f94_18 : ip_fetch 94 18 = some (.isub, 1) := by decide +kernel
theorem s94_18 {x0 : Nat} {x1 : Int32} {s0 : Nat} {s1 : Int32} {s2 : Int32} : ip_WP 94 18 [some (.ref x0), some (.int x1)] [.int s2, .int s1, .ref s0] (G, F, I, J) b post px ↔ ip_WP 94 19 [some (.ref x0), some (.int x1)] [.int (s1 - s2), .ref s0] (G, F, I, J) b post px := ip_nx_iff ((ip_st_of f94_18).trans rfl)
theorem f94_19 : ip_fetch 94 19 = some (.putfield 15, 3) := by decide +kernel
set_option maxRecDepth 100000 in
theorem s94_19 {x0 : Nat} {x1 : Int32} {s0 : Nat} {s1 : Int32} : ip_WP 94 19 [some (.ref x0), some (.int x1)] [.int s1, .ref s0] (G, F, I, J) b post px ↔ (ip_isO G s0 2 = true ∧ ip_WP 94 22 [some (.ref x0), some (.int x1)] [] (G, ip_up F s0 1 (.int s1), I, J) b post px) := ip_s_put f94_19 (by decide +kernel) rfl
theorem f94_22 : ip_fetch 94 22 = some (.return_, 1) := by decide +kernel
theorem s94_22 {x0 : Nat} {x1 : Int32} : ip_WP 94 22 [some (.ref x0), some (.int x1)] [] (G, F, I, J) b post px ↔ post none (G, F, I, J) := ip_rt_iff ((ip_st_of f94_22).trans rfl)
theorem f95_0 : ip_fetch 95 0 = some (.aload_n 1, 1) := by decide +kernel
theorem s95_0 {x0 : Nat} {x1 : Nat} : ip_WP 95 0 [some (.ref x0), some (.ref x1)] [] (G, F, I, J) b post px ↔ ip_WP 95 1 [some (.ref x0), some (.ref x1)] [.ref x1] (G, F, I, J) b post px := ip_nx_iff ((ip_st_of f95_0).trans rfl)
theorem f95_1 : ip_fetch 95 1 = some (.getfield 11, 3) := by decide +kernel
set_option maxRecDepth 100000 in
theorem s95_1 {x0 : Nat} {x1 : Nat} {s0 : Nat} : ip_WP 95 1 [some (.ref x0), some (.ref x1)] [.ref s0] (G, F, I, J) b post px ↔ (ip_isO G s0 2 = true ∧ ip_WP 95 4 [some (.ref x0), some (.ref x1)] [F s0 0] (G, F, I, J) b post px) := ip_s_getf f95_1 (by decide +kernel)
theorem f95_4 : ip_fetch 95 4 = some (.iconst 0, 1) := by decide +kernel
theorem s95_4 {x0 : Nat} {x1 : Nat} {s0 : Nat} : ip_WP 95 4 [some (.ref x0), some (.ref x1)] [.ref s0] (G, F, I, J) b post px ↔ ip_WP 95 5 [some (.ref x0), some (.ref x1)] [.int 0, .ref s0] (G, F, I, J) b post px := ip_s_iconst f95_4 (by decide)
theorem f95_5 : ip_fetch 95 5 = some (.aload_n 0, 1) := by decide +kernel
theorem s95_5 {x0 : Nat} {x1 : Nat} {s0 : Nat} {s1 : Int32} : ip_WP 95 5 [some (.ref x0), some (.ref x1)] [.int s1, .ref s0] (G, F, I, J) b post px ↔ ip_WP 95 6 [some (.ref x0), some (.ref x1)] [.ref x0, .int s1, .ref s0] (G, F, I, J) b post px := ip_nx_iff ((ip_st_of f95_5).trans rfl)
theorem f95_6 : ip_fetch 95 6 = some (.getfield 11, 3) := by decide +kernel
set_option maxRecDepth 100000 in
theorem s95_6 {x0 : Nat} {x1 : Nat} {s0 : Nat} {s1 : Int32} {s2 : Nat} : ip_WP 95 6 [some (.ref x0), some (.ref x1)] [.ref s2, .int s1, .ref s0] (G, F, I, J) b post px ↔ (ip_isO G s2 2 = true ∧ ip_WP 95 9 [some (.ref x0), some (.ref x1)] [F s2 0, .int s1, .ref s0] (G, F, I, J) b post px) := ip_s_getf f95_6 (by decide +kernel)
theorem f95_9 : ip_fetch 95 9 = some (.iconst 0, 1) := by decide +kernel
theorem s95_9 {x0 : Nat} {x1 : Nat} {s0 : Nat} {s1 : Int32} {s2 : Nat} : ip_WP 95 9 [some (.ref x0), some (.ref x1)] [.ref s2, .int s1, .ref s0] (G, F, I, J) b post px ↔ ip_WP 95 10 [some (.ref x0), some (.ref x1)] [.int 0, .ref s2, .int s1, .ref s0] (G, F, I, J) b post px := ip_s_iconst f95_9 (by decide)
theorem f95_10 : ip_fetch 95 10 = some (.aload_n 1, 1) := by decide +kernel
theorem s95_10 {x0 : Nat} {x1 : Nat} {s0 : Nat} {s1 : Int32} {s2 : Nat} {s3 : Int32} : ip_WP 95 10 [some (.ref x0), some (.ref x1)] [.int s3, .ref s2, .int s1, .ref s0] (G, F, I, J) b post px ↔ ip_WP 95 11 [some (.ref x0), some (.ref x1)] [.ref x1, .int s3, .ref s2, .int s1, .ref s0] (G, F, I, J) b post px := ip_nx_iff ((ip_st_of f95_10).trans rfl)
theorem f95_11 : ip_fetch 95 11 = some (.getfield 15, 3) := by decide +kernel
set_option maxRecDepth 100000 in
theorem s95_11 {x0 : Nat} {x1 : Nat} {s0 : Nat} {s1 : Int32} {s2 : Nat} {s3 : Int32} {s4 : Nat} : ip_WP 95 11 [some (.ref x0), some (.ref x1)] [.ref s4, .int s3, .ref s2, .int s1, .ref s0] (G, F, I, J) b post px ↔ (ip_isO G s4 2 = true ∧ ip_WP 95 14 [some (.ref x0), some (.ref x1)] [F s4 1, .int s3, .ref s2, .int s1, .ref s0] (G, F, I, J) b post px) := ip_s_getf f95_11 (by decide +kernel)
theorem f95_14 : ip_fetch 95 14 = some (.invokestatic 33, 3) := by decide +kernel
set_option maxRecDepth 100000 in
theorem s95_14 {x0 : Nat} {x1 : Nat} {s0 : Nat} {s1 : Int32} {s2 : Nat} {s3 : Int32} {s4 : Int32} : ip_WP 95 14 [some (.ref x0), some (.ref x1)] [.int s4, .int s3, .ref s2, .int s1, .ref s0] (G, F, I, J) b post px ↔ (ip_cpok G I s0 s1 s2 s3 s4 ∧ ip_WP 95 17 [some (.ref x0), some (.ref x1)] [] (G, F, ip_cpI I s0 s1 s2 s3 s4, J) b post px) := ip_s_copy f95_14 rfl (Nat.le_of_ble_eq_true rfl)
theorem f95_17 : ip_fetch 95 17 = some (.aload_n 0, 1) := by decide +kernel
theorem s95_17 {x0 : Nat} {x1 : Nat} : ip_WP 95 17 [some (.ref x0), some (.ref x1)] [] (G, F, I, J) b post px ↔ ip_WP 95 18 [some (.ref x0), some (.ref x1)] [.ref x0] (G, F, I, J) b post px := ip_nx_iff ((ip_st_of f95_17).trans rfl)
theorem f95_18 : ip_fetch 95 18 = some (.aload_n 1, 1) := by decide +kernel
theorem s95_18 {x0 : Nat} {x1 : Nat} {s0 : Nat} : ip_WP 95 18 [some (.ref x0), some (.ref x1)] [.ref s0] (G, F, I, J) b post px ↔ ip_WP 95 19 [some (.ref x0), some (.ref x1)] [.ref x1, .ref s0] (G, F, I, J) b post px := ip_nx_iff ((ip_st_of f95_18).trans rfl)
theorem f95_19 : ip_fetch 95 19 = some (.getfield 15, 3) := by decide +kernel
set_option maxRecDepth 100000 in
theorem s95_19 {x0 : Nat} {x1 : Nat} {s0 : Nat} {s1 : Nat} : ip_WP 95 19 [some (.ref x0), some (.ref x1)] [.ref s1, .ref s0] (G, F, I, J) b post px ↔ (ip_isO G s1 2 = true ∧ ip_WP 95 22 [some (.ref x0), some (.ref x1)] [F s1 1, .ref s0] (G, F, I, J) b post px) := ip_s_getf f95_19 (by decide +kernel)
theorem f95_22 : ip_fetch 95 22 = some (.putfield 15, 3) := by decide +kernel
set_option maxRecDepth 100000 in
theorem s95_22 {x0 : Nat} {x1 : Nat} {s0 : Nat} {s1 : Int32} : ip_WP 95 22 [some (.ref x0), some (.ref x1)] [.int s1, .ref s0] (G, F, I, J) b post px ↔ (ip_isO G s0 2 = true ∧ ip_WP 95 25 [some (.ref x0), some (.ref x1)] [] (G, ip_up F s0 1 (.int s1), I, J) b post px) := ip_s_put f95_22 (by decide +kernel) rfl
theorem f95_25 : ip_fetch 95 25 = some (.return_, 1) := by decide +kernel
theorem s95_25 {x0 : Nat} {x1 : Nat} : ip_WP 95 25 [some (.ref x0), some (.ref x1)] [] (G, F, I, J) b post px ↔ post none (G, F, I, J) := ip_rt_iff ((ip_st_of f95_25).trans rfl)
end
