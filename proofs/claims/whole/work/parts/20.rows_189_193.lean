section
variable {G : List ip_K} {F : Nat → Nat → Value} {I : Nat → Nat → Int32} {J : Nat → Nat → Int64} {b : ip_B} {post : Option Value → ip_H → Prop} {px : String → ip_H → Prop}
theorem f189_0 : ip_fetch 189 0 = some (.aload_n 0, 1) := by decide +kernel
theorem s189_0 {x0 : Nat} {x1 : Int32} {x2 : Int32} : ip_WP 189 0 [some (.ref x0), some (.int x1), some (.int x2)] [] (G, F, I, J) b post px ↔ ip_WP 189 1 [some (.ref x0), some (.int x1), some (.int x2)] [.ref x0] (G, F, I, J) b post px := ip_nx_iff ((ip_st_of f189_0).trans rfl)
theorem f189_1 : ip_fetch 189 1 = some (.invokespecial 1, 3) := by decide +kernel
set_option maxRecDepth 100000 in
theorem s189_1 {x0 : Nat} {x1 : Int32} {x2 : Int32} {s0 : Nat} : ip_WP 189 1 [some (.ref x0), some (.int x1), some (.int x2)] [.ref s0] (G, F, I, J) b post px ↔ ip_WP 189 4 [some (.ref x0), some (.int x1), some (.int x2)] [] (G, F, I, J) b post px := ip_s_obj f189_1 rfl (Nat.le_of_ble_eq_true rfl)
theorem f189_4 : ip_fetch 189 4 = some (.aload_n 0, 1) := by decide +kernel
theorem s189_4 {x0 : Nat} {x1 : Int32} {x2 : Int32} : ip_WP 189 4 [some (.ref x0), some (.int x1), some (.int x2)] [] (G, F, I, J) b post px ↔ ip_WP 189 5 [some (.ref x0), some (.int x1), some (.int x2)] [.ref x0] (G, F, I, J) b post px := ip_nx_iff ((ip_st_of f189_4).trans rfl)
theorem f189_5 : ip_fetch 189 5 = some (.iload_n 1, 1) := by decide +kernel
theorem s189_5 {x0 : Nat} {x1 : Int32} {x2 : Int32} {s0 : Nat} : ip_WP 189 5 [some (.ref x0), some (.int x1), some (.int x2)] [.ref s0] (G, F, I, J) b post px ↔ ip_WP 189 6 [some (.ref x0), some (.int x1), some (.int x2)] [.int x1, .ref s0] (G, F, I, J) b post px := ip_nx_iff ((ip_st_of f189_5).trans rfl)
theorem f189_6 : ip_fetch 189 6 = some (.ifCond .le 7, 3) := by decide +kernel
theorem s189_6 {x0 : Nat} {x1 : Int32} {x2 : Int32} {s0 : Nat} {s1 : Int32} : ip_WP 189 6 [some (.ref x0), some (.int x1), some (.int x2)] [.int s1, .ref s0] (G, F, I, J) b post px ↔ if s1 ≤ 0 then ip_WP 189 13 [some (.ref x0), some (.int x1), some (.int x2)] [.ref s0] (G, F, I, J) b post px else ip_WP 189 9 [some (.ref x0), some (.int x1), some (.int x2)] [.ref s0] (G, F, I, J) b post px := ip_s_if_le f189_6 rfl
theorem f189_9 : ip_fetch 189 9 = some (.iload_n 1, 1) := by decide +kernel
theorem s189_9 {x0 : Nat} {x1 : Int32} {x2 : Int32} {s0 : Nat} : ip_WP 189 9 [some (.ref x0), some (.int x1), some (.int x2)] [.ref s0] (G, F, I, J) b post px ↔ ip_WP 189 10 [some (.ref x0), some (.int x1), some (.int x2)] [.int x1, .ref s0] (G, F, I, J) b post px := ip_nx_iff ((ip_st_of f189_9).trans rfl)
theorem f189_10 : ip_fetch 189 10 = some (.goto 4, 3) := by decide +kernel
theorem s189_10 {x0 : Nat} {x1 : Int32} {x2 : Int32} {s0 : Nat} {s1 : Int32} : ip_WP 189 10 [some (.ref x0), some (.int x1), some (.int x2)] [.int s1, .ref s0] (G, F, I, J) b post px ↔ ip_WP 189 14 [some (.ref x0), some (.int x1), some (.int x2)] [.int s1, .ref s0] (G, F, I, J) b post px := ip_nx_iff ((ip_st_of f189_10).trans rfl)
theorem f189_13 : ip_fetch 189 13 = some (.iconst 0, 1) := by decide +kernel
theorem s189_13 {x0 : Nat} {x1 : Int32} {x2 : Int32} {s0 : Nat} : ip_WP 189 13 [some (.ref x0), some (.int x1), some (.int x2)] [.ref s0] (G, F, I, J) b post px ↔ ip_WP 189 14 [some (.ref x0), some (.int x1), some (.int x2)] [.int 0, .ref s0] (G, F, I, J) b post px := ip_s_iconst f189_13 (by decide)
theorem f189_14 : ip_fetch 189 14 = some (.newarray .int, 2) := by decide +kernel
set_option maxRecDepth 100000 in
theorem s189_14 {x0 : Nat} {x1 : Int32} {x2 : Int32} {s0 : Nat} {s1 : Int32} : ip_WP 189 14 [some (.ref x0), some (.int x1), some (.int x2)] [.int s1, .ref s0] (G, F, I, J) b post px ↔ (ip_wfc G.length [some (.ref x0), some (.int x1), some (.int x2)] [.ref s0] = true ∧ (1 ≤ b.1 ∧ s1.toNatClampNeg ≤ b.2 ∧ G.length < ip_SC ∧ ¬ s1 < 0 ∧ s1.toNatClampNeg ≤ 60000000) ∧ ip_WP 189 16 [some (.ref x0), some (.int x1), some (.int x2)] [.ref G.length, .ref s0] (G ++ [.inl (0, s1.toNatClampNeg)], F, fun a j => if a = G.length then 0 else I a j, fun a j => if a = G.length then 0 else J a j) (b.1 - 1, b.2 - s1.toNatClampNeg) post px) := ip_s_newa f189_14 rfl rfl
theorem f189_16 : ip_fetch 189 16 = some (.putfield 7, 3) := by decide +kernel
set_option maxRecDepth 100000 in
theorem s189_16 {x0 : Nat} {x1 : Int32} {x2 : Int32} {s0 : Nat} {s1 : Nat} : ip_WP 189 16 [some (.ref x0), some (.int x1), some (.int x2)] [.ref s1, .ref s0] (G, F, I, J) b post px ↔ (ip_isO G s0 9 = true ∧ s1 < G.length ∧ ip_WP 189 19 [some (.ref x0), some (.int x1), some (.int x2)] [] (G, ip_up F s0 0 (.ref s1), I, J) b post px) := ip_s_putR f189_16 (by decide +kernel) rfl
theorem f189_19 : ip_fetch 189 19 = some (.aload_n 0, 1) := by decide +kernel
theorem s189_19 {x0 : Nat} {x1 : Int32} {x2 : Int32} : ip_WP 189 19 [some (.ref x0), some (.int x1), some (.int x2)] [] (G, F, I, J) b post px ↔ ip_WP 189 20 [some (.ref x0), some (.int x1), some (.int x2)] [.ref x0] (G, F, I, J) b post px := ip_nx_iff ((ip_st_of f189_19).trans rfl)
theorem f189_20 : ip_fetch 189 20 = some (.iload_n 2, 1) := by decide +kernel
theorem s189_20 {x0 : Nat} {x1 : Int32} {x2 : Int32} {s0 : Nat} : ip_WP 189 20 [some (.ref x0), some (.int x1), some (.int x2)] [.ref s0] (G, F, I, J) b post px ↔ ip_WP 189 21 [some (.ref x0), some (.int x1), some (.int x2)] [.int x2, .ref s0] (G, F, I, J) b post px := ip_nx_iff ((ip_st_of f189_20).trans rfl)
theorem f189_21 : ip_fetch 189 21 = some (.putfield 13, 3) := by decide +kernel
set_option maxRecDepth 100000 in
theorem s189_21 {x0 : Nat} {x1 : Int32} {x2 : Int32} {s0 : Nat} {s1 : Int32} : ip_WP 189 21 [some (.ref x0), some (.int x1), some (.int x2)] [.int s1, .ref s0] (G, F, I, J) b post px ↔ (ip_isO G s0 9 = true ∧ ip_WP 189 24 [some (.ref x0), some (.int x1), some (.int x2)] [] (G, ip_up F s0 1 (.int s1), I, J) b post px) := ip_s_put f189_21 (by decide +kernel) rfl
theorem f189_24 : ip_fetch 189 24 = some (.aload_n 0, 1) := by decide +kernel
theorem s189_24 {x0 : Nat} {x1 : Int32} {x2 : Int32} : ip_WP 189 24 [some (.ref x0), some (.int x1), some (.int x2)] [] (G, F, I, J) b post px ↔ ip_WP 189 25 [some (.ref x0), some (.int x1), some (.int x2)] [.ref x0] (G, F, I, J) b post px := ip_nx_iff ((ip_st_of f189_24).trans rfl)
theorem f189_25 : ip_fetch 189 25 = some (.invokevirtual 17, 3) := by decide +kernel
set_option maxRecDepth 100000 in
theorem s189_25 {x0 : Nat} {x1 : Int32} {x2 : Int32} {s0 : Nat} : ip_WP 189 25 [some (.ref x0), some (.int x1), some (.int x2)] [.ref s0] (G, F, I, J) b post px ↔ (ip_isO G s0 9 = true ∧ ip_WP 190 0 [some (.ref s0), none] [] (G, F, I, J) (0, 0) (fun r h' => ip_WP 189 28 [some (.ref x0), some (.int x1), some (.int x2)] (r.toList ++ []) h' b post px) (fun _ _ => False)) := ip_ck_iff (x := ip_cl 190 [some (.ref s0), none] [] (0, 0) b) ((ip_st_of f189_25).trans rfl) (ip_cl_iff)
theorem f189_28 : ip_fetch 189 28 = some (.return_, 1) := by decide +kernel
theorem s189_28 {x0 : Nat} {x1 : Int32} {x2 : Int32} : ip_WP 189 28 [some (.ref x0), some (.int x1), some (.int x2)] [] (G, F, I, J) b post px ↔ post none (G, F, I, J) := ip_rt_iff ((ip_st_of f189_28).trans rfl)
theorem f190_0 : ip_fetch 190 0 = some (.iconst 0, 1) := by decide +kernel
theorem s190_0 {x0 : Nat} {x1 : Option Value} : ip_WP 190 0 [some (.ref x0), x1] [] (G, F, I, J) b post px ↔ ip_WP 190 1 [some (.ref x0), x1] [.int 0] (G, F, I, J) b post px := ip_s_iconst f190_0 (by decide)
theorem f190_1 : ip_fetch 190 1 = some (.istore_n 1, 1) := by decide +kernel
theorem s190_1 {x0 : Nat} {x1 : Option Value} {s0 : Int32} : ip_WP 190 1 [some (.ref x0), x1] [.int s0] (G, F, I, J) b post px ↔ ip_WP 190 2 [some (.ref x0), some (.int s0)] [] (G, F, I, J) b post px := ip_nx_iff ((ip_st_of f190_1).trans rfl)
theorem f190_2 : ip_fetch 190 2 = some (.iload_n 1, 1) := by decide +kernel
theorem s190_2 {x0 : Nat} {x1 : Int32} : ip_WP 190 2 [some (.ref x0), some (.int x1)] [] (G, F, I, J) b post px ↔ ip_WP 190 3 [some (.ref x0), some (.int x1)] [.int x1] (G, F, I, J) b post px := ip_nx_iff ((ip_st_of f190_2).trans rfl)
theorem f190_3 : ip_fetch 190 3 = some (.aload_n 0, 1) := by decide +kernel
theorem s190_3 {x0 : Nat} {x1 : Int32} {s0 : Int32} : ip_WP 190 3 [some (.ref x0), some (.int x1)] [.int s0] (G, F, I, J) b post px ↔ ip_WP 190 4 [some (.ref x0), some (.int x1)] [.ref x0, .int s0] (G, F, I, J) b post px := ip_nx_iff ((ip_st_of f190_3).trans rfl)
theorem f190_4 : ip_fetch 190 4 = some (.getfield 7, 3) := by decide +kernel
set_option maxRecDepth 100000 in
theorem s190_4 {x0 : Nat} {x1 : Int32} {s0 : Int32} {s1 : Nat} : ip_WP 190 4 [some (.ref x0), some (.int x1)] [.ref s1, .int s0] (G, F, I, J) b post px ↔ (ip_isO G s1 9 = true ∧ ip_WP 190 7 [some (.ref x0), some (.int x1)] [F s1 0, .int s0] (G, F, I, J) b post px) := ip_s_getf f190_4 (by decide +kernel)
theorem f190_7 : ip_fetch 190 7 = some (.arraylength, 1) := by decide +kernel
theorem s190_7 {x0 : Nat} {x1 : Int32} {s0 : Int32} {s1 : Nat} : ip_WP 190 7 [some (.ref x0), some (.int x1)] [.ref s1, .int s0] (G, F, I, J) b post px ↔ ip_on (ip_lenA G s1) (fun n => ip_WP 190 8 [some (.ref x0), some (.int x1)] [.int (Int32.ofNat n), .int s0] (G, F, I, J) b post px) := ip_s_alen f190_7
theorem f190_8 : ip_fetch 190 8 = some (.if_icmp .ge 19, 3) := by decide +kernel
theorem s190_8 {x0 : Nat} {x1 : Int32} {s0 : Int32} {s1 : Int32} : ip_WP 190 8 [some (.ref x0), some (.int x1)] [.int s1, .int s0] (G, F, I, J) b post px ↔ if s1 ≤ s0 then ip_WP 190 27 [some (.ref x0), some (.int x1)] [] (G, F, I, J) b post px else ip_WP 190 11 [some (.ref x0), some (.int x1)] [] (G, F, I, J) b post px := ip_s_ic_ge f190_8 rfl
theorem f190_11 : ip_fetch 190 11 = some (.aload_n 0, 1) := by decide +kernel
theorem s190_11 {x0 : Nat} {x1 : Int32} : ip_WP 190 11 [some (.ref x0), some (.int x1)] [] (G, F, I, J) b post px ↔ ip_WP 190 12 [some (.ref x0), some (.int x1)] [.ref x0] (G, F, I, J) b post px := ip_nx_iff ((ip_st_of f190_11).trans rfl)
theorem f190_12 : ip_fetch 190 12 = some (.getfield 7, 3) := by decide +kernel
set_option maxRecDepth 100000 in
theorem s190_12 {x0 : Nat} {x1 : Int32} {s0 : Nat} : ip_WP 190 12 [some (.ref x0), some (.int x1)] [.ref s0] (G, F, I, J) b post px ↔ (ip_isO G s0 9 = true ∧ ip_WP 190 15 [some (.ref x0), some (.int x1)] [F s0 0] (G, F, I, J) b post px) := ip_s_getf f190_12 (by decide +kernel)
theorem f190_15 : ip_fetch 190 15 = some (.iload_n 1, 1) := by decide +kernel
theorem s190_15 {x0 : Nat} {x1 : Int32} {s0 : Nat} : ip_WP 190 15 [some (.ref x0), some (.int x1)] [.ref s0] (G, F, I, J) b post px ↔ ip_WP 190 16 [some (.ref x0), some (.int x1)] [.int x1, .ref s0] (G, F, I, J) b post px := ip_nx_iff ((ip_st_of f190_15).trans rfl)
theorem f190_16 : ip_fetch 190 16 = some (.aload_n 0, 1) := by decide +kernel
theorem s190_16 {x0 : Nat} {x1 : Int32} {s0 : Nat} {s1 : Int32} : ip_WP 190 16 [some (.ref x0), some (.int x1)] [.int s1, .ref s0] (G, F, I, J) b post px ↔ ip_WP 190 17 [some (.ref x0), some (.int x1)] [.ref x0, .int s1, .ref s0] (G, F, I, J) b post px := ip_nx_iff ((ip_st_of f190_16).trans rfl)
theorem f190_17 : ip_fetch 190 17 = some (.getfield 13, 3) := by decide +kernel
set_option maxRecDepth 100000 in
theorem s190_17 {x0 : Nat} {x1 : Int32} {s0 : Nat} {s1 : Int32} {s2 : Nat} : ip_WP 190 17 [some (.ref x0), some (.int x1)] [.ref s2, .int s1, .ref s0] (G, F, I, J) b post px ↔ (ip_isO G s2 9 = true ∧ ip_WP 190 20 [some (.ref x0), some (.int x1)] [F s2 1, .int s1, .ref s0] (G, F, I, J) b post px) := ip_s_getf f190_17 (by decide +kernel)
theorem f190_20 : ip_fetch 190 20 = some (.iastore, 1) := by decide +kernel
theorem s190_20 {x0 : Nat} {x1 : Int32} {s0 : Nat} {s1 : Int32} {s2 : Int32} : ip_WP 190 20 [some (.ref x0), some (.int x1)] [.int s2, .int s1, .ref s0] (G, F, I, J) b post px ↔ (ip_inA G s0 0 s1 = true ∧ ip_WP 190 21 [some (.ref x0), some (.int x1)] [] (G, F, ip_up I s0 s1.toNatClampNeg s2, J) b post px) := ip_ck_iff ((ip_st_of f190_20).trans rfl) ip_nx_iff
theorem f190_21 : ip_fetch 190 21 = some (.iinc 1 1, 3) := by decide +kernel
theorem s190_21 {x0 : Nat} {x1 : Int32} : ip_WP 190 21 [some (.ref x0), some (.int x1)] [] (G, F, I, J) b post px ↔ ip_WP 190 24 [some (.ref x0), some (.int (x1 + 1))] [] (G, F, I, J) b post px := ip_s_iinc f190_21 rfl (by decide)
theorem f190_24 : ip_fetch 190 24 = some (.goto (-22), 3) := by decide +kernel
theorem s190_24 {x0 : Nat} {x1 : Int32} : ip_WP 190 24 [some (.ref x0), some (.int x1)] [] (G, F, I, J) b post px ↔ ip_WP 190 2 [some (.ref x0), some (.int x1)] [] (G, F, I, J) b post px := ip_nx_iff ((ip_st_of f190_24).trans rfl)
theorem f190_27 : ip_fetch 190 27 = some (.return_, 1) := by decide +kernel
theorem s190_27 {x0 : Nat} {x1 : Int32} : ip_WP 190 27 [some (.ref x0), some (.int x1)] [] (G, F, I, J) b post px ↔ post none (G, F, I, J) := ip_rt_iff ((ip_st_of f190_27).trans rfl)
theorem f191_0 : ip_fetch 191 0 = some (.iload_n 1, 1) := by decide +kernel
theorem s191_0 {x0 : Nat} {x1 : Int32} : ip_WP 191 0 [some (.ref x0), some (.int x1)] [] (G, F, I, J) b post px ↔ ip_WP 191 1 [some (.ref x0), some (.int x1)] [.int x1] (G, F, I, J) b post px := ip_nx_iff ((ip_st_of f191_0).trans rfl)
theorem f191_1 : ip_fetch 191 1 = some (.ifCond .lt 21, 3) := by decide +kernel
theorem s191_1 {x0 : Nat} {x1 : Int32} {s0 : Int32} : ip_WP 191 1 [some (.ref x0), some (.int x1)] [.int s0] (G, F, I, J) b post px ↔ if s0 < 0 then ip_WP 191 22 [some (.ref x0), some (.int x1)] [] (G, F, I, J) b post px else ip_WP 191 4 [some (.ref x0), some (.int x1)] [] (G, F, I, J) b post px := ip_s_if_lt f191_1 rfl
theorem f191_4 : ip_fetch 191 4 = some (.iload_n 1, 1) := by decide +kernel
theorem s191_4 {x0 : Nat} {x1 : Int32} : ip_WP 191 4 [some (.ref x0), some (.int x1)] [] (G, F, I, J) b post px ↔ ip_WP 191 5 [some (.ref x0), some (.int x1)] [.int x1] (G, F, I, J) b post px := ip_nx_iff ((ip_st_of f191_4).trans rfl)
theorem f191_5 : ip_fetch 191 5 = some (.aload_n 0, 1) := by decide +kernel
theorem s191_5 {x0 : Nat} {x1 : Int32} {s0 : Int32} : ip_WP 191 5 [some (.ref x0), some (.int x1)] [.int s0] (G, F, I, J) b post px ↔ ip_WP 191 6 [some (.ref x0), some (.int x1)] [.ref x0, .int s0] (G, F, I, J) b post px := ip_nx_iff ((ip_st_of f191_5).trans rfl)
theorem f191_6 : ip_fetch 191 6 = some (.getfield 7, 3) := by decide +kernel
set_option maxRecDepth 100000 in
theorem s191_6 {x0 : Nat} {x1 : Int32} {s0 : Int32} {s1 : Nat} : ip_WP 191 6 [some (.ref x0), some (.int x1)] [.ref s1, .int s0] (G, F, I, J) b post px ↔ (ip_isO G s1 9 = true ∧ ip_WP 191 9 [some (.ref x0), some (.int x1)] [F s1 0, .int s0] (G, F, I, J) b post px) := ip_s_getf f191_6 (by decide +kernel)
theorem f191_9 : ip_fetch 191 9 = some (.arraylength, 1) := by decide +kernel
theorem s191_9 {x0 : Nat} {x1 : Int32} {s0 : Int32} {s1 : Nat} : ip_WP 191 9 [some (.ref x0), some (.int x1)] [.ref s1, .int s0] (G, F, I, J) b post px ↔ ip_on (ip_lenA G s1) (fun n => ip_WP 191 10 [some (.ref x0), some (.int x1)] [.int (Int32.ofNat n), .int s0] (G, F, I, J) b post px) := ip_s_alen f191_9
theorem f191_10 : ip_fetch 191 10 = some (.if_icmp .ge 12, 3) := by decide +kernel
theorem s191_10 {x0 : Nat} {x1 : Int32} {s0 : Int32} {s1 : Int32} : ip_WP 191 10 [some (.ref x0), some (.int x1)] [.int s1, .int s0] (G, F, I, J) b post px ↔ if s1 ≤ s0 then ip_WP 191 22 [some (.ref x0), some (.int x1)] [] (G, F, I, J) b post px else ip_WP 191 13 [some (.ref x0), some (.int x1)] [] (G, F, I, J) b post px := ip_s_ic_ge f191_10 rfl
theorem f191_13 : ip_fetch 191 13 = some (.aload_n 0, 1) := by decide +kernel
theorem s191_13 {x0 : Nat} {x1 : Int32} : ip_WP 191 13 [some (.ref x0), some (.int x1)] [] (G, F, I, J) b post px ↔ ip_WP 191 14 [some (.ref x0), some (.int x1)] [.ref x0] (G, F, I, J) b post px := ip_nx_iff ((ip_st_of f191_13).trans rfl)
theorem f191_14 : ip_fetch 191 14 = some (.getfield 7, 3) := by decide +kernel
set_option maxRecDepth 100000 in
theorem s191_14 {x0 : Nat} {x1 : Int32} {s0 : Nat} : ip_WP 191 14 [some (.ref x0), some (.int x1)] [.ref s0] (G, F, I, J) b post px ↔ (ip_isO G s0 9 = true ∧ ip_WP 191 17 [some (.ref x0), some (.int x1)] [F s0 0] (G, F, I, J) b post px) := ip_s_getf f191_14 (by decide +kernel)
theorem f191_17 : ip_fetch 191 17 = some (.iload_n 1, 1) := by decide +kernel
theorem s191_17 {x0 : Nat} {x1 : Int32} {s0 : Nat} : ip_WP 191 17 [some (.ref x0), some (.int x1)] [.ref s0] (G, F, I, J) b post px ↔ ip_WP 191 18 [some (.ref x0), some (.int x1)] [.int x1, .ref s0] (G, F, I, J) b post px := ip_nx_iff ((ip_st_of f191_17).trans rfl)
theorem f191_18 : ip_fetch 191 18 = some (.iaload, 1) := by decide +kernel
theorem s191_18 {x0 : Nat} {x1 : Int32} {s0 : Nat} {s1 : Int32} : ip_WP 191 18 [some (.ref x0), some (.int x1)] [.int s1, .ref s0] (G, F, I, J) b post px ↔ (ip_inA G s0 0 s1 = true ∧ ip_WP 191 19 [some (.ref x0), some (.int x1)] [.int (I s0 s1.toNatClampNeg)] (G, F, I, J) b post px) := ip_ck_iff ((ip_st_of f191_18).trans rfl) ip_nx_iff
theorem f191_19 : ip_fetch 191 19 = some (.goto 7, 3) := by decide +kernel
theorem s191_19 {x0 : Nat} {x1 : Int32} {s0 : Int32} : ip_WP 191 19 [some (.ref x0), some (.int x1)] [.int s0] (G, F, I, J) b post px ↔ ip_WP 191 26 [some (.ref x0), some (.int x1)] [.int s0] (G, F, I, J) b post px := ip_nx_iff ((ip_st_of f191_19).trans rfl)
theorem f191_22 : ip_fetch 191 22 = some (.aload_n 0, 1) := by decide +kernel
theorem s191_22 {x0 : Nat} {x1 : Int32} : ip_WP 191 22 [some (.ref x0), some (.int x1)] [] (G, F, I, J) b post px ↔ ip_WP 191 23 [some (.ref x0), some (.int x1)] [.ref x0] (G, F, I, J) b post px := ip_nx_iff ((ip_st_of f191_22).trans rfl)
theorem f191_23 : ip_fetch 191 23 = some (.getfield 13, 3) := by decide +kernel
set_option maxRecDepth 100000 in
theorem s191_23 {x0 : Nat} {x1 : Int32} {s0 : Nat} : ip_WP 191 23 [some (.ref x0), some (.int x1)] [.ref s0] (G, F, I, J) b post px ↔ (ip_isO G s0 9 = true ∧ ip_WP 191 26 [some (.ref x0), some (.int x1)] [F s0 1] (G, F, I, J) b post px) := ip_s_getf f191_23 (by decide +kernel)
theorem f191_26 : ip_fetch 191 26 = some (.ireturn, 1) := by decide +kernel
theorem s191_26 {x0 : Nat} {x1 : Int32} {s0 : Int32} : ip_WP 191 26 [some (.ref x0), some (.int x1)] [.int s0] (G, F, I, J) b post px ↔ post (some (.int s0)) (G, F, I, J) := ip_rt_iff ((ip_st_of f191_26).trans rfl)
theorem f192_0 : ip_fetch 192 0 = some (.iload_n 1, 1) := by decide +kernel
theorem s192_0 {x0 : Nat} {x1 : Int32} {x2 : Int32} : ip_WP 192 0 [some (.ref x0), some (.int x1), some (.int x2)] [] (G, F, I, J) b post px ↔ ip_WP 192 1 [some (.ref x0), some (.int x1), some (.int x2)] [.int x1] (G, F, I, J) b post px := ip_nx_iff ((ip_st_of f192_0).trans rfl)
theorem f192_1 : ip_fetch 192 1 = some (.ifCond .lt 19, 3) := by decide +kernel
theorem s192_1 {x0 : Nat} {x1 : Int32} {x2 : Int32} {s0 : Int32} : ip_WP 192 1 [some (.ref x0), some (.int x1), some (.int x2)] [.int s0] (G, F, I, J) b post px ↔ if s0 < 0 then ip_WP 192 20 [some (.ref x0), some (.int x1), some (.int x2)] [] (G, F, I, J) b post px else ip_WP 192 4 [some (.ref x0), some (.int x1), some (.int x2)] [] (G, F, I, J) b post px := ip_s_if_lt f192_1 rfl
theorem f192_4 : ip_fetch 192 4 = some (.iload_n 1, 1) := by decide +kernel
theorem s192_4 {x0 : Nat} {x1 : Int32} {x2 : Int32} : ip_WP 192 4 [some (.ref x0), some (.int x1), some (.int x2)] [] (G, F, I, J) b post px ↔ ip_WP 192 5 [some (.ref x0), some (.int x1), some (.int x2)] [.int x1] (G, F, I, J) b post px := ip_nx_iff ((ip_st_of f192_4).trans rfl)
theorem f192_5 : ip_fetch 192 5 = some (.aload_n 0, 1) := by decide +kernel
theorem s192_5 {x0 : Nat} {x1 : Int32} {x2 : Int32} {s0 : Int32} : ip_WP 192 5 [some (.ref x0), some (.int x1), some (.int x2)] [.int s0] (G, F, I, J) b post px ↔ ip_WP 192 6 [some (.ref x0), some (.int x1), some (.int x2)] [.ref x0, .int s0] (G, F, I, J) b post px := ip_nx_iff ((ip_st_of f192_5).trans rfl)
theorem f192_6 : ip_fetch 192 6 = some (.getfield 7, 3) := by decide +kernel
set_option maxRecDepth 100000 in
theorem s192_6 {x0 : Nat} {x1 : Int32} {x2 : Int32} {s0 : Int32} {s1 : Nat} : ip_WP 192 6 [some (.ref x0), some (.int x1), some (.int x2)] [.ref s1, .int s0] (G, F, I, J) b post px ↔ (ip_isO G s1 9 = true ∧ ip_WP 192 9 [some (.ref x0), some (.int x1), some (.int x2)] [F s1 0, .int s0] (G, F, I, J) b post px) := ip_s_getf f192_6 (by decide +kernel)
theorem f192_9 : ip_fetch 192 9 = some (.arraylength, 1) := by decide +kernel
theorem s192_9 {x0 : Nat} {x1 : Int32} {x2 : Int32} {s0 : Int32} {s1 : Nat} : ip_WP 192 9 [some (.ref x0), some (.int x1), some (.int x2)] [.ref s1, .int s0] (G, F, I, J) b post px ↔ ip_on (ip_lenA G s1) (fun n => ip_WP 192 10 [some (.ref x0), some (.int x1), some (.int x2)] [.int (Int32.ofNat n), .int s0] (G, F, I, J) b post px) := ip_s_alen f192_9
theorem f192_10 : ip_fetch 192 10 = some (.if_icmp .ge 10, 3) := by decide +kernel
theorem s192_10 {x0 : Nat} {x1 : Int32} {x2 : Int32} {s0 : Int32} {s1 : Int32} : ip_WP 192 10 [some (.ref x0), some (.int x1), some (.int x2)] [.int s1, .int s0] (G, F, I, J) b post px ↔ if s1 ≤ s0 then ip_WP 192 20 [some (.ref x0), some (.int x1), some (.int x2)] [] (G, F, I, J) b post px else ip_WP 192 13 [some (.ref x0), some (.int x1), some (.int x2)] [] (G, F, I, J) b post px := ip_s_ic_ge f192_10 rfl
theorem f192_13 : ip_fetch 192 13 = some (.aload_n 0, 1) := by decide +kernel
theorem s192_13 {x0 : Nat} {x1 : Int32} {x2 : Int32} : ip_WP 192 13 [some (.ref x0), some (.int x1), some (.int x2)] [] (G, F, I, J) b post px ↔ ip_WP 192 14 [some (.ref x0), some (.int x1), some (.int x2)] [.ref x0] (G, F, I, J) b post px := ip_nx_iff ((ip_st_of f192_13).trans rfl)
theorem f192_14 : ip_fetch 192 14 = some (.getfield 7, 3) := by decide +kernel
set_option maxRecDepth 100000 in
theorem s192_14 {x0 : Nat} {x1 : Int32} {x2 : Int32} {s0 : Nat} : ip_WP 192 14 [some (.ref x0), some (.int x1), some (.int x2)] [.ref s0] (G, F, I, J) b post px ↔ (ip_isO G s0 9 = true ∧ ip_WP 192 17 [some (.ref x0), some (.int x1), some (.int x2)] [F s0 0] (G, F, I, J) b post px) := ip_s_getf f192_14 (by decide +kernel)
theorem f192_17 : ip_fetch 192 17 = some (.iload_n 1, 1) := by decide +kernel
theorem s192_17 {x0 : Nat} {x1 : Int32} {x2 : Int32} {s0 : Nat} : ip_WP 192 17 [some (.ref x0), some (.int x1), some (.int x2)] [.ref s0] (G, F, I, J) b post px ↔ ip_WP 192 18 [some (.ref x0), some (.int x1), some (.int x2)] [.int x1, .ref s0] (G, F, I, J) b post px := ip_nx_iff ((ip_st_of f192_17).trans rfl)
theorem f192_18 : ip_fetch 192 18 = some (.iload_n 2, 1) := by decide +kernel
theorem s192_18 {x0 : Nat} {x1 : Int32} {x2 : Int32} {s0 : Nat} {s1 : Int32} : ip_WP 192 18 [some (.ref x0), some (.int x1), some (.int x2)] [.int s1, .ref s0] (G, F, I, J) b post px ↔ ip_WP 192 19 [some (.ref x0), some (.int x1), some (.int x2)] [.int x2, .int s1, .ref s0] (G, F, I, J) b post px := ip_nx_iff ((ip_st_of f192_18).trans rfl)
theorem f192_19 : ip_fetch 192 19 = some (.iastore, 1) := by decide +kernel
theorem s192_19 {x0 : Nat} {x1 : Int32} {x2 : Int32} {s0 : Nat} {s1 : Int32} {s2 : Int32} : ip_WP 192 19 [some (.ref x0), some (.int x1), some (.int x2)] [.int s2, .int s1, .ref s0] (G, F, I, J) b post px ↔ (ip_inA G s0 0 s1 = true ∧ ip_WP 192 20 [some (.ref x0), some (.int x1), some (.int x2)] [] (G, F, ip_up I s0 s1.toNatClampNeg s2, J) b post px) := ip_ck_iff ((ip_st_of f192_19).trans rfl) ip_nx_iff
theorem f192_20 : ip_fetch 192 20 = some (.return_, 1) := by decide +kernel
theorem s192_20 {x0 : Nat} {x1 : Int32} {x2 : Int32} : ip_WP 192 20 [some (.ref x0), some (.int x1), some (.int x2)] [] (G, F, I, J) b post px ↔ post none (G, F, I, J) := ip_rt_iff ((ip_st_of f192_20).trans rfl)
end
