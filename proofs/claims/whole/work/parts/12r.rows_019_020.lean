section
variable {G : List ip_K} {F : Nat → Nat → Value} {I : Nat → Nat → Int32} {J : Nat → Nat → Int64} {b : ip_B} {post : Option Value → ip_H → Prop} {px : String → ip_H → Prop}
theorem f19_0 : ip_fetch 19 0 = some (.aload_n 0, 1) := by decide +kernel
theorem s19_0 {x0 : Nat} : ip_WP 19 0 [some (.ref x0)] [] (G, F, I, J) b post px ↔ ip_WP 19 1 [some (.ref x0)] [.ref x0] (G, F, I, J) b post px := ip_nx_iff ((ip_st_of f19_0).trans rfl)
theorem f19_1 : ip_fetch 19 1 = some (.invokespecial 1, 3) := by decide +kernel
set_option maxRecDepth 100000 in
theorem s19_1 {x0 : Nat} {s0 : Nat} : ip_WP 19 1 [some (.ref x0)] [.ref s0] (G, F, I, J) b post px ↔ ip_WP 19 4 [some (.ref x0)] [] (G, F, I, J) b post px := ip_s_obj f19_1 rfl (Nat.le_of_ble_eq_true rfl)
theorem f19_4 : ip_fetch 19 4 = some (.aload_n 0, 1) := by decide +kernel
theorem s19_4 {x0 : Nat} : ip_WP 19 4 [some (.ref x0)] [] (G, F, I, J) b post px ↔ ip_WP 19 5 [some (.ref x0)] [.ref x0] (G, F, I, J) b post px := ip_nx_iff ((ip_st_of f19_4).trans rfl)
theorem f19_5 : ip_fetch 19 5 = some (.bipush 103, 2) := by decide +kernel
theorem s19_5 {x0 : Nat} {s0 : Nat} : ip_WP 19 5 [some (.ref x0)] [.ref s0] (G, F, I, J) b post px ↔ ip_WP 19 7 [some (.ref x0)] [.int 103, .ref s0] (G, F, I, J) b post px := ip_s_bipush f19_5 (by decide)
theorem f19_7 : ip_fetch 19 7 = some (.newarray .int, 2) := by decide +kernel
set_option maxRecDepth 100000 in
theorem s19_7 {x0 : Nat} {s0 : Nat} {s1 : Int32} : ip_WP 19 7 [some (.ref x0)] [.int s1, .ref s0] (G, F, I, J) b post px ↔ (ip_wfc G.length [some (.ref x0)] [.ref s0] = true ∧ (1 ≤ b.1 ∧ s1.toNatClampNeg ≤ b.2 ∧ G.length < ip_SC ∧ ¬ s1 < 0 ∧ s1.toNatClampNeg ≤ 60000000) ∧ ip_WP 19 9 [some (.ref x0)] [.ref G.length, .ref s0] (G ++ [.inl (0, s1.toNatClampNeg)], F, fun a j => if a = G.length then 0 else I a j, fun a j => if a = G.length then 0 else J a j) (b.1 - 1, b.2 - s1.toNatClampNeg) post px) := ip_s_newa f19_7 rfl rfl
theorem f19_9 : ip_fetch 19 9 = some (.dup, 1) := by decide +kernel
theorem s19_9 {x0 : Nat} {s0 : Nat} {s1 : Nat} : ip_WP 19 9 [some (.ref x0)] [.ref s1, .ref s0] (G, F, I, J) b post px ↔ ip_WP 19 10 [some (.ref x0)] [.ref s1, .ref s1, .ref s0] (G, F, I, J) b post px := ip_nx_iff ((ip_st_of f19_9).trans rfl)
theorem f19_10 : ip_fetch 19 10 = some (.iconst 0, 1) := by decide +kernel
theorem s19_10 {x0 : Nat} {s0 : Nat} {s1 : Nat} {s2 : Nat} : ip_WP 19 10 [some (.ref x0)] [.ref s2, .ref s1, .ref s0] (G, F, I, J) b post px ↔ ip_WP 19 11 [some (.ref x0)] [.int 0, .ref s2, .ref s1, .ref s0] (G, F, I, J) b post px := ip_s_iconst f19_10 (by decide)
theorem f19_11 : ip_fetch 19 11 = some (.bipush 99, 2) := by decide +kernel
theorem s19_11 {x0 : Nat} {s0 : Nat} {s1 : Nat} {s2 : Nat} {s3 : Int32} : ip_WP 19 11 [some (.ref x0)] [.int s3, .ref s2, .ref s1, .ref s0] (G, F, I, J) b post px ↔ ip_WP 19 13 [some (.ref x0)] [.int 99, .int s3, .ref s2, .ref s1, .ref s0] (G, F, I, J) b post px := ip_s_bipush f19_11 (by decide)
theorem f19_13 : ip_fetch 19 13 = some (.iastore, 1) := by decide +kernel
theorem s19_13 {x0 : Nat} {s0 : Nat} {s1 : Nat} {s2 : Nat} {s3 : Int32} {s4 : Int32} : ip_WP 19 13 [some (.ref x0)] [.int s4, .int s3, .ref s2, .ref s1, .ref s0] (G, F, I, J) b post px ↔ (ip_inA G s2 0 s3 = true ∧ ip_WP 19 14 [some (.ref x0)] [.ref s1, .ref s0] (G, F, ip_up I s2 s3.toNatClampNeg s4, J) b post px) := ip_ck_iff ((ip_st_of f19_13).trans rfl) ip_nx_iff
theorem f19_14 : ip_fetch 19 14 = some (.dup, 1) := by decide +kernel
theorem s19_14 {x0 : Nat} {s0 : Nat} {s1 : Nat} : ip_WP 19 14 [some (.ref x0)] [.ref s1, .ref s0] (G, F, I, J) b post px ↔ ip_WP 19 15 [some (.ref x0)] [.ref s1, .ref s1, .ref s0] (G, F, I, J) b post px := ip_nx_iff ((ip_st_of f19_14).trans rfl)
theorem f19_15 : ip_fetch 19 15 = some (.iconst 1, 1) := by decide +kernel
theorem s19_15 {x0 : Nat} {s0 : Nat} {s1 : Nat} {s2 : Nat} : ip_WP 19 15 [some (.ref x0)] [.ref s2, .ref s1, .ref s0] (G, F, I, J) b post px ↔ ip_WP 19 16 [some (.ref x0)] [.int 1, .ref s2, .ref s1, .ref s0] (G, F, I, J) b post px := ip_s_iconst f19_15 (by decide)
theorem f19_16 : ip_fetch 19 16 = some (.bipush 108, 2) := by decide +kernel
theorem s19_16 {x0 : Nat} {s0 : Nat} {s1 : Nat} {s2 : Nat} {s3 : Int32} : ip_WP 19 16 [some (.ref x0)] [.int s3, .ref s2, .ref s1, .ref s0] (G, F, I, J) b post px ↔ ip_WP 19 18 [some (.ref x0)] [.int 108, .int s3, .ref s2, .ref s1, .ref s0] (G, F, I, J) b post px := ip_s_bipush f19_16 (by decide)
theorem f19_18 : ip_fetch 19 18 = some (.iastore, 1) := by decide +kernel
theorem s19_18 {x0 : Nat} {s0 : Nat} {s1 : Nat} {s2 : Nat} {s3 : Int32} {s4 : Int32} : ip_WP 19 18 [some (.ref x0)] [.int s4, .int s3, .ref s2, .ref s1, .ref s0] (G, F, I, J) b post px ↔ (ip_inA G s2 0 s3 = true ∧ ip_WP 19 19 [some (.ref x0)] [.ref s1, .ref s0] (G, F, ip_up I s2 s3.toNatClampNeg s4, J) b post px) := ip_ck_iff ((ip_st_of f19_18).trans rfl) ip_nx_iff
theorem f19_19 : ip_fetch 19 19 = some (.dup, 1) := by decide +kernel
theorem s19_19 {x0 : Nat} {s0 : Nat} {s1 : Nat} : ip_WP 19 19 [some (.ref x0)] [.ref s1, .ref s0] (G, F, I, J) b post px ↔ ip_WP 19 20 [some (.ref x0)] [.ref s1, .ref s1, .ref s0] (G, F, I, J) b post px := ip_nx_iff ((ip_st_of f19_19).trans rfl)
theorem f19_20 : ip_fetch 19 20 = some (.iconst 2, 1) := by decide +kernel
theorem s19_20 {x0 : Nat} {s0 : Nat} {s1 : Nat} {s2 : Nat} : ip_WP 19 20 [some (.ref x0)] [.ref s2, .ref s1, .ref s0] (G, F, I, J) b post px ↔ ip_WP 19 21 [some (.ref x0)] [.int 2, .ref s2, .ref s1, .ref s0] (G, F, I, J) b post px := ip_s_iconst f19_20 (by decide)
theorem f19_21 : ip_fetch 19 21 = some (.bipush 97, 2) := by decide +kernel
theorem s19_21 {x0 : Nat} {s0 : Nat} {s1 : Nat} {s2 : Nat} {s3 : Int32} : ip_WP 19 21 [some (.ref x0)] [.int s3, .ref s2, .ref s1, .ref s0] (G, F, I, J) b post px ↔ ip_WP 19 23 [some (.ref x0)] [.int 97, .int s3, .ref s2, .ref s1, .ref s0] (G, F, I, J) b post px := ip_s_bipush f19_21 (by decide)
theorem f19_23 : ip_fetch 19 23 = some (.iastore, 1) := by decide +kernel
theorem s19_23 {x0 : Nat} {s0 : Nat} {s1 : Nat} {s2 : Nat} {s3 : Int32} {s4 : Int32} : ip_WP 19 23 [some (.ref x0)] [.int s4, .int s3, .ref s2, .ref s1, .ref s0] (G, F, I, J) b post px ↔ (ip_inA G s2 0 s3 = true ∧ ip_WP 19 24 [some (.ref x0)] [.ref s1, .ref s0] (G, F, ip_up I s2 s3.toNatClampNeg s4, J) b post px) := ip_ck_iff ((ip_st_of f19_23).trans rfl) ip_nx_iff
theorem f19_24 : ip_fetch 19 24 = some (.dup, 1) := by decide +kernel
theorem s19_24 {x0 : Nat} {s0 : Nat} {s1 : Nat} : ip_WP 19 24 [some (.ref x0)] [.ref s1, .ref s0] (G, F, I, J) b post px ↔ ip_WP 19 25 [some (.ref x0)] [.ref s1, .ref s1, .ref s0] (G, F, I, J) b post px := ip_nx_iff ((ip_st_of f19_24).trans rfl)
theorem f19_25 : ip_fetch 19 25 = some (.iconst 3, 1) := by decide +kernel
theorem s19_25 {x0 : Nat} {s0 : Nat} {s1 : Nat} {s2 : Nat} : ip_WP 19 25 [some (.ref x0)] [.ref s2, .ref s1, .ref s0] (G, F, I, J) b post px ↔ ip_WP 19 26 [some (.ref x0)] [.int 3, .ref s2, .ref s1, .ref s0] (G, F, I, J) b post px := ip_s_iconst f19_25 (by decide)
theorem f19_26 : ip_fetch 19 26 = some (.bipush 115, 2) := by decide +kernel
theorem s19_26 {x0 : Nat} {s0 : Nat} {s1 : Nat} {s2 : Nat} {s3 : Int32} : ip_WP 19 26 [some (.ref x0)] [.int s3, .ref s2, .ref s1, .ref s0] (G, F, I, J) b post px ↔ ip_WP 19 28 [some (.ref x0)] [.int 115, .int s3, .ref s2, .ref s1, .ref s0] (G, F, I, J) b post px := ip_s_bipush f19_26 (by decide)
theorem f19_28 : ip_fetch 19 28 = some (.iastore, 1) := by decide +kernel
theorem s19_28 {x0 : Nat} {s0 : Nat} {s1 : Nat} {s2 : Nat} {s3 : Int32} {s4 : Int32} : ip_WP 19 28 [some (.ref x0)] [.int s4, .int s3, .ref s2, .ref s1, .ref s0] (G, F, I, J) b post px ↔ (ip_inA G s2 0 s3 = true ∧ ip_WP 19 29 [some (.ref x0)] [.ref s1, .ref s0] (G, F, ip_up I s2 s3.toNatClampNeg s4, J) b post px) := ip_ck_iff ((ip_st_of f19_28).trans rfl) ip_nx_iff
theorem f19_29 : ip_fetch 19 29 = some (.dup, 1) := by decide +kernel
theorem s19_29 {x0 : Nat} {s0 : Nat} {s1 : Nat} : ip_WP 19 29 [some (.ref x0)] [.ref s1, .ref s0] (G, F, I, J) b post px ↔ ip_WP 19 30 [some (.ref x0)] [.ref s1, .ref s1, .ref s0] (G, F, I, J) b post px := ip_nx_iff ((ip_st_of f19_29).trans rfl)
theorem f19_30 : ip_fetch 19 30 = some (.iconst 4, 1) := by decide +kernel
theorem s19_30 {x0 : Nat} {s0 : Nat} {s1 : Nat} {s2 : Nat} : ip_WP 19 30 [some (.ref x0)] [.ref s2, .ref s1, .ref s0] (G, F, I, J) b post px ↔ ip_WP 19 31 [some (.ref x0)] [.int 4, .ref s2, .ref s1, .ref s0] (G, F, I, J) b post px := ip_s_iconst f19_30 (by decide)
theorem f19_31 : ip_fetch 19 31 = some (.bipush 115, 2) := by decide +kernel
theorem s19_31 {x0 : Nat} {s0 : Nat} {s1 : Nat} {s2 : Nat} {s3 : Int32} : ip_WP 19 31 [some (.ref x0)] [.int s3, .ref s2, .ref s1, .ref s0] (G, F, I, J) b post px ↔ ip_WP 19 33 [some (.ref x0)] [.int 115, .int s3, .ref s2, .ref s1, .ref s0] (G, F, I, J) b post px := ip_s_bipush f19_31 (by decide)
theorem f19_33 : ip_fetch 19 33 = some (.iastore, 1) := by decide +kernel
theorem s19_33 {x0 : Nat} {s0 : Nat} {s1 : Nat} {s2 : Nat} {s3 : Int32} {s4 : Int32} : ip_WP 19 33 [some (.ref x0)] [.int s4, .int s3, .ref s2, .ref s1, .ref s0] (G, F, I, J) b post px ↔ (ip_inA G s2 0 s3 = true ∧ ip_WP 19 34 [some (.ref x0)] [.ref s1, .ref s0] (G, F, ip_up I s2 s3.toNatClampNeg s4, J) b post px) := ip_ck_iff ((ip_st_of f19_33).trans rfl) ip_nx_iff
theorem f19_34 : ip_fetch 19 34 = some (.dup, 1) := by decide +kernel
theorem s19_34 {x0 : Nat} {s0 : Nat} {s1 : Nat} : ip_WP 19 34 [some (.ref x0)] [.ref s1, .ref s0] (G, F, I, J) b post px ↔ ip_WP 19 35 [some (.ref x0)] [.ref s1, .ref s1, .ref s0] (G, F, I, J) b post px := ip_nx_iff ((ip_st_of f19_34).trans rfl)
theorem f19_35 : ip_fetch 19 35 = some (.iconst 5, 1) := by decide +kernel
theorem s19_35 {x0 : Nat} {s0 : Nat} {s1 : Nat} {s2 : Nat} : ip_WP 19 35 [some (.ref x0)] [.ref s2, .ref s1, .ref s0] (G, F, I, J) b post px ↔ ip_WP 19 36 [some (.ref x0)] [.int 5, .ref s2, .ref s1, .ref s0] (G, F, I, J) b post px := ip_s_iconst f19_35 (by decide)
theorem f19_36 : ip_fetch 19 36 = some (.iconst 0, 1) := by decide +kernel
theorem s19_36 {x0 : Nat} {s0 : Nat} {s1 : Nat} {s2 : Nat} {s3 : Int32} : ip_WP 19 36 [some (.ref x0)] [.int s3, .ref s2, .ref s1, .ref s0] (G, F, I, J) b post px ↔ ip_WP 19 37 [some (.ref x0)] [.int 0, .int s3, .ref s2, .ref s1, .ref s0] (G, F, I, J) b post px := ip_s_iconst f19_36 (by decide)
theorem f19_37 : ip_fetch 19 37 = some (.iastore, 1) := by decide +kernel
theorem s19_37 {x0 : Nat} {s0 : Nat} {s1 : Nat} {s2 : Nat} {s3 : Int32} {s4 : Int32} : ip_WP 19 37 [some (.ref x0)] [.int s4, .int s3, .ref s2, .ref s1, .ref s0] (G, F, I, J) b post px ↔ (ip_inA G s2 0 s3 = true ∧ ip_WP 19 38 [some (.ref x0)] [.ref s1, .ref s0] (G, F, ip_up I s2 s3.toNatClampNeg s4, J) b post px) := ip_ck_iff ((ip_st_of f19_37).trans rfl) ip_nx_iff
theorem f19_38 : ip_fetch 19 38 = some (.dup, 1) := by decide +kernel
theorem s19_38 {x0 : Nat} {s0 : Nat} {s1 : Nat} : ip_WP 19 38 [some (.ref x0)] [.ref s1, .ref s0] (G, F, I, J) b post px ↔ ip_WP 19 39 [some (.ref x0)] [.ref s1, .ref s1, .ref s0] (G, F, I, J) b post px := ip_nx_iff ((ip_st_of f19_38).trans rfl)
theorem f19_39 : ip_fetch 19 39 = some (.bipush 6, 2) := by decide +kernel
theorem s19_39 {x0 : Nat} {s0 : Nat} {s1 : Nat} {s2 : Nat} : ip_WP 19 39 [some (.ref x0)] [.ref s2, .ref s1, .ref s0] (G, F, I, J) b post px ↔ ip_WP 19 41 [some (.ref x0)] [.int 6, .ref s2, .ref s1, .ref s0] (G, F, I, J) b post px := ip_s_bipush f19_39 (by decide)
theorem f19_41 : ip_fetch 19 41 = some (.bipush 115, 2) := by decide +kernel
theorem s19_41 {x0 : Nat} {s0 : Nat} {s1 : Nat} {s2 : Nat} {s3 : Int32} : ip_WP 19 41 [some (.ref x0)] [.int s3, .ref s2, .ref s1, .ref s0] (G, F, I, J) b post px ↔ ip_WP 19 43 [some (.ref x0)] [.int 115, .int s3, .ref s2, .ref s1, .ref s0] (G, F, I, J) b post px := ip_s_bipush f19_41 (by decide)
theorem f19_43 : ip_fetch 19 43 = some (.iastore, 1) := by decide +kernel
theorem s19_43 {x0 : Nat} {s0 : Nat} {s1 : Nat} {s2 : Nat} {s3 : Int32} {s4 : Int32} : ip_WP 19 43 [some (.ref x0)] [.int s4, .int s3, .ref s2, .ref s1, .ref s0] (G, F, I, J) b post px ↔ (ip_inA G s2 0 s3 = true ∧ ip_WP 19 44 [some (.ref x0)] [.ref s1, .ref s0] (G, F, ip_up I s2 s3.toNatClampNeg s4, J) b post px) := ip_ck_iff ((ip_st_of f19_43).trans rfl) ip_nx_iff
theorem f19_44 : ip_fetch 19 44 = some (.dup, 1) := by decide +kernel
theorem s19_44 {x0 : Nat} {s0 : Nat} {s1 : Nat} : ip_WP 19 44 [some (.ref x0)] [.ref s1, .ref s0] (G, F, I, J) b post px ↔ ip_WP 19 45 [some (.ref x0)] [.ref s1, .ref s1, .ref s0] (G, F, I, J) b post px := ip_nx_iff ((ip_st_of f19_44).trans rfl)
theorem f19_45 : ip_fetch 19 45 = some (.bipush 7, 2) := by decide +kernel
theorem s19_45 {x0 : Nat} {s0 : Nat} {s1 : Nat} {s2 : Nat} : ip_WP 19 45 [some (.ref x0)] [.ref s2, .ref s1, .ref s0] (G, F, I, J) b post px ↔ ip_WP 19 47 [some (.ref x0)] [.int 7, .ref s2, .ref s1, .ref s0] (G, F, I, J) b post px := ip_s_bipush f19_45 (by decide)
theorem f19_47 : ip_fetch 19 47 = some (.bipush 116, 2) := by decide +kernel
theorem s19_47 {x0 : Nat} {s0 : Nat} {s1 : Nat} {s2 : Nat} {s3 : Int32} : ip_WP 19 47 [some (.ref x0)] [.int s3, .ref s2, .ref s1, .ref s0] (G, F, I, J) b post px ↔ ip_WP 19 49 [some (.ref x0)] [.int 116, .int s3, .ref s2, .ref s1, .ref s0] (G, F, I, J) b post px := ip_s_bipush f19_47 (by decide)
theorem f19_49 : ip_fetch 19 49 = some (.iastore, 1) := by decide +kernel
theorem s19_49 {x0 : Nat} {s0 : Nat} {s1 : Nat} {s2 : Nat} {s3 : Int32} {s4 : Int32} : ip_WP 19 49 [some (.ref x0)] [.int s4, .int s3, .ref s2, .ref s1, .ref s0] (G, F, I, J) b post px ↔ (ip_inA G s2 0 s3 = true ∧ ip_WP 19 50 [some (.ref x0)] [.ref s1, .ref s0] (G, F, ip_up I s2 s3.toNatClampNeg s4, J) b post px) := ip_ck_iff ((ip_st_of f19_49).trans rfl) ip_nx_iff
theorem f19_50 : ip_fetch 19 50 = some (.dup, 1) := by decide +kernel
theorem s19_50 {x0 : Nat} {s0 : Nat} {s1 : Nat} : ip_WP 19 50 [some (.ref x0)] [.ref s1, .ref s0] (G, F, I, J) b post px ↔ ip_WP 19 51 [some (.ref x0)] [.ref s1, .ref s1, .ref s0] (G, F, I, J) b post px := ip_nx_iff ((ip_st_of f19_50).trans rfl)
theorem f19_51 : ip_fetch 19 51 = some (.bipush 8, 2) := by decide +kernel
theorem s19_51 {x0 : Nat} {s0 : Nat} {s1 : Nat} {s2 : Nat} : ip_WP 19 51 [some (.ref x0)] [.ref s2, .ref s1, .ref s0] (G, F, I, J) b post px ↔ ip_WP 19 53 [some (.ref x0)] [.int 8, .ref s2, .ref s1, .ref s0] (G, F, I, J) b post px := ip_s_bipush f19_51 (by decide)
theorem f19_53 : ip_fetch 19 53 = some (.bipush 97, 2) := by decide +kernel
theorem s19_53 {x0 : Nat} {s0 : Nat} {s1 : Nat} {s2 : Nat} {s3 : Int32} : ip_WP 19 53 [some (.ref x0)] [.int s3, .ref s2, .ref s1, .ref s0] (G, F, I, J) b post px ↔ ip_WP 19 55 [some (.ref x0)] [.int 97, .int s3, .ref s2, .ref s1, .ref s0] (G, F, I, J) b post px := ip_s_bipush f19_53 (by decide)
theorem f19_55 : ip_fetch 19 55 = some (.iastore, 1) := by decide +kernel
theorem s19_55 {x0 : Nat} {s0 : Nat} {s1 : Nat} {s2 : Nat} {s3 : Int32} {s4 : Int32} : ip_WP 19 55 [some (.ref x0)] [.int s4, .int s3, .ref s2, .ref s1, .ref s0] (G, F, I, J) b post px ↔ (ip_inA G s2 0 s3 = true ∧ ip_WP 19 56 [some (.ref x0)] [.ref s1, .ref s0] (G, F, ip_up I s2 s3.toNatClampNeg s4, J) b post px) := ip_ck_iff ((ip_st_of f19_55).trans rfl) ip_nx_iff
theorem f19_56 : ip_fetch 19 56 = some (.dup, 1) := by decide +kernel
theorem s19_56 {x0 : Nat} {s0 : Nat} {s1 : Nat} : ip_WP 19 56 [some (.ref x0)] [.ref s1, .ref s0] (G, F, I, J) b post px ↔ ip_WP 19 57 [some (.ref x0)] [.ref s1, .ref s1, .ref s0] (G, F, I, J) b post px := ip_nx_iff ((ip_st_of f19_56).trans rfl)
theorem f19_57 : ip_fetch 19 57 = some (.bipush 9, 2) := by decide +kernel
theorem s19_57 {x0 : Nat} {s0 : Nat} {s1 : Nat} {s2 : Nat} : ip_WP 19 57 [some (.ref x0)] [.ref s2, .ref s1, .ref s0] (G, F, I, J) b post px ↔ ip_WP 19 59 [some (.ref x0)] [.int 9, .ref s2, .ref s1, .ref s0] (G, F, I, J) b post px := ip_s_bipush f19_57 (by decide)
theorem f19_59 : ip_fetch 19 59 = some (.bipush 103, 2) := by decide +kernel
theorem s19_59 {x0 : Nat} {s0 : Nat} {s1 : Nat} {s2 : Nat} {s3 : Int32} : ip_WP 19 59 [some (.ref x0)] [.int s3, .ref s2, .ref s1, .ref s0] (G, F, I, J) b post px ↔ ip_WP 19 61 [some (.ref x0)] [.int 103, .int s3, .ref s2, .ref s1, .ref s0] (G, F, I, J) b post px := ip_s_bipush f19_59 (by decide)
theorem f19_61 : ip_fetch 19 61 = some (.iastore, 1) := by decide +kernel
theorem s19_61 {x0 : Nat} {s0 : Nat} {s1 : Nat} {s2 : Nat} {s3 : Int32} {s4 : Int32} : ip_WP 19 61 [some (.ref x0)] [.int s4, .int s3, .ref s2, .ref s1, .ref s0] (G, F, I, J) b post px ↔ (ip_inA G s2 0 s3 = true ∧ ip_WP 19 62 [some (.ref x0)] [.ref s1, .ref s0] (G, F, ip_up I s2 s3.toNatClampNeg s4, J) b post px) := ip_ck_iff ((ip_st_of f19_61).trans rfl) ip_nx_iff
theorem f19_62 : ip_fetch 19 62 = some (.dup, 1) := by decide +kernel
theorem s19_62 {x0 : Nat} {s0 : Nat} {s1 : Nat} : ip_WP 19 62 [some (.ref x0)] [.ref s1, .ref s0] (G, F, I, J) b post px ↔ ip_WP 19 63 [some (.ref x0)] [.ref s1, .ref s1, .ref s0] (G, F, I, J) b post px := ip_nx_iff ((ip_st_of f19_62).trans rfl)
theorem f19_63 : ip_fetch 19 63 = some (.bipush 10, 2) := by decide +kernel
theorem s19_63 {x0 : Nat} {s0 : Nat} {s1 : Nat} {s2 : Nat} : ip_WP 19 63 [some (.ref x0)] [.ref s2, .ref s1, .ref s0] (G, F, I, J) b post px ↔ ip_WP 19 65 [some (.ref x0)] [.int 10, .ref s2, .ref s1, .ref s0] (G, F, I, J) b post px := ip_s_bipush f19_63 (by decide)
theorem f19_65 : ip_fetch 19 65 = some (.bipush 101, 2) := by decide +kernel
theorem s19_65 {x0 : Nat} {s0 : Nat} {s1 : Nat} {s2 : Nat} {s3 : Int32} : ip_WP 19 65 [some (.ref x0)] [.int s3, .ref s2, .ref s1, .ref s0] (G, F, I, J) b post px ↔ ip_WP 19 67 [some (.ref x0)] [.int 101, .int s3, .ref s2, .ref s1, .ref s0] (G, F, I, J) b post px := ip_s_bipush f19_65 (by decide)
theorem f19_67 : ip_fetch 19 67 = some (.iastore, 1) := by decide +kernel
theorem s19_67 {x0 : Nat} {s0 : Nat} {s1 : Nat} {s2 : Nat} {s3 : Int32} {s4 : Int32} : ip_WP 19 67 [some (.ref x0)] [.int s4, .int s3, .ref s2, .ref s1, .ref s0] (G, F, I, J) b post px ↔ (ip_inA G s2 0 s3 = true ∧ ip_WP 19 68 [some (.ref x0)] [.ref s1, .ref s0] (G, F, ip_up I s2 s3.toNatClampNeg s4, J) b post px) := ip_ck_iff ((ip_st_of f19_67).trans rfl) ip_nx_iff
theorem f19_68 : ip_fetch 19 68 = some (.dup, 1) := by decide +kernel
theorem s19_68 {x0 : Nat} {s0 : Nat} {s1 : Nat} : ip_WP 19 68 [some (.ref x0)] [.ref s1, .ref s0] (G, F, I, J) b post px ↔ ip_WP 19 69 [some (.ref x0)] [.ref s1, .ref s1, .ref s0] (G, F, I, J) b post px := ip_nx_iff ((ip_st_of f19_68).trans rfl)
theorem f19_69 : ip_fetch 19 69 = some (.bipush 11, 2) := by decide +kernel
theorem s19_69 {x0 : Nat} {s0 : Nat} {s1 : Nat} {s2 : Nat} : ip_WP 19 69 [some (.ref x0)] [.ref s2, .ref s1, .ref s0] (G, F, I, J) b post px ↔ ip_WP 19 71 [some (.ref x0)] [.int 11, .ref s2, .ref s1, .ref s0] (G, F, I, J) b post px := ip_s_bipush f19_69 (by decide)
theorem f19_71 : ip_fetch 19 71 = some (.iconst 0, 1) := by decide +kernel
theorem s19_71 {x0 : Nat} {s0 : Nat} {s1 : Nat} {s2 : Nat} {s3 : Int32} : ip_WP 19 71 [some (.ref x0)] [.int s3, .ref s2, .ref s1, .ref s0] (G, F, I, J) b post px ↔ ip_WP 19 72 [some (.ref x0)] [.int 0, .int s3, .ref s2, .ref s1, .ref s0] (G, F, I, J) b post px := ip_s_iconst f19_71 (by decide)
theorem f19_72 : ip_fetch 19 72 = some (.iastore, 1) := by decide +kernel
theorem s19_72 {x0 : Nat} {s0 : Nat} {s1 : Nat} {s2 : Nat} {s3 : Int32} {s4 : Int32} : ip_WP 19 72 [some (.ref x0)] [.int s4, .int s3, .ref s2, .ref s1, .ref s0] (G, F, I, J) b post px ↔ (ip_inA G s2 0 s3 = true ∧ ip_WP 19 73 [some (.ref x0)] [.ref s1, .ref s0] (G, F, ip_up I s2 s3.toNatClampNeg s4, J) b post px) := ip_ck_iff ((ip_st_of f19_72).trans rfl) ip_nx_iff
theorem f19_73 : ip_fetch 19 73 = some (.dup, 1) := by decide +kernel
theorem s19_73 {x0 : Nat} {s0 : Nat} {s1 : Nat} : ip_WP 19 73 [some (.ref x0)] [.ref s1, .ref s0] (G, F, I, J) b post px ↔ ip_WP 19 74 [some (.ref x0)] [.ref s1, .ref s1, .ref s0] (G, F, I, J) b post px := ip_nx_iff ((ip_st_of f19_73).trans rfl)
theorem f19_74 : ip_fetch 19 74 = some (.bipush 12, 2) := by decide +kernel
theorem s19_74 {x0 : Nat} {s0 : Nat} {s1 : Nat} {s2 : Nat} : ip_WP 19 74 [some (.ref x0)] [.ref s2, .ref s1, .ref s0] (G, F, I, J) b post px ↔ ip_WP 19 76 [some (.ref x0)] [.int 12, .ref s2, .ref s1, .ref s0] (G, F, I, J) b post px := ip_s_bipush f19_74 (by decide)
theorem f19_76 : ip_fetch 19 76 = some (.bipush 100, 2) := by decide +kernel
theorem s19_76 {x0 : Nat} {s0 : Nat} {s1 : Nat} {s2 : Nat} {s3 : Int32} : ip_WP 19 76 [some (.ref x0)] [.int s3, .ref s2, .ref s1, .ref s0] (G, F, I, J) b post px ↔ ip_WP 19 78 [some (.ref x0)] [.int 100, .int s3, .ref s2, .ref s1, .ref s0] (G, F, I, J) b post px := ip_s_bipush f19_76 (by decide)
theorem f19_78 : ip_fetch 19 78 = some (.iastore, 1) := by decide +kernel
theorem s19_78 {x0 : Nat} {s0 : Nat} {s1 : Nat} {s2 : Nat} {s3 : Int32} {s4 : Int32} : ip_WP 19 78 [some (.ref x0)] [.int s4, .int s3, .ref s2, .ref s1, .ref s0] (G, F, I, J) b post px ↔ (ip_inA G s2 0 s3 = true ∧ ip_WP 19 79 [some (.ref x0)] [.ref s1, .ref s0] (G, F, ip_up I s2 s3.toNatClampNeg s4, J) b post px) := ip_ck_iff ((ip_st_of f19_78).trans rfl) ip_nx_iff
theorem f19_79 : ip_fetch 19 79 = some (.dup, 1) := by decide +kernel
theorem s19_79 {x0 : Nat} {s0 : Nat} {s1 : Nat} : ip_WP 19 79 [some (.ref x0)] [.ref s1, .ref s0] (G, F, I, J) b post px ↔ ip_WP 19 80 [some (.ref x0)] [.ref s1, .ref s1, .ref s0] (G, F, I, J) b post px := ip_nx_iff ((ip_st_of f19_79).trans rfl)
theorem f19_80 : ip_fetch 19 80 = some (.bipush 13, 2) := by decide +kernel
theorem s19_80 {x0 : Nat} {s0 : Nat} {s1 : Nat} {s2 : Nat} : ip_WP 19 80 [some (.ref x0)] [.ref s2, .ref s1, .ref s0] (G, F, I, J) b post px ↔ ip_WP 19 82 [some (.ref x0)] [.int 13, .ref s2, .ref s1, .ref s0] (G, F, I, J) b post px := ip_s_bipush f19_80 (by decide)
theorem f19_82 : ip_fetch 19 82 = some (.bipush 111, 2) := by decide +kernel
theorem s19_82 {x0 : Nat} {s0 : Nat} {s1 : Nat} {s2 : Nat} {s3 : Int32} : ip_WP 19 82 [some (.ref x0)] [.int s3, .ref s2, .ref s1, .ref s0] (G, F, I, J) b post px ↔ ip_WP 19 84 [some (.ref x0)] [.int 111, .int s3, .ref s2, .ref s1, .ref s0] (G, F, I, J) b post px := ip_s_bipush f19_82 (by decide)
theorem f19_84 : ip_fetch 19 84 = some (.iastore, 1) := by decide +kernel
theorem s19_84 {x0 : Nat} {s0 : Nat} {s1 : Nat} {s2 : Nat} {s3 : Int32} {s4 : Int32} : ip_WP 19 84 [some (.ref x0)] [.int s4, .int s3, .ref s2, .ref s1, .ref s0] (G, F, I, J) b post px ↔ (ip_inA G s2 0 s3 = true ∧ ip_WP 19 85 [some (.ref x0)] [.ref s1, .ref s0] (G, F, ip_up I s2 s3.toNatClampNeg s4, J) b post px) := ip_ck_iff ((ip_st_of f19_84).trans rfl) ip_nx_iff
theorem f19_85 : ip_fetch 19 85 = some (.dup, 1) := by decide +kernel
theorem s19_85 {x0 : Nat} {s0 : Nat} {s1 : Nat} : ip_WP 19 85 [some (.ref x0)] [.ref s1, .ref s0] (G, F, I, J) b post px ↔ ip_WP 19 86 [some (.ref x0)] [.ref s1, .ref s1, .ref s0] (G, F, I, J) b post px := ip_nx_iff ((ip_st_of f19_85).trans rfl)
theorem f19_86 : ip_fetch 19 86 = some (.bipush 14, 2) := by decide +kernel
theorem s19_86 {x0 : Nat} {s0 : Nat} {s1 : Nat} {s2 : Nat} : ip_WP 19 86 [some (.ref x0)] [.ref s2, .ref s1, .ref s0] (G, F, I, J) b post px ↔ ip_WP 19 88 [some (.ref x0)] [.int 14, .ref s2, .ref s1, .ref s0] (G, F, I, J) b post px := ip_s_bipush f19_86 (by decide)
theorem f19_88 : ip_fetch 19 88 = some (.bipush 101, 2) := by decide +kernel
theorem s19_88 {x0 : Nat} {s0 : Nat} {s1 : Nat} {s2 : Nat} {s3 : Int32} : ip_WP 19 88 [some (.ref x0)] [.int s3, .ref s2, .ref s1, .ref s0] (G, F, I, J) b post px ↔ ip_WP 19 90 [some (.ref x0)] [.int 101, .int s3, .ref s2, .ref s1, .ref s0] (G, F, I, J) b post px := ip_s_bipush f19_88 (by decide)
theorem f19_90 : ip_fetch 19 90 = some (.iastore, 1) := by decide +kernel
theorem s19_90 {x0 : Nat} {s0 : Nat} {s1 : Nat} {s2 : Nat} {s3 : Int32} {s4 : Int32} : ip_WP 19 90 [some (.ref x0)] [.int s4, .int s3, .ref s2, .ref s1, .ref s0] (G, F, I, J) b post px ↔ (ip_inA G s2 0 s3 = true ∧ ip_WP 19 91 [some (.ref x0)] [.ref s1, .ref s0] (G, F, ip_up I s2 s3.toNatClampNeg s4, J) b post px) := ip_ck_iff ((ip_st_of f19_90).trans rfl) ip_nx_iff
theorem f19_91 : ip_fetch 19 91 = some (.dup, 1) := by decide +kernel
theorem s19_91 {x0 : Nat} {s0 : Nat} {s1 : Nat} : ip_WP 19 91 [some (.ref x0)] [.ref s1, .ref s0] (G, F, I, J) b post px ↔ ip_WP 19 92 [some (.ref x0)] [.ref s1, .ref s1, .ref s0] (G, F, I, J) b post px := ip_nx_iff ((ip_st_of f19_91).trans rfl)
theorem f19_92 : ip_fetch 19 92 = some (.bipush 15, 2) := by decide +kernel
theorem s19_92 {x0 : Nat} {s0 : Nat} {s1 : Nat} {s2 : Nat} : ip_WP 19 92 [some (.ref x0)] [.ref s2, .ref s1, .ref s0] (G, F, I, J) b post px ↔ ip_WP 19 94 [some (.ref x0)] [.int 15, .ref s2, .ref s1, .ref s0] (G, F, I, J) b post px := ip_s_bipush f19_92 (by decide)
theorem f19_94 : ip_fetch 19 94 = some (.bipush 115, 2) := by decide +kernel
theorem s19_94 {x0 : Nat} {s0 : Nat} {s1 : Nat} {s2 : Nat} {s3 : Int32} : ip_WP 19 94 [some (.ref x0)] [.int s3, .ref s2, .ref s1, .ref s0] (G, F, I, J) b post px ↔ ip_WP 19 96 [some (.ref x0)] [.int 115, .int s3, .ref s2, .ref s1, .ref s0] (G, F, I, J) b post px := ip_s_bipush f19_94 (by decide)
theorem f19_96 : ip_fetch 19 96 = some (.iastore, 1) := by decide +kernel
theorem s19_96 {x0 : Nat} {s0 : Nat} {s1 : Nat} {s2 : Nat} {s3 : Int32} {s4 : Int32} : ip_WP 19 96 [some (.ref x0)] [.int s4, .int s3, .ref s2, .ref s1, .ref s0] (G, F, I, J) b post px ↔ (ip_inA G s2 0 s3 = true ∧ ip_WP 19 97 [some (.ref x0)] [.ref s1, .ref s0] (G, F, ip_up I s2 s3.toNatClampNeg s4, J) b post px) := ip_ck_iff ((ip_st_of f19_96).trans rfl) ip_nx_iff
theorem f19_97 : ip_fetch 19 97 = some (.dup, 1) := by decide +kernel
theorem s19_97 {x0 : Nat} {s0 : Nat} {s1 : Nat} : ip_WP 19 97 [some (.ref x0)] [.ref s1, .ref s0] (G, F, I, J) b post px ↔ ip_WP 19 98 [some (.ref x0)] [.ref s1, .ref s1, .ref s0] (G, F, I, J) b post px := ip_nx_iff ((ip_st_of f19_97).trans rfl)
theorem f19_98 : ip_fetch 19 98 = some (.bipush 16, 2) := by decide +kernel
theorem s19_98 {x0 : Nat} {s0 : Nat} {s1 : Nat} {s2 : Nat} : ip_WP 19 98 [some (.ref x0)] [.ref s2, .ref s1, .ref s0] (G, F, I, J) b post px ↔ ip_WP 19 100 [some (.ref x0)] [.int 16, .ref s2, .ref s1, .ref s0] (G, F, I, J) b post px := ip_s_bipush f19_98 (by decide)
theorem f19_100 : ip_fetch 19 100 = some (.iconst 0, 1) := by decide +kernel
theorem s19_100 {x0 : Nat} {s0 : Nat} {s1 : Nat} {s2 : Nat} {s3 : Int32} : ip_WP 19 100 [some (.ref x0)] [.int s3, .ref s2, .ref s1, .ref s0] (G, F, I, J) b post px ↔ ip_WP 19 101 [some (.ref x0)] [.int 0, .int s3, .ref s2, .ref s1, .ref s0] (G, F, I, J) b post px := ip_s_iconst f19_100 (by decide)
theorem f19_101 : ip_fetch 19 101 = some (.iastore, 1) := by decide +kernel
theorem s19_101 {x0 : Nat} {s0 : Nat} {s1 : Nat} {s2 : Nat} {s3 : Int32} {s4 : Int32} : ip_WP 19 101 [some (.ref x0)] [.int s4, .int s3, .ref s2, .ref s1, .ref s0] (G, F, I, J) b post px ↔ (ip_inA G s2 0 s3 = true ∧ ip_WP 19 102 [some (.ref x0)] [.ref s1, .ref s0] (G, F, ip_up I s2 s3.toNatClampNeg s4, J) b post px) := ip_ck_iff ((ip_st_of f19_101).trans rfl) ip_nx_iff
theorem f19_102 : ip_fetch 19 102 = some (.dup, 1) := by decide +kernel
theorem s19_102 {x0 : Nat} {s0 : Nat} {s1 : Nat} : ip_WP 19 102 [some (.ref x0)] [.ref s1, .ref s0] (G, F, I, J) b post px ↔ ip_WP 19 103 [some (.ref x0)] [.ref s1, .ref s1, .ref s0] (G, F, I, J) b post px := ip_nx_iff ((ip_st_of f19_102).trans rfl)
theorem f19_103 : ip_fetch 19 103 = some (.bipush 17, 2) := by decide +kernel
theorem s19_103 {x0 : Nat} {s0 : Nat} {s1 : Nat} {s2 : Nat} : ip_WP 19 103 [some (.ref x0)] [.ref s2, .ref s1, .ref s0] (G, F, I, J) b post px ↔ ip_WP 19 105 [some (.ref x0)] [.int 17, .ref s2, .ref s1, .ref s0] (G, F, I, J) b post px := ip_s_bipush f19_103 (by decide)
theorem f19_105 : ip_fetch 19 105 = some (.bipush 108, 2) := by decide +kernel
theorem s19_105 {x0 : Nat} {s0 : Nat} {s1 : Nat} {s2 : Nat} {s3 : Int32} : ip_WP 19 105 [some (.ref x0)] [.int s3, .ref s2, .ref s1, .ref s0] (G, F, I, J) b post px ↔ ip_WP 19 107 [some (.ref x0)] [.int 108, .int s3, .ref s2, .ref s1, .ref s0] (G, F, I, J) b post px := ip_s_bipush f19_105 (by decide)
theorem f19_107 : ip_fetch 19 107 = some (.iastore, 1) := by decide +kernel
theorem s19_107 {x0 : Nat} {s0 : Nat} {s1 : Nat} {s2 : Nat} {s3 : Int32} {s4 : Int32} : ip_WP 19 107 [some (.ref x0)] [.int s4, .int s3, .ref s2, .ref s1, .ref s0] (G, F, I, J) b post px ↔ (ip_inA G s2 0 s3 = true ∧ ip_WP 19 108 [some (.ref x0)] [.ref s1, .ref s0] (G, F, ip_up I s2 s3.toNatClampNeg s4, J) b post px) := ip_ck_iff ((ip_st_of f19_107).trans rfl) ip_nx_iff
theorem f19_108 : ip_fetch 19 108 = some (.dup, 1) := by decide +kernel
theorem s19_108 {x0 : Nat} {s0 : Nat} {s1 : Nat} : ip_WP 19 108 [some (.ref x0)] [.ref s1, .ref s0] (G, F, I, J) b post px ↔ ip_WP 19 109 [some (.ref x0)] [.ref s1, .ref s1, .ref s0] (G, F, I, J) b post px := ip_nx_iff ((ip_st_of f19_108).trans rfl)
theorem f19_109 : ip_fetch 19 109 = some (.bipush 18, 2) := by decide +kernel
theorem s19_109 {x0 : Nat} {s0 : Nat} {s1 : Nat} {s2 : Nat} : ip_WP 19 109 [some (.ref x0)] [.ref s2, .ref s1, .ref s0] (G, F, I, J) b post px ↔ ip_WP 19 111 [some (.ref x0)] [.int 18, .ref s2, .ref s1, .ref s0] (G, F, I, J) b post px := ip_s_bipush f19_109 (by decide)
theorem f19_111 : ip_fetch 19 111 = some (.bipush 97, 2) := by decide +kernel
theorem s19_111 {x0 : Nat} {s0 : Nat} {s1 : Nat} {s2 : Nat} {s3 : Int32} : ip_WP 19 111 [some (.ref x0)] [.int s3, .ref s2, .ref s1, .ref s0] (G, F, I, J) b post px ↔ ip_WP 19 113 [some (.ref x0)] [.int 97, .int s3, .ref s2, .ref s1, .ref s0] (G, F, I, J) b post px := ip_s_bipush f19_111 (by decide)
theorem f19_113 : ip_fetch 19 113 = some (.iastore, 1) := by decide +kernel
theorem s19_113 {x0 : Nat} {s0 : Nat} {s1 : Nat} {s2 : Nat} {s3 : Int32} {s4 : Int32} : ip_WP 19 113 [some (.ref x0)] [.int s4, .int s3, .ref s2, .ref s1, .ref s0] (G, F, I, J) b post px ↔ (ip_inA G s2 0 s3 = true ∧ ip_WP 19 114 [some (.ref x0)] [.ref s1, .ref s0] (G, F, ip_up I s2 s3.toNatClampNeg s4, J) b post px) := ip_ck_iff ((ip_st_of f19_113).trans rfl) ip_nx_iff
theorem f19_114 : ip_fetch 19 114 = some (.dup, 1) := by decide +kernel
theorem s19_114 {x0 : Nat} {s0 : Nat} {s1 : Nat} : ip_WP 19 114 [some (.ref x0)] [.ref s1, .ref s0] (G, F, I, J) b post px ↔ ip_WP 19 115 [some (.ref x0)] [.ref s1, .ref s1, .ref s0] (G, F, I, J) b post px := ip_nx_iff ((ip_st_of f19_114).trans rfl)
theorem f19_115 : ip_fetch 19 115 = some (.bipush 19, 2) := by decide +kernel
theorem s19_115 {x0 : Nat} {s0 : Nat} {s1 : Nat} {s2 : Nat} : ip_WP 19 115 [some (.ref x0)] [.ref s2, .ref s1, .ref s0] (G, F, I, J) b post px ↔ ip_WP 19 117 [some (.ref x0)] [.int 19, .ref s2, .ref s1, .ref s0] (G, F, I, J) b post px := ip_s_bipush f19_115 (by decide)
theorem f19_117 : ip_fetch 19 117 = some (.bipush 116, 2) := by decide +kernel
theorem s19_117 {x0 : Nat} {s0 : Nat} {s1 : Nat} {s2 : Nat} {s3 : Int32} : ip_WP 19 117 [some (.ref x0)] [.int s3, .ref s2, .ref s1, .ref s0] (G, F, I, J) b post px ↔ ip_WP 19 119 [some (.ref x0)] [.int 116, .int s3, .ref s2, .ref s1, .ref s0] (G, F, I, J) b post px := ip_s_bipush f19_117 (by decide)
theorem f19_119 : ip_fetch 19 119 = some (.iastore, 1) := by decide +kernel
theorem s19_119 {x0 : Nat} {s0 : Nat} {s1 : Nat} {s2 : Nat} {s3 : Int32} {s4 : Int32} : ip_WP 19 119 [some (.ref x0)] [.int s4, .int s3, .ref s2, .ref s1, .ref s0] (G, F, I, J) b post px ↔ (ip_inA G s2 0 s3 = true ∧ ip_WP 19 120 [some (.ref x0)] [.ref s1, .ref s0] (G, F, ip_up I s2 s3.toNatClampNeg s4, J) b post px) := ip_ck_iff ((ip_st_of f19_119).trans rfl) ip_nx_iff
theorem f19_120 : ip_fetch 19 120 = some (.dup, 1) := by decide +kernel
theorem s19_120 {x0 : Nat} {s0 : Nat} {s1 : Nat} : ip_WP 19 120 [some (.ref x0)] [.ref s1, .ref s0] (G, F, I, J) b post px ↔ ip_WP 19 121 [some (.ref x0)] [.ref s1, .ref s1, .ref s0] (G, F, I, J) b post px := ip_nx_iff ((ip_st_of f19_120).trans rfl)
theorem f19_121 : ip_fetch 19 121 = some (.bipush 20, 2) := by decide +kernel
theorem s19_121 {x0 : Nat} {s0 : Nat} {s1 : Nat} {s2 : Nat} : ip_WP 19 121 [some (.ref x0)] [.ref s2, .ref s1, .ref s0] (G, F, I, J) b post px ↔ ip_WP 19 123 [some (.ref x0)] [.int 20, .ref s2, .ref s1, .ref s0] (G, F, I, J) b post px := ip_s_bipush f19_121 (by decide)
theorem f19_123 : ip_fetch 19 123 = some (.bipush 101, 2) := by decide +kernel
theorem s19_123 {x0 : Nat} {s0 : Nat} {s1 : Nat} {s2 : Nat} {s3 : Int32} : ip_WP 19 123 [some (.ref x0)] [.int s3, .ref s2, .ref s1, .ref s0] (G, F, I, J) b post px ↔ ip_WP 19 125 [some (.ref x0)] [.int 101, .int s3, .ref s2, .ref s1, .ref s0] (G, F, I, J) b post px := ip_s_bipush f19_123 (by decide)
theorem f19_125 : ip_fetch 19 125 = some (.iastore, 1) := by decide +kernel
theorem s19_125 {x0 : Nat} {s0 : Nat} {s1 : Nat} {s2 : Nat} {s3 : Int32} {s4 : Int32} : ip_WP 19 125 [some (.ref x0)] [.int s4, .int s3, .ref s2, .ref s1, .ref s0] (G, F, I, J) b post px ↔ (ip_inA G s2 0 s3 = true ∧ ip_WP 19 126 [some (.ref x0)] [.ref s1, .ref s0] (G, F, ip_up I s2 s3.toNatClampNeg s4, J) b post px) := ip_ck_iff ((ip_st_of f19_125).trans rfl) ip_nx_iff
theorem f19_126 : ip_fetch 19 126 = some (.dup, 1) := by decide +kernel
theorem s19_126 {x0 : Nat} {s0 : Nat} {s1 : Nat} : ip_WP 19 126 [some (.ref x0)] [.ref s1, .ref s0] (G, F, I, J) b post px ↔ ip_WP 19 127 [some (.ref x0)] [.ref s1, .ref s1, .ref s0] (G, F, I, J) b post px := ip_nx_iff ((ip_st_of f19_126).trans rfl)
theorem f19_127 : ip_fetch 19 127 = some (.bipush 21, 2) := by decide +kernel
theorem s19_127 {x0 : Nat} {s0 : Nat} {s1 : Nat} {s2 : Nat} : ip_WP 19 127 [some (.ref x0)] [.ref s2, .ref s1, .ref s0] (G, F, I, J) b post px ↔ ip_WP 19 129 [some (.ref x0)] [.int 21, .ref s2, .ref s1, .ref s0] (G, F, I, J) b post px := ip_s_bipush f19_127 (by decide)
theorem f19_129 : ip_fetch 19 129 = some (.bipush 110, 2) := by decide +kernel
theorem s19_129 {x0 : Nat} {s0 : Nat} {s1 : Nat} {s2 : Nat} {s3 : Int32} : ip_WP 19 129 [some (.ref x0)] [.int s3, .ref s2, .ref s1, .ref s0] (G, F, I, J) b post px ↔ ip_WP 19 131 [some (.ref x0)] [.int 110, .int s3, .ref s2, .ref s1, .ref s0] (G, F, I, J) b post px := ip_s_bipush f19_129 (by decide)
theorem f19_131 : ip_fetch 19 131 = some (.iastore, 1) := by decide +kernel
theorem s19_131 {x0 : Nat} {s0 : Nat} {s1 : Nat} {s2 : Nat} {s3 : Int32} {s4 : Int32} : ip_WP 19 131 [some (.ref x0)] [.int s4, .int s3, .ref s2, .ref s1, .ref s0] (G, F, I, J) b post px ↔ (ip_inA G s2 0 s3 = true ∧ ip_WP 19 132 [some (.ref x0)] [.ref s1, .ref s0] (G, F, ip_up I s2 s3.toNatClampNeg s4, J) b post px) := ip_ck_iff ((ip_st_of f19_131).trans rfl) ip_nx_iff
theorem f19_132 : ip_fetch 19 132 = some (.dup, 1) := by decide +kernel
theorem s19_132 {x0 : Nat} {s0 : Nat} {s1 : Nat} : ip_WP 19 132 [some (.ref x0)] [.ref s1, .ref s0] (G, F, I, J) b post px ↔ ip_WP 19 133 [some (.ref x0)] [.ref s1, .ref s1, .ref s0] (G, F, I, J) b post px := ip_nx_iff ((ip_st_of f19_132).trans rfl)
theorem f19_133 : ip_fetch 19 133 = some (.bipush 22, 2) := by decide +kernel
theorem s19_133 {x0 : Nat} {s0 : Nat} {s1 : Nat} {s2 : Nat} : ip_WP 19 133 [some (.ref x0)] [.ref s2, .ref s1, .ref s0] (G, F, I, J) b post px ↔ ip_WP 19 135 [some (.ref x0)] [.int 22, .ref s2, .ref s1, .ref s0] (G, F, I, J) b post px := ip_s_bipush f19_133 (by decide)
theorem f19_135 : ip_fetch 19 135 = some (.bipush 99, 2) := by decide +kernel
theorem s19_135 {x0 : Nat} {s0 : Nat} {s1 : Nat} {s2 : Nat} {s3 : Int32} : ip_WP 19 135 [some (.ref x0)] [.int s3, .ref s2, .ref s1, .ref s0] (G, F, I, J) b post px ↔ ip_WP 19 137 [some (.ref x0)] [.int 99, .int s3, .ref s2, .ref s1, .ref s0] (G, F, I, J) b post px := ip_s_bipush f19_135 (by decide)
theorem f19_137 : ip_fetch 19 137 = some (.iastore, 1) := by decide +kernel
theorem s19_137 {x0 : Nat} {s0 : Nat} {s1 : Nat} {s2 : Nat} {s3 : Int32} {s4 : Int32} : ip_WP 19 137 [some (.ref x0)] [.int s4, .int s3, .ref s2, .ref s1, .ref s0] (G, F, I, J) b post px ↔ (ip_inA G s2 0 s3 = true ∧ ip_WP 19 138 [some (.ref x0)] [.ref s1, .ref s0] (G, F, ip_up I s2 s3.toNatClampNeg s4, J) b post px) := ip_ck_iff ((ip_st_of f19_137).trans rfl) ip_nx_iff
theorem f19_138 : ip_fetch 19 138 = some (.dup, 1) := by decide +kernel
theorem s19_138 {x0 : Nat} {s0 : Nat} {s1 : Nat} : ip_WP 19 138 [some (.ref x0)] [.ref s1, .ref s0] (G, F, I, J) b post px ↔ ip_WP 19 139 [some (.ref x0)] [.ref s1, .ref s1, .ref s0] (G, F, I, J) b post px := ip_nx_iff ((ip_st_of f19_138).trans rfl)
theorem f19_139 : ip_fetch 19 139 = some (.bipush 23, 2) := by decide +kernel
theorem s19_139 {x0 : Nat} {s0 : Nat} {s1 : Nat} {s2 : Nat} : ip_WP 19 139 [some (.ref x0)] [.ref s2, .ref s1, .ref s0] (G, F, I, J) b post px ↔ ip_WP 19 141 [some (.ref x0)] [.int 23, .ref s2, .ref s1, .ref s0] (G, F, I, J) b post px := ip_s_bipush f19_139 (by decide)
theorem f19_141 : ip_fetch 19 141 = some (.bipush 121, 2) := by decide +kernel
theorem s19_141 {x0 : Nat} {s0 : Nat} {s1 : Nat} {s2 : Nat} {s3 : Int32} : ip_WP 19 141 [some (.ref x0)] [.int s3, .ref s2, .ref s1, .ref s0] (G, F, I, J) b post px ↔ ip_WP 19 143 [some (.ref x0)] [.int 121, .int s3, .ref s2, .ref s1, .ref s0] (G, F, I, J) b post px := ip_s_bipush f19_141 (by decide)
theorem f19_143 : ip_fetch 19 143 = some (.iastore, 1) := by decide +kernel
theorem s19_143 {x0 : Nat} {s0 : Nat} {s1 : Nat} {s2 : Nat} {s3 : Int32} {s4 : Int32} : ip_WP 19 143 [some (.ref x0)] [.int s4, .int s3, .ref s2, .ref s1, .ref s0] (G, F, I, J) b post px ↔ (ip_inA G s2 0 s3 = true ∧ ip_WP 19 144 [some (.ref x0)] [.ref s1, .ref s0] (G, F, ip_up I s2 s3.toNatClampNeg s4, J) b post px) := ip_ck_iff ((ip_st_of f19_143).trans rfl) ip_nx_iff
theorem f19_144 : ip_fetch 19 144 = some (.dup, 1) := by decide +kernel
theorem s19_144 {x0 : Nat} {s0 : Nat} {s1 : Nat} : ip_WP 19 144 [some (.ref x0)] [.ref s1, .ref s0] (G, F, I, J) b post px ↔ ip_WP 19 145 [some (.ref x0)] [.ref s1, .ref s1, .ref s0] (G, F, I, J) b post px := ip_nx_iff ((ip_st_of f19_144).trans rfl)
theorem f19_145 : ip_fetch 19 145 = some (.bipush 24, 2) := by decide +kernel
theorem s19_145 {x0 : Nat} {s0 : Nat} {s1 : Nat} {s2 : Nat} : ip_WP 19 145 [some (.ref x0)] [.ref s2, .ref s1, .ref s0] (G, F, I, J) b post px ↔ ip_WP 19 147 [some (.ref x0)] [.int 24, .ref s2, .ref s1, .ref s0] (G, F, I, J) b post px := ip_s_bipush f19_145 (by decide)
theorem f19_147 : ip_fetch 19 147 = some (.iconst 0, 1) := by decide +kernel
theorem s19_147 {x0 : Nat} {s0 : Nat} {s1 : Nat} {s2 : Nat} {s3 : Int32} : ip_WP 19 147 [some (.ref x0)] [.int s3, .ref s2, .ref s1, .ref s0] (G, F, I, J) b post px ↔ ip_WP 19 148 [some (.ref x0)] [.int 0, .int s3, .ref s2, .ref s1, .ref s0] (G, F, I, J) b post px := ip_s_iconst f19_147 (by decide)
theorem f19_148 : ip_fetch 19 148 = some (.iastore, 1) := by decide +kernel
theorem s19_148 {x0 : Nat} {s0 : Nat} {s1 : Nat} {s2 : Nat} {s3 : Int32} {s4 : Int32} : ip_WP 19 148 [some (.ref x0)] [.int s4, .int s3, .ref s2, .ref s1, .ref s0] (G, F, I, J) b post px ↔ (ip_inA G s2 0 s3 = true ∧ ip_WP 19 149 [some (.ref x0)] [.ref s1, .ref s0] (G, F, ip_up I s2 s3.toNatClampNeg s4, J) b post px) := ip_ck_iff ((ip_st_of f19_148).trans rfl) ip_nx_iff
theorem f19_149 : ip_fetch 19 149 = some (.dup, 1) := by decide +kernel
theorem s19_149 {x0 : Nat} {s0 : Nat} {s1 : Nat} : ip_WP 19 149 [some (.ref x0)] [.ref s1, .ref s0] (G, F, I, J) b post px ↔ ip_WP 19 150 [some (.ref x0)] [.ref s1, .ref s1, .ref s0] (G, F, I, J) b post px := ip_nx_iff ((ip_st_of f19_149).trans rfl)
theorem f19_150 : ip_fetch 19 150 = some (.bipush 25, 2) := by decide +kernel
theorem s19_150 {x0 : Nat} {s0 : Nat} {s1 : Nat} {s2 : Nat} : ip_WP 19 150 [some (.ref x0)] [.ref s2, .ref s1, .ref s0] (G, F, I, J) b post px ↔ ip_WP 19 152 [some (.ref x0)] [.int 25, .ref s2, .ref s1, .ref s0] (G, F, I, J) b post px := ip_s_bipush f19_150 (by decide)
theorem f19_152 : ip_fetch 19 152 = some (.bipush 114, 2) := by decide +kernel
theorem s19_152 {x0 : Nat} {s0 : Nat} {s1 : Nat} {s2 : Nat} {s3 : Int32} : ip_WP 19 152 [some (.ref x0)] [.int s3, .ref s2, .ref s1, .ref s0] (G, F, I, J) b post px ↔ ip_WP 19 154 [some (.ref x0)] [.int 114, .int s3, .ref s2, .ref s1, .ref s0] (G, F, I, J) b post px := ip_s_bipush f19_152 (by decide)
theorem f19_154 : ip_fetch 19 154 = some (.iastore, 1) := by decide +kernel
theorem s19_154 {x0 : Nat} {s0 : Nat} {s1 : Nat} {s2 : Nat} {s3 : Int32} {s4 : Int32} : ip_WP 19 154 [some (.ref x0)] [.int s4, .int s3, .ref s2, .ref s1, .ref s0] (G, F, I, J) b post px ↔ (ip_inA G s2 0 s3 = true ∧ ip_WP 19 155 [some (.ref x0)] [.ref s1, .ref s0] (G, F, ip_up I s2 s3.toNatClampNeg s4, J) b post px) := ip_ck_iff ((ip_st_of f19_154).trans rfl) ip_nx_iff
theorem f19_155 : ip_fetch 19 155 = some (.dup, 1) := by decide +kernel
theorem s19_155 {x0 : Nat} {s0 : Nat} {s1 : Nat} : ip_WP 19 155 [some (.ref x0)] [.ref s1, .ref s0] (G, F, I, J) b post px ↔ ip_WP 19 156 [some (.ref x0)] [.ref s1, .ref s1, .ref s0] (G, F, I, J) b post px := ip_nx_iff ((ip_st_of f19_155).trans rfl)
theorem f19_156 : ip_fetch 19 156 = some (.bipush 26, 2) := by decide +kernel
theorem s19_156 {x0 : Nat} {s0 : Nat} {s1 : Nat} {s2 : Nat} : ip_WP 19 156 [some (.ref x0)] [.ref s2, .ref s1, .ref s0] (G, F, I, J) b post px ↔ ip_WP 19 158 [some (.ref x0)] [.int 26, .ref s2, .ref s1, .ref s0] (G, F, I, J) b post px := ip_s_bipush f19_156 (by decide)
theorem f19_158 : ip_fetch 19 158 = some (.bipush 101, 2) := by decide +kernel
theorem s19_158 {x0 : Nat} {s0 : Nat} {s1 : Nat} {s2 : Nat} {s3 : Int32} : ip_WP 19 158 [some (.ref x0)] [.int s3, .ref s2, .ref s1, .ref s0] (G, F, I, J) b post px ↔ ip_WP 19 160 [some (.ref x0)] [.int 101, .int s3, .ref s2, .ref s1, .ref s0] (G, F, I, J) b post px := ip_s_bipush f19_158 (by decide)
theorem f19_160 : ip_fetch 19 160 = some (.iastore, 1) := by decide +kernel
theorem s19_160 {x0 : Nat} {s0 : Nat} {s1 : Nat} {s2 : Nat} {s3 : Int32} {s4 : Int32} : ip_WP 19 160 [some (.ref x0)] [.int s4, .int s3, .ref s2, .ref s1, .ref s0] (G, F, I, J) b post px ↔ (ip_inA G s2 0 s3 = true ∧ ip_WP 19 161 [some (.ref x0)] [.ref s1, .ref s0] (G, F, ip_up I s2 s3.toNatClampNeg s4, J) b post px) := ip_ck_iff ((ip_st_of f19_160).trans rfl) ip_nx_iff
theorem f19_161 : ip_fetch 19 161 = some (.dup, 1) := by decide +kernel
theorem s19_161 {x0 : Nat} {s0 : Nat} {s1 : Nat} : ip_WP 19 161 [some (.ref x0)] [.ref s1, .ref s0] (G, F, I, J) b post px ↔ ip_WP 19 162 [some (.ref x0)] [.ref s1, .ref s1, .ref s0] (G, F, I, J) b post px := ip_nx_iff ((ip_st_of f19_161).trans rfl)
theorem f19_162 : ip_fetch 19 162 = some (.bipush 27, 2) := by decide +kernel
theorem s19_162 {x0 : Nat} {s0 : Nat} {s1 : Nat} {s2 : Nat} : ip_WP 19 162 [some (.ref x0)] [.ref s2, .ref s1, .ref s0] (G, F, I, J) b post px ↔ ip_WP 19 164 [some (.ref x0)] [.int 27, .ref s2, .ref s1, .ref s0] (G, F, I, J) b post px := ip_s_bipush f19_162 (by decide)
theorem f19_164 : ip_fetch 19 164 = some (.bipush 115, 2) := by decide +kernel
theorem s19_164 {x0 : Nat} {s0 : Nat} {s1 : Nat} {s2 : Nat} {s3 : Int32} : ip_WP 19 164 [some (.ref x0)] [.int s3, .ref s2, .ref s1, .ref s0] (G, F, I, J) b post px ↔ ip_WP 19 166 [some (.ref x0)] [.int 115, .int s3, .ref s2, .ref s1, .ref s0] (G, F, I, J) b post px := ip_s_bipush f19_164 (by decide)
theorem f19_166 : ip_fetch 19 166 = some (.iastore, 1) := by decide +kernel
theorem s19_166 {x0 : Nat} {s0 : Nat} {s1 : Nat} {s2 : Nat} {s3 : Int32} {s4 : Int32} : ip_WP 19 166 [some (.ref x0)] [.int s4, .int s3, .ref s2, .ref s1, .ref s0] (G, F, I, J) b post px ↔ (ip_inA G s2 0 s3 = true ∧ ip_WP 19 167 [some (.ref x0)] [.ref s1, .ref s0] (G, F, ip_up I s2 s3.toNatClampNeg s4, J) b post px) := ip_ck_iff ((ip_st_of f19_166).trans rfl) ip_nx_iff
theorem f19_167 : ip_fetch 19 167 = some (.dup, 1) := by decide +kernel
theorem s19_167 {x0 : Nat} {s0 : Nat} {s1 : Nat} : ip_WP 19 167 [some (.ref x0)] [.ref s1, .ref s0] (G, F, I, J) b post px ↔ ip_WP 19 168 [some (.ref x0)] [.ref s1, .ref s1, .ref s0] (G, F, I, J) b post px := ip_nx_iff ((ip_st_of f19_167).trans rfl)
theorem f19_168 : ip_fetch 19 168 = some (.bipush 28, 2) := by decide +kernel
theorem s19_168 {x0 : Nat} {s0 : Nat} {s1 : Nat} {s2 : Nat} : ip_WP 19 168 [some (.ref x0)] [.ref s2, .ref s1, .ref s0] (G, F, I, J) b post px ↔ ip_WP 19 170 [some (.ref x0)] [.int 28, .ref s2, .ref s1, .ref s0] (G, F, I, J) b post px := ip_s_bipush f19_168 (by decide)
theorem f19_170 : ip_fetch 19 170 = some (.bipush 117, 2) := by decide +kernel
theorem s19_170 {x0 : Nat} {s0 : Nat} {s1 : Nat} {s2 : Nat} {s3 : Int32} : ip_WP 19 170 [some (.ref x0)] [.int s3, .ref s2, .ref s1, .ref s0] (G, F, I, J) b post px ↔ ip_WP 19 172 [some (.ref x0)] [.int 117, .int s3, .ref s2, .ref s1, .ref s0] (G, F, I, J) b post px := ip_s_bipush f19_170 (by decide)
theorem f19_172 : ip_fetch 19 172 = some (.iastore, 1) := by decide +kernel
theorem s19_172 {x0 : Nat} {s0 : Nat} {s1 : Nat} {s2 : Nat} {s3 : Int32} {s4 : Int32} : ip_WP 19 172 [some (.ref x0)] [.int s4, .int s3, .ref s2, .ref s1, .ref s0] (G, F, I, J) b post px ↔ (ip_inA G s2 0 s3 = true ∧ ip_WP 19 173 [some (.ref x0)] [.ref s1, .ref s0] (G, F, ip_up I s2 s3.toNatClampNeg s4, J) b post px) := ip_ck_iff ((ip_st_of f19_172).trans rfl) ip_nx_iff
theorem f19_173 : ip_fetch 19 173 = some (.dup, 1) := by decide +kernel
theorem s19_173 {x0 : Nat} {s0 : Nat} {s1 : Nat} : ip_WP 19 173 [some (.ref x0)] [.ref s1, .ref s0] (G, F, I, J) b post px ↔ ip_WP 19 174 [some (.ref x0)] [.ref s1, .ref s1, .ref s0] (G, F, I, J) b post px := ip_nx_iff ((ip_st_of f19_173).trans rfl)
theorem f19_174 : ip_fetch 19 174 = some (.bipush 29, 2) := by decide +kernel
theorem s19_174 {x0 : Nat} {s0 : Nat} {s1 : Nat} {s2 : Nat} : ip_WP 19 174 [some (.ref x0)] [.ref s2, .ref s1, .ref s0] (G, F, I, J) b post px ↔ ip_WP 19 176 [some (.ref x0)] [.int 29, .ref s2, .ref s1, .ref s0] (G, F, I, J) b post px := ip_s_bipush f19_174 (by decide)
theorem f19_176 : ip_fetch 19 176 = some (.bipush 108, 2) := by decide +kernel
theorem s19_176 {x0 : Nat} {s0 : Nat} {s1 : Nat} {s2 : Nat} {s3 : Int32} : ip_WP 19 176 [some (.ref x0)] [.int s3, .ref s2, .ref s1, .ref s0] (G, F, I, J) b post px ↔ ip_WP 19 178 [some (.ref x0)] [.int 108, .int s3, .ref s2, .ref s1, .ref s0] (G, F, I, J) b post px := ip_s_bipush f19_176 (by decide)
theorem f19_178 : ip_fetch 19 178 = some (.iastore, 1) := by decide +kernel
theorem s19_178 {x0 : Nat} {s0 : Nat} {s1 : Nat} {s2 : Nat} {s3 : Int32} {s4 : Int32} : ip_WP 19 178 [some (.ref x0)] [.int s4, .int s3, .ref s2, .ref s1, .ref s0] (G, F, I, J) b post px ↔ (ip_inA G s2 0 s3 = true ∧ ip_WP 19 179 [some (.ref x0)] [.ref s1, .ref s0] (G, F, ip_up I s2 s3.toNatClampNeg s4, J) b post px) := ip_ck_iff ((ip_st_of f19_178).trans rfl) ip_nx_iff
theorem f19_179 : ip_fetch 19 179 = some (.dup, 1) := by decide +kernel
theorem s19_179 {x0 : Nat} {s0 : Nat} {s1 : Nat} : ip_WP 19 179 [some (.ref x0)] [.ref s1, .ref s0] (G, F, I, J) b post px ↔ ip_WP 19 180 [some (.ref x0)] [.ref s1, .ref s1, .ref s0] (G, F, I, J) b post px := ip_nx_iff ((ip_st_of f19_179).trans rfl)
theorem f19_180 : ip_fetch 19 180 = some (.bipush 30, 2) := by decide +kernel
theorem s19_180 {x0 : Nat} {s0 : Nat} {s1 : Nat} {s2 : Nat} : ip_WP 19 180 [some (.ref x0)] [.ref s2, .ref s1, .ref s0] (G, F, I, J) b post px ↔ ip_WP 19 182 [some (.ref x0)] [.int 30, .ref s2, .ref s1, .ref s0] (G, F, I, J) b post px := ip_s_bipush f19_180 (by decide)
theorem f19_182 : ip_fetch 19 182 = some (.bipush 116, 2) := by decide +kernel
theorem s19_182 {x0 : Nat} {s0 : Nat} {s1 : Nat} {s2 : Nat} {s3 : Int32} : ip_WP 19 182 [some (.ref x0)] [.int s3, .ref s2, .ref s1, .ref s0] (G, F, I, J) b post px ↔ ip_WP 19 184 [some (.ref x0)] [.int 116, .int s3, .ref s2, .ref s1, .ref s0] (G, F, I, J) b post px := ip_s_bipush f19_182 (by decide)
theorem f19_184 : ip_fetch 19 184 = some (.iastore, 1) := by decide +kernel
theorem s19_184 {x0 : Nat} {s0 : Nat} {s1 : Nat} {s2 : Nat} {s3 : Int32} {s4 : Int32} : ip_WP 19 184 [some (.ref x0)] [.int s4, .int s3, .ref s2, .ref s1, .ref s0] (G, F, I, J) b post px ↔ (ip_inA G s2 0 s3 = true ∧ ip_WP 19 185 [some (.ref x0)] [.ref s1, .ref s0] (G, F, ip_up I s2 s3.toNatClampNeg s4, J) b post px) := ip_ck_iff ((ip_st_of f19_184).trans rfl) ip_nx_iff
theorem f19_185 : ip_fetch 19 185 = some (.dup, 1) := by decide +kernel
theorem s19_185 {x0 : Nat} {s0 : Nat} {s1 : Nat} : ip_WP 19 185 [some (.ref x0)] [.ref s1, .ref s0] (G, F, I, J) b post px ↔ ip_WP 19 186 [some (.ref x0)] [.ref s1, .ref s1, .ref s0] (G, F, I, J) b post px := ip_nx_iff ((ip_st_of f19_185).trans rfl)
theorem f19_186 : ip_fetch 19 186 = some (.bipush 31, 2) := by decide +kernel
theorem s19_186 {x0 : Nat} {s0 : Nat} {s1 : Nat} {s2 : Nat} : ip_WP 19 186 [some (.ref x0)] [.ref s2, .ref s1, .ref s0] (G, F, I, J) b post px ↔ ip_WP 19 188 [some (.ref x0)] [.int 31, .ref s2, .ref s1, .ref s0] (G, F, I, J) b post px := ip_s_bipush f19_186 (by decide)
theorem f19_188 : ip_fetch 19 188 = some (.iconst 0, 1) := by decide +kernel
theorem s19_188 {x0 : Nat} {s0 : Nat} {s1 : Nat} {s2 : Nat} {s3 : Int32} : ip_WP 19 188 [some (.ref x0)] [.int s3, .ref s2, .ref s1, .ref s0] (G, F, I, J) b post px ↔ ip_WP 19 189 [some (.ref x0)] [.int 0, .int s3, .ref s2, .ref s1, .ref s0] (G, F, I, J) b post px := ip_s_iconst f19_188 (by decide)
theorem f19_189 : ip_fetch 19 189 = some (.iastore, 1) := by decide +kernel
theorem s19_189 {x0 : Nat} {s0 : Nat} {s1 : Nat} {s2 : Nat} {s3 : Int32} {s4 : Int32} : ip_WP 19 189 [some (.ref x0)] [.int s4, .int s3, .ref s2, .ref s1, .ref s0] (G, F, I, J) b post px ↔ (ip_inA G s2 0 s3 = true ∧ ip_WP 19 190 [some (.ref x0)] [.ref s1, .ref s0] (G, F, ip_up I s2 s3.toNatClampNeg s4, J) b post px) := ip_ck_iff ((ip_st_of f19_189).trans rfl) ip_nx_iff
theorem f19_190 : ip_fetch 19 190 = some (.dup, 1) := by decide +kernel
theorem s19_190 {x0 : Nat} {s0 : Nat} {s1 : Nat} : ip_WP 19 190 [some (.ref x0)] [.ref s1, .ref s0] (G, F, I, J) b post px ↔ ip_WP 19 191 [some (.ref x0)] [.ref s1, .ref s1, .ref s0] (G, F, I, J) b post px := ip_nx_iff ((ip_st_of f19_190).trans rfl)
theorem f19_191 : ip_fetch 19 191 = some (.bipush 32, 2) := by decide +kernel
theorem s19_191 {x0 : Nat} {s0 : Nat} {s1 : Nat} {s2 : Nat} : ip_WP 19 191 [some (.ref x0)] [.ref s2, .ref s1, .ref s0] (G, F, I, J) b post px ↔ ip_WP 19 193 [some (.ref x0)] [.int 32, .ref s2, .ref s1, .ref s0] (G, F, I, J) b post px := ip_s_bipush f19_191 (by decide)
theorem f19_193 : ip_fetch 19 193 = some (.bipush 112, 2) := by decide +kernel
theorem s19_193 {x0 : Nat} {s0 : Nat} {s1 : Nat} {s2 : Nat} {s3 : Int32} : ip_WP 19 193 [some (.ref x0)] [.int s3, .ref s2, .ref s1, .ref s0] (G, F, I, J) b post px ↔ ip_WP 19 195 [some (.ref x0)] [.int 112, .int s3, .ref s2, .ref s1, .ref s0] (G, F, I, J) b post px := ip_s_bipush f19_193 (by decide)
theorem f19_195 : ip_fetch 19 195 = some (.iastore, 1) := by decide +kernel
theorem s19_195 {x0 : Nat} {s0 : Nat} {s1 : Nat} {s2 : Nat} {s3 : Int32} {s4 : Int32} : ip_WP 19 195 [some (.ref x0)] [.int s4, .int s3, .ref s2, .ref s1, .ref s0] (G, F, I, J) b post px ↔ (ip_inA G s2 0 s3 = true ∧ ip_WP 19 196 [some (.ref x0)] [.ref s1, .ref s0] (G, F, ip_up I s2 s3.toNatClampNeg s4, J) b post px) := ip_ck_iff ((ip_st_of f19_195).trans rfl) ip_nx_iff
theorem f19_196 : ip_fetch 19 196 = some (.dup, 1) := by decide +kernel
theorem s19_196 {x0 : Nat} {s0 : Nat} {s1 : Nat} : ip_WP 19 196 [some (.ref x0)] [.ref s1, .ref s0] (G, F, I, J) b post px ↔ ip_WP 19 197 [some (.ref x0)] [.ref s1, .ref s1, .ref s0] (G, F, I, J) b post px := ip_nx_iff ((ip_st_of f19_196).trans rfl)
theorem f19_197 : ip_fetch 19 197 = some (.bipush 33, 2) := by decide +kernel
theorem s19_197 {x0 : Nat} {s0 : Nat} {s1 : Nat} {s2 : Nat} : ip_WP 19 197 [some (.ref x0)] [.ref s2, .ref s1, .ref s0] (G, F, I, J) b post px ↔ ip_WP 19 199 [some (.ref x0)] [.int 33, .ref s2, .ref s1, .ref s0] (G, F, I, J) b post px := ip_s_bipush f19_197 (by decide)
theorem f19_199 : ip_fetch 19 199 = some (.bipush 97, 2) := by decide +kernel
theorem s19_199 {x0 : Nat} {s0 : Nat} {s1 : Nat} {s2 : Nat} {s3 : Int32} : ip_WP 19 199 [some (.ref x0)] [.int s3, .ref s2, .ref s1, .ref s0] (G, F, I, J) b post px ↔ ip_WP 19 201 [some (.ref x0)] [.int 97, .int s3, .ref s2, .ref s1, .ref s0] (G, F, I, J) b post px := ip_s_bipush f19_199 (by decide)
theorem f19_201 : ip_fetch 19 201 = some (.iastore, 1) := by decide +kernel
theorem s19_201 {x0 : Nat} {s0 : Nat} {s1 : Nat} {s2 : Nat} {s3 : Int32} {s4 : Int32} : ip_WP 19 201 [some (.ref x0)] [.int s4, .int s3, .ref s2, .ref s1, .ref s0] (G, F, I, J) b post px ↔ (ip_inA G s2 0 s3 = true ∧ ip_WP 19 202 [some (.ref x0)] [.ref s1, .ref s0] (G, F, ip_up I s2 s3.toNatClampNeg s4, J) b post px) := ip_ck_iff ((ip_st_of f19_201).trans rfl) ip_nx_iff
theorem f19_202 : ip_fetch 19 202 = some (.dup, 1) := by decide +kernel
theorem s19_202 {x0 : Nat} {s0 : Nat} {s1 : Nat} : ip_WP 19 202 [some (.ref x0)] [.ref s1, .ref s0] (G, F, I, J) b post px ↔ ip_WP 19 203 [some (.ref x0)] [.ref s1, .ref s1, .ref s0] (G, F, I, J) b post px := ip_nx_iff ((ip_st_of f19_202).trans rfl)
theorem f19_203 : ip_fetch 19 203 = some (.bipush 34, 2) := by decide +kernel
theorem s19_203 {x0 : Nat} {s0 : Nat} {s1 : Nat} {s2 : Nat} : ip_WP 19 203 [some (.ref x0)] [.ref s2, .ref s1, .ref s0] (G, F, I, J) b post px ↔ ip_WP 19 205 [some (.ref x0)] [.int 34, .ref s2, .ref s1, .ref s0] (G, F, I, J) b post px := ip_s_bipush f19_203 (by decide)
theorem f19_205 : ip_fetch 19 205 = some (.bipush 116, 2) := by decide +kernel
theorem s19_205 {x0 : Nat} {s0 : Nat} {s1 : Nat} {s2 : Nat} {s3 : Int32} : ip_WP 19 205 [some (.ref x0)] [.int s3, .ref s2, .ref s1, .ref s0] (G, F, I, J) b post px ↔ ip_WP 19 207 [some (.ref x0)] [.int 116, .int s3, .ref s2, .ref s1, .ref s0] (G, F, I, J) b post px := ip_s_bipush f19_205 (by decide)
theorem f19_207 : ip_fetch 19 207 = some (.iastore, 1) := by decide +kernel
theorem s19_207 {x0 : Nat} {s0 : Nat} {s1 : Nat} {s2 : Nat} {s3 : Int32} {s4 : Int32} : ip_WP 19 207 [some (.ref x0)] [.int s4, .int s3, .ref s2, .ref s1, .ref s0] (G, F, I, J) b post px ↔ (ip_inA G s2 0 s3 = true ∧ ip_WP 19 208 [some (.ref x0)] [.ref s1, .ref s0] (G, F, ip_up I s2 s3.toNatClampNeg s4, J) b post px) := ip_ck_iff ((ip_st_of f19_207).trans rfl) ip_nx_iff
theorem f19_208 : ip_fetch 19 208 = some (.dup, 1) := by decide +kernel
theorem s19_208 {x0 : Nat} {s0 : Nat} {s1 : Nat} : ip_WP 19 208 [some (.ref x0)] [.ref s1, .ref s0] (G, F, I, J) b post px ↔ ip_WP 19 209 [some (.ref x0)] [.ref s1, .ref s1, .ref s0] (G, F, I, J) b post px := ip_nx_iff ((ip_st_of f19_208).trans rfl)
theorem f19_209 : ip_fetch 19 209 = some (.bipush 35, 2) := by decide +kernel
theorem s19_209 {x0 : Nat} {s0 : Nat} {s1 : Nat} {s2 : Nat} : ip_WP 19 209 [some (.ref x0)] [.ref s2, .ref s1, .ref s0] (G, F, I, J) b post px ↔ ip_WP 19 211 [some (.ref x0)] [.int 35, .ref s2, .ref s1, .ref s0] (G, F, I, J) b post px := ip_s_bipush f19_209 (by decide)
theorem f19_211 : ip_fetch 19 211 = some (.bipush 104, 2) := by decide +kernel
theorem s19_211 {x0 : Nat} {s0 : Nat} {s1 : Nat} {s2 : Nat} {s3 : Int32} : ip_WP 19 211 [some (.ref x0)] [.int s3, .ref s2, .ref s1, .ref s0] (G, F, I, J) b post px ↔ ip_WP 19 213 [some (.ref x0)] [.int 104, .int s3, .ref s2, .ref s1, .ref s0] (G, F, I, J) b post px := ip_s_bipush f19_211 (by decide)
theorem f19_213 : ip_fetch 19 213 = some (.iastore, 1) := by decide +kernel
theorem s19_213 {x0 : Nat} {s0 : Nat} {s1 : Nat} {s2 : Nat} {s3 : Int32} {s4 : Int32} : ip_WP 19 213 [some (.ref x0)] [.int s4, .int s3, .ref s2, .ref s1, .ref s0] (G, F, I, J) b post px ↔ (ip_inA G s2 0 s3 = true ∧ ip_WP 19 214 [some (.ref x0)] [.ref s1, .ref s0] (G, F, ip_up I s2 s3.toNatClampNeg s4, J) b post px) := ip_ck_iff ((ip_st_of f19_213).trans rfl) ip_nx_iff
theorem f19_214 : ip_fetch 19 214 = some (.dup, 1) := by decide +kernel
theorem s19_214 {x0 : Nat} {s0 : Nat} {s1 : Nat} : ip_WP 19 214 [some (.ref x0)] [.ref s1, .ref s0] (G, F, I, J) b post px ↔ ip_WP 19 215 [some (.ref x0)] [.ref s1, .ref s1, .ref s0] (G, F, I, J) b post px := ip_nx_iff ((ip_st_of f19_214).trans rfl)
theorem f19_215 : ip_fetch 19 215 = some (.bipush 36, 2) := by decide +kernel
theorem s19_215 {x0 : Nat} {s0 : Nat} {s1 : Nat} {s2 : Nat} : ip_WP 19 215 [some (.ref x0)] [.ref s2, .ref s1, .ref s0] (G, F, I, J) b post px ↔ ip_WP 19 217 [some (.ref x0)] [.int 36, .ref s2, .ref s1, .ref s0] (G, F, I, J) b post px := ip_s_bipush f19_215 (by decide)
theorem f19_217 : ip_fetch 19 217 = some (.iconst 0, 1) := by decide +kernel
theorem s19_217 {x0 : Nat} {s0 : Nat} {s1 : Nat} {s2 : Nat} {s3 : Int32} : ip_WP 19 217 [some (.ref x0)] [.int s3, .ref s2, .ref s1, .ref s0] (G, F, I, J) b post px ↔ ip_WP 19 218 [some (.ref x0)] [.int 0, .int s3, .ref s2, .ref s1, .ref s0] (G, F, I, J) b post px := ip_s_iconst f19_217 (by decide)
theorem f19_218 : ip_fetch 19 218 = some (.iastore, 1) := by decide +kernel
theorem s19_218 {x0 : Nat} {s0 : Nat} {s1 : Nat} {s2 : Nat} {s3 : Int32} {s4 : Int32} : ip_WP 19 218 [some (.ref x0)] [.int s4, .int s3, .ref s2, .ref s1, .ref s0] (G, F, I, J) b post px ↔ (ip_inA G s2 0 s3 = true ∧ ip_WP 19 219 [some (.ref x0)] [.ref s1, .ref s0] (G, F, ip_up I s2 s3.toNatClampNeg s4, J) b post px) := ip_ck_iff ((ip_st_of f19_218).trans rfl) ip_nx_iff
theorem f19_219 : ip_fetch 19 219 = some (.dup, 1) := by decide +kernel
theorem s19_219 {x0 : Nat} {s0 : Nat} {s1 : Nat} : ip_WP 19 219 [some (.ref x0)] [.ref s1, .ref s0] (G, F, I, J) b post px ↔ ip_WP 19 220 [some (.ref x0)] [.ref s1, .ref s1, .ref s0] (G, F, I, J) b post px := ip_nx_iff ((ip_st_of f19_219).trans rfl)
theorem f19_220 : ip_fetch 19 220 = some (.bipush 37, 2) := by decide +kernel
theorem s19_220 {x0 : Nat} {s0 : Nat} {s1 : Nat} {s2 : Nat} : ip_WP 19 220 [some (.ref x0)] [.ref s2, .ref s1, .ref s0] (G, F, I, J) b post px ↔ ip_WP 19 222 [some (.ref x0)] [.int 37, .ref s2, .ref s1, .ref s0] (G, F, I, J) b post px := ip_s_bipush f19_220 (by decide)
theorem f19_222 : ip_fetch 19 222 = some (.bipush 115, 2) := by decide +kernel
theorem s19_222 {x0 : Nat} {s0 : Nat} {s1 : Nat} {s2 : Nat} {s3 : Int32} : ip_WP 19 222 [some (.ref x0)] [.int s3, .ref s2, .ref s1, .ref s0] (G, F, I, J) b post px ↔ ip_WP 19 224 [some (.ref x0)] [.int 115, .int s3, .ref s2, .ref s1, .ref s0] (G, F, I, J) b post px := ip_s_bipush f19_222 (by decide)
theorem f19_224 : ip_fetch 19 224 = some (.iastore, 1) := by decide +kernel
theorem s19_224 {x0 : Nat} {s0 : Nat} {s1 : Nat} {s2 : Nat} {s3 : Int32} {s4 : Int32} : ip_WP 19 224 [some (.ref x0)] [.int s4, .int s3, .ref s2, .ref s1, .ref s0] (G, F, I, J) b post px ↔ (ip_inA G s2 0 s3 = true ∧ ip_WP 19 225 [some (.ref x0)] [.ref s1, .ref s0] (G, F, ip_up I s2 s3.toNatClampNeg s4, J) b post px) := ip_ck_iff ((ip_st_of f19_224).trans rfl) ip_nx_iff
theorem f19_225 : ip_fetch 19 225 = some (.dup, 1) := by decide +kernel
theorem s19_225 {x0 : Nat} {s0 : Nat} {s1 : Nat} : ip_WP 19 225 [some (.ref x0)] [.ref s1, .ref s0] (G, F, I, J) b post px ↔ ip_WP 19 226 [some (.ref x0)] [.ref s1, .ref s1, .ref s0] (G, F, I, J) b post px := ip_nx_iff ((ip_st_of f19_225).trans rfl)
theorem f19_226 : ip_fetch 19 226 = some (.bipush 38, 2) := by decide +kernel
theorem s19_226 {x0 : Nat} {s0 : Nat} {s1 : Nat} {s2 : Nat} : ip_WP 19 226 [some (.ref x0)] [.ref s2, .ref s1, .ref s0] (G, F, I, J) b post px ↔ ip_WP 19 228 [some (.ref x0)] [.int 38, .ref s2, .ref s1, .ref s0] (G, F, I, J) b post px := ip_s_bipush f19_226 (by decide)
theorem f19_228 : ip_fetch 19 228 = some (.bipush 116, 2) := by decide +kernel
theorem s19_228 {x0 : Nat} {s0 : Nat} {s1 : Nat} {s2 : Nat} {s3 : Int32} : ip_WP 19 228 [some (.ref x0)] [.int s3, .ref s2, .ref s1, .ref s0] (G, F, I, J) b post px ↔ ip_WP 19 230 [some (.ref x0)] [.int 116, .int s3, .ref s2, .ref s1, .ref s0] (G, F, I, J) b post px := ip_s_bipush f19_228 (by decide)
theorem f19_230 : ip_fetch 19 230 = some (.iastore, 1) := by decide +kernel
theorem s19_230 {x0 : Nat} {s0 : Nat} {s1 : Nat} {s2 : Nat} {s3 : Int32} {s4 : Int32} : ip_WP 19 230 [some (.ref x0)] [.int s4, .int s3, .ref s2, .ref s1, .ref s0] (G, F, I, J) b post px ↔ (ip_inA G s2 0 s3 = true ∧ ip_WP 19 231 [some (.ref x0)] [.ref s1, .ref s0] (G, F, ip_up I s2 s3.toNatClampNeg s4, J) b post px) := ip_ck_iff ((ip_st_of f19_230).trans rfl) ip_nx_iff
theorem f19_231 : ip_fetch 19 231 = some (.dup, 1) := by decide +kernel
theorem s19_231 {x0 : Nat} {s0 : Nat} {s1 : Nat} : ip_WP 19 231 [some (.ref x0)] [.ref s1, .ref s0] (G, F, I, J) b post px ↔ ip_WP 19 232 [some (.ref x0)] [.ref s1, .ref s1, .ref s0] (G, F, I, J) b post px := ip_nx_iff ((ip_st_of f19_231).trans rfl)
theorem f19_232 : ip_fetch 19 232 = some (.bipush 39, 2) := by decide +kernel
theorem s19_232 {x0 : Nat} {s0 : Nat} {s1 : Nat} {s2 : Nat} : ip_WP 19 232 [some (.ref x0)] [.ref s2, .ref s1, .ref s0] (G, F, I, J) b post px ↔ ip_WP 19 234 [some (.ref x0)] [.int 39, .ref s2, .ref s1, .ref s0] (G, F, I, J) b post px := ip_s_bipush f19_232 (by decide)
theorem f19_234 : ip_fetch 19 234 = some (.bipush 97, 2) := by decide +kernel
theorem s19_234 {x0 : Nat} {s0 : Nat} {s1 : Nat} {s2 : Nat} {s3 : Int32} : ip_WP 19 234 [some (.ref x0)] [.int s3, .ref s2, .ref s1, .ref s0] (G, F, I, J) b post px ↔ ip_WP 19 236 [some (.ref x0)] [.int 97, .int s3, .ref s2, .ref s1, .ref s0] (G, F, I, J) b post px := ip_s_bipush f19_234 (by decide)
theorem f19_236 : ip_fetch 19 236 = some (.iastore, 1) := by decide +kernel
theorem s19_236 {x0 : Nat} {s0 : Nat} {s1 : Nat} {s2 : Nat} {s3 : Int32} {s4 : Int32} : ip_WP 19 236 [some (.ref x0)] [.int s4, .int s3, .ref s2, .ref s1, .ref s0] (G, F, I, J) b post px ↔ (ip_inA G s2 0 s3 = true ∧ ip_WP 19 237 [some (.ref x0)] [.ref s1, .ref s0] (G, F, ip_up I s2 s3.toNatClampNeg s4, J) b post px) := ip_ck_iff ((ip_st_of f19_236).trans rfl) ip_nx_iff
theorem f19_237 : ip_fetch 19 237 = some (.dup, 1) := by decide +kernel
theorem s19_237 {x0 : Nat} {s0 : Nat} {s1 : Nat} : ip_WP 19 237 [some (.ref x0)] [.ref s1, .ref s0] (G, F, I, J) b post px ↔ ip_WP 19 238 [some (.ref x0)] [.ref s1, .ref s1, .ref s0] (G, F, I, J) b post px := ip_nx_iff ((ip_st_of f19_237).trans rfl)
theorem f19_238 : ip_fetch 19 238 = some (.bipush 40, 2) := by decide +kernel
theorem s19_238 {x0 : Nat} {s0 : Nat} {s1 : Nat} {s2 : Nat} : ip_WP 19 238 [some (.ref x0)] [.ref s2, .ref s1, .ref s0] (G, F, I, J) b post px ↔ ip_WP 19 240 [some (.ref x0)] [.int 40, .ref s2, .ref s1, .ref s0] (G, F, I, J) b post px := ip_s_bipush f19_238 (by decide)
theorem f19_240 : ip_fetch 19 240 = some (.bipush 108, 2) := by decide +kernel
theorem s19_240 {x0 : Nat} {s0 : Nat} {s1 : Nat} {s2 : Nat} {s3 : Int32} : ip_WP 19 240 [some (.ref x0)] [.int s3, .ref s2, .ref s1, .ref s0] (G, F, I, J) b post px ↔ ip_WP 19 242 [some (.ref x0)] [.int 108, .int s3, .ref s2, .ref s1, .ref s0] (G, F, I, J) b post px := ip_s_bipush f19_240 (by decide)
theorem f19_242 : ip_fetch 19 242 = some (.iastore, 1) := by decide +kernel
theorem s19_242 {x0 : Nat} {s0 : Nat} {s1 : Nat} {s2 : Nat} {s3 : Int32} {s4 : Int32} : ip_WP 19 242 [some (.ref x0)] [.int s4, .int s3, .ref s2, .ref s1, .ref s0] (G, F, I, J) b post px ↔ (ip_inA G s2 0 s3 = true ∧ ip_WP 19 243 [some (.ref x0)] [.ref s1, .ref s0] (G, F, ip_up I s2 s3.toNatClampNeg s4, J) b post px) := ip_ck_iff ((ip_st_of f19_242).trans rfl) ip_nx_iff
theorem f19_243 : ip_fetch 19 243 = some (.dup, 1) := by decide +kernel
theorem s19_243 {x0 : Nat} {s0 : Nat} {s1 : Nat} : ip_WP 19 243 [some (.ref x0)] [.ref s1, .ref s0] (G, F, I, J) b post px ↔ ip_WP 19 244 [some (.ref x0)] [.ref s1, .ref s1, .ref s0] (G, F, I, J) b post px := ip_nx_iff ((ip_st_of f19_243).trans rfl)
theorem f19_244 : ip_fetch 19 244 = some (.bipush 41, 2) := by decide +kernel
theorem s19_244 {x0 : Nat} {s0 : Nat} {s1 : Nat} {s2 : Nat} : ip_WP 19 244 [some (.ref x0)] [.ref s2, .ref s1, .ref s0] (G, F, I, J) b post px ↔ ip_WP 19 246 [some (.ref x0)] [.int 41, .ref s2, .ref s1, .ref s0] (G, F, I, J) b post px := ip_s_bipush f19_244 (by decide)
theorem f19_246 : ip_fetch 19 246 = some (.bipush 108, 2) := by decide +kernel
theorem s19_246 {x0 : Nat} {s0 : Nat} {s1 : Nat} {s2 : Nat} {s3 : Int32} : ip_WP 19 246 [some (.ref x0)] [.int s3, .ref s2, .ref s1, .ref s0] (G, F, I, J) b post px ↔ ip_WP 19 248 [some (.ref x0)] [.int 108, .int s3, .ref s2, .ref s1, .ref s0] (G, F, I, J) b post px := ip_s_bipush f19_246 (by decide)
theorem f19_248 : ip_fetch 19 248 = some (.iastore, 1) := by decide +kernel
theorem s19_248 {x0 : Nat} {s0 : Nat} {s1 : Nat} {s2 : Nat} {s3 : Int32} {s4 : Int32} : ip_WP 19 248 [some (.ref x0)] [.int s4, .int s3, .ref s2, .ref s1, .ref s0] (G, F, I, J) b post px ↔ (ip_inA G s2 0 s3 = true ∧ ip_WP 19 249 [some (.ref x0)] [.ref s1, .ref s0] (G, F, ip_up I s2 s3.toNatClampNeg s4, J) b post px) := ip_ck_iff ((ip_st_of f19_248).trans rfl) ip_nx_iff
theorem f19_249 : ip_fetch 19 249 = some (.dup, 1) := by decide +kernel
theorem s19_249 {x0 : Nat} {s0 : Nat} {s1 : Nat} : ip_WP 19 249 [some (.ref x0)] [.ref s1, .ref s0] (G, F, I, J) b post px ↔ ip_WP 19 250 [some (.ref x0)] [.ref s1, .ref s1, .ref s0] (G, F, I, J) b post px := ip_nx_iff ((ip_st_of f19_249).trans rfl)
theorem f19_250 : ip_fetch 19 250 = some (.bipush 42, 2) := by decide +kernel
theorem s19_250 {x0 : Nat} {s0 : Nat} {s1 : Nat} {s2 : Nat} : ip_WP 19 250 [some (.ref x0)] [.ref s2, .ref s1, .ref s0] (G, F, I, J) b post px ↔ ip_WP 19 252 [some (.ref x0)] [.int 42, .ref s2, .ref s1, .ref s0] (G, F, I, J) b post px := ip_s_bipush f19_250 (by decide)
theorem f19_252 : ip_fetch 19 252 = some (.iconst 0, 1) := by decide +kernel
theorem s19_252 {x0 : Nat} {s0 : Nat} {s1 : Nat} {s2 : Nat} {s3 : Int32} : ip_WP 19 252 [some (.ref x0)] [.int s3, .ref s2, .ref s1, .ref s0] (G, F, I, J) b post px ↔ ip_WP 19 253 [some (.ref x0)] [.int 0, .int s3, .ref s2, .ref s1, .ref s0] (G, F, I, J) b post px := ip_s_iconst f19_252 (by decide)
theorem f19_253 : ip_fetch 19 253 = some (.iastore, 1) := by decide +kernel
theorem s19_253 {x0 : Nat} {s0 : Nat} {s1 : Nat} {s2 : Nat} {s3 : Int32} {s4 : Int32} : ip_WP 19 253 [some (.ref x0)] [.int s4, .int s3, .ref s2, .ref s1, .ref s0] (G, F, I, J) b post px ↔ (ip_inA G s2 0 s3 = true ∧ ip_WP 19 254 [some (.ref x0)] [.ref s1, .ref s0] (G, F, ip_up I s2 s3.toNatClampNeg s4, J) b post px) := ip_ck_iff ((ip_st_of f19_253).trans rfl) ip_nx_iff
theorem f19_254 : ip_fetch 19 254 = some (.dup, 1) := by decide +kernel
theorem s19_254 {x0 : Nat} {s0 : Nat} {s1 : Nat} : ip_WP 19 254 [some (.ref x0)] [.ref s1, .ref s0] (G, F, I, J) b post px ↔ ip_WP 19 255 [some (.ref x0)] [.ref s1, .ref s1, .ref s0] (G, F, I, J) b post px := ip_nx_iff ((ip_st_of f19_254).trans rfl)
theorem f19_255 : ip_fetch 19 255 = some (.bipush 43, 2) := by decide +kernel
theorem s19_255 {x0 : Nat} {s0 : Nat} {s1 : Nat} {s2 : Nat} : ip_WP 19 255 [some (.ref x0)] [.ref s2, .ref s1, .ref s0] (G, F, I, J) b post px ↔ ip_WP 19 257 [some (.ref x0)] [.int 43, .ref s2, .ref s1, .ref s0] (G, F, I, J) b post px := ip_s_bipush f19_255 (by decide)
theorem f19_257 : ip_fetch 19 257 = some (.bipush 113, 2) := by decide +kernel
theorem s19_257 {x0 : Nat} {s0 : Nat} {s1 : Nat} {s2 : Nat} {s3 : Int32} : ip_WP 19 257 [some (.ref x0)] [.int s3, .ref s2, .ref s1, .ref s0] (G, F, I, J) b post px ↔ ip_WP 19 259 [some (.ref x0)] [.int 113, .int s3, .ref s2, .ref s1, .ref s0] (G, F, I, J) b post px := ip_s_bipush f19_257 (by decide)
theorem f19_259 : ip_fetch 19 259 = some (.iastore, 1) := by decide +kernel
theorem s19_259 {x0 : Nat} {s0 : Nat} {s1 : Nat} {s2 : Nat} {s3 : Int32} {s4 : Int32} : ip_WP 19 259 [some (.ref x0)] [.int s4, .int s3, .ref s2, .ref s1, .ref s0] (G, F, I, J) b post px ↔ (ip_inA G s2 0 s3 = true ∧ ip_WP 19 260 [some (.ref x0)] [.ref s1, .ref s0] (G, F, ip_up I s2 s3.toNatClampNeg s4, J) b post px) := ip_ck_iff ((ip_st_of f19_259).trans rfl) ip_nx_iff
theorem f19_260 : ip_fetch 19 260 = some (.dup, 1) := by decide +kernel
theorem s19_260 {x0 : Nat} {s0 : Nat} {s1 : Nat} : ip_WP 19 260 [some (.ref x0)] [.ref s1, .ref s0] (G, F, I, J) b post px ↔ ip_WP 19 261 [some (.ref x0)] [.ref s1, .ref s1, .ref s0] (G, F, I, J) b post px := ip_nx_iff ((ip_st_of f19_260).trans rfl)
theorem f19_261 : ip_fetch 19 261 = some (.bipush 44, 2) := by decide +kernel
theorem s19_261 {x0 : Nat} {s0 : Nat} {s1 : Nat} {s2 : Nat} : ip_WP 19 261 [some (.ref x0)] [.ref s2, .ref s1, .ref s0] (G, F, I, J) b post px ↔ ip_WP 19 263 [some (.ref x0)] [.int 44, .ref s2, .ref s1, .ref s0] (G, F, I, J) b post px := ip_s_bipush f19_261 (by decide)
theorem f19_263 : ip_fetch 19 263 = some (.bipush 117, 2) := by decide +kernel
theorem s19_263 {x0 : Nat} {s0 : Nat} {s1 : Nat} {s2 : Nat} {s3 : Int32} : ip_WP 19 263 [some (.ref x0)] [.int s3, .ref s2, .ref s1, .ref s0] (G, F, I, J) b post px ↔ ip_WP 19 265 [some (.ref x0)] [.int 117, .int s3, .ref s2, .ref s1, .ref s0] (G, F, I, J) b post px := ip_s_bipush f19_263 (by decide)
theorem f19_265 : ip_fetch 19 265 = some (.iastore, 1) := by decide +kernel
theorem s19_265 {x0 : Nat} {s0 : Nat} {s1 : Nat} {s2 : Nat} {s3 : Int32} {s4 : Int32} : ip_WP 19 265 [some (.ref x0)] [.int s4, .int s3, .ref s2, .ref s1, .ref s0] (G, F, I, J) b post px ↔ (ip_inA G s2 0 s3 = true ∧ ip_WP 19 266 [some (.ref x0)] [.ref s1, .ref s0] (G, F, ip_up I s2 s3.toNatClampNeg s4, J) b post px) := ip_ck_iff ((ip_st_of f19_265).trans rfl) ip_nx_iff
theorem f19_266 : ip_fetch 19 266 = some (.dup, 1) := by decide +kernel
theorem s19_266 {x0 : Nat} {s0 : Nat} {s1 : Nat} : ip_WP 19 266 [some (.ref x0)] [.ref s1, .ref s0] (G, F, I, J) b post px ↔ ip_WP 19 267 [some (.ref x0)] [.ref s1, .ref s1, .ref s0] (G, F, I, J) b post px := ip_nx_iff ((ip_st_of f19_266).trans rfl)
theorem f19_267 : ip_fetch 19 267 = some (.bipush 45, 2) := by decide +kernel
theorem s19_267 {x0 : Nat} {s0 : Nat} {s1 : Nat} {s2 : Nat} : ip_WP 19 267 [some (.ref x0)] [.ref s2, .ref s1, .ref s0] (G, F, I, J) b post px ↔ ip_WP 19 269 [some (.ref x0)] [.int 45, .ref s2, .ref s1, .ref s0] (G, F, I, J) b post px := ip_s_bipush f19_267 (by decide)
theorem f19_269 : ip_fetch 19 269 = some (.bipush 101, 2) := by decide +kernel
theorem s19_269 {x0 : Nat} {s0 : Nat} {s1 : Nat} {s2 : Nat} {s3 : Int32} : ip_WP 19 269 [some (.ref x0)] [.int s3, .ref s2, .ref s1, .ref s0] (G, F, I, J) b post px ↔ ip_WP 19 271 [some (.ref x0)] [.int 101, .int s3, .ref s2, .ref s1, .ref s0] (G, F, I, J) b post px := ip_s_bipush f19_269 (by decide)
theorem f19_271 : ip_fetch 19 271 = some (.iastore, 1) := by decide +kernel
theorem s19_271 {x0 : Nat} {s0 : Nat} {s1 : Nat} {s2 : Nat} {s3 : Int32} {s4 : Int32} : ip_WP 19 271 [some (.ref x0)] [.int s4, .int s3, .ref s2, .ref s1, .ref s0] (G, F, I, J) b post px ↔ (ip_inA G s2 0 s3 = true ∧ ip_WP 19 272 [some (.ref x0)] [.ref s1, .ref s0] (G, F, ip_up I s2 s3.toNatClampNeg s4, J) b post px) := ip_ck_iff ((ip_st_of f19_271).trans rfl) ip_nx_iff
theorem f19_272 : ip_fetch 19 272 = some (.dup, 1) := by decide +kernel
theorem s19_272 {x0 : Nat} {s0 : Nat} {s1 : Nat} : ip_WP 19 272 [some (.ref x0)] [.ref s1, .ref s0] (G, F, I, J) b post px ↔ ip_WP 19 273 [some (.ref x0)] [.ref s1, .ref s1, .ref s0] (G, F, I, J) b post px := ip_nx_iff ((ip_st_of f19_272).trans rfl)
theorem f19_273 : ip_fetch 19 273 = some (.bipush 46, 2) := by decide +kernel
theorem s19_273 {x0 : Nat} {s0 : Nat} {s1 : Nat} {s2 : Nat} : ip_WP 19 273 [some (.ref x0)] [.ref s2, .ref s1, .ref s0] (G, F, I, J) b post px ↔ ip_WP 19 275 [some (.ref x0)] [.int 46, .ref s2, .ref s1, .ref s0] (G, F, I, J) b post px := ip_s_bipush f19_273 (by decide)
theorem f19_275 : ip_fetch 19 275 = some (.bipush 117, 2) := by decide +kernel
theorem s19_275 {x0 : Nat} {s0 : Nat} {s1 : Nat} {s2 : Nat} {s3 : Int32} : ip_WP 19 275 [some (.ref x0)] [.int s3, .ref s2, .ref s1, .ref s0] (G, F, I, J) b post px ↔ ip_WP 19 277 [some (.ref x0)] [.int 117, .int s3, .ref s2, .ref s1, .ref s0] (G, F, I, J) b post px := ip_s_bipush f19_275 (by decide)
theorem f19_277 : ip_fetch 19 277 = some (.iastore, 1) := by decide +kernel
theorem s19_277 {x0 : Nat} {s0 : Nat} {s1 : Nat} {s2 : Nat} {s3 : Int32} {s4 : Int32} : ip_WP 19 277 [some (.ref x0)] [.int s4, .int s3, .ref s2, .ref s1, .ref s0] (G, F, I, J) b post px ↔ (ip_inA G s2 0 s3 = true ∧ ip_WP 19 278 [some (.ref x0)] [.ref s1, .ref s0] (G, F, ip_up I s2 s3.toNatClampNeg s4, J) b post px) := ip_ck_iff ((ip_st_of f19_277).trans rfl) ip_nx_iff
theorem f19_278 : ip_fetch 19 278 = some (.dup, 1) := by decide +kernel
theorem s19_278 {x0 : Nat} {s0 : Nat} {s1 : Nat} : ip_WP 19 278 [some (.ref x0)] [.ref s1, .ref s0] (G, F, I, J) b post px ↔ ip_WP 19 279 [some (.ref x0)] [.ref s1, .ref s1, .ref s0] (G, F, I, J) b post px := ip_nx_iff ((ip_st_of f19_278).trans rfl)
theorem f19_279 : ip_fetch 19 279 = some (.bipush 47, 2) := by decide +kernel
theorem s19_279 {x0 : Nat} {s0 : Nat} {s1 : Nat} {s2 : Nat} : ip_WP 19 279 [some (.ref x0)] [.ref s2, .ref s1, .ref s0] (G, F, I, J) b post px ↔ ip_WP 19 281 [some (.ref x0)] [.int 47, .ref s2, .ref s1, .ref s0] (G, F, I, J) b post px := ip_s_bipush f19_279 (by decide)
theorem f19_281 : ip_fetch 19 281 = some (.bipush 101, 2) := by decide +kernel
theorem s19_281 {x0 : Nat} {s0 : Nat} {s1 : Nat} {s2 : Nat} {s3 : Int32} : ip_WP 19 281 [some (.ref x0)] [.int s3, .ref s2, .ref s1, .ref s0] (G, F, I, J) b post px ↔ ip_WP 19 283 [some (.ref x0)] [.int 101, .int s3, .ref s2, .ref s1, .ref s0] (G, F, I, J) b post px := ip_s_bipush f19_281 (by decide)
theorem f19_283 : ip_fetch 19 283 = some (.iastore, 1) := by decide +kernel
theorem s19_283 {x0 : Nat} {s0 : Nat} {s1 : Nat} {s2 : Nat} {s3 : Int32} {s4 : Int32} : ip_WP 19 283 [some (.ref x0)] [.int s4, .int s3, .ref s2, .ref s1, .ref s0] (G, F, I, J) b post px ↔ (ip_inA G s2 0 s3 = true ∧ ip_WP 19 284 [some (.ref x0)] [.ref s1, .ref s0] (G, F, ip_up I s2 s3.toNatClampNeg s4, J) b post px) := ip_ck_iff ((ip_st_of f19_283).trans rfl) ip_nx_iff
theorem f19_284 : ip_fetch 19 284 = some (.dup, 1) := by decide +kernel
theorem s19_284 {x0 : Nat} {s0 : Nat} {s1 : Nat} : ip_WP 19 284 [some (.ref x0)] [.ref s1, .ref s0] (G, F, I, J) b post px ↔ ip_WP 19 285 [some (.ref x0)] [.ref s1, .ref s1, .ref s0] (G, F, I, J) b post px := ip_nx_iff ((ip_st_of f19_284).trans rfl)
theorem f19_285 : ip_fetch 19 285 = some (.bipush 48, 2) := by decide +kernel
theorem s19_285 {x0 : Nat} {s0 : Nat} {s1 : Nat} {s2 : Nat} : ip_WP 19 285 [some (.ref x0)] [.ref s2, .ref s1, .ref s0] (G, F, I, J) b post px ↔ ip_WP 19 287 [some (.ref x0)] [.int 48, .ref s2, .ref s1, .ref s0] (G, F, I, J) b post px := ip_s_bipush f19_285 (by decide)
theorem f19_287 : ip_fetch 19 287 = some (.iconst 0, 1) := by decide +kernel
theorem s19_287 {x0 : Nat} {s0 : Nat} {s1 : Nat} {s2 : Nat} {s3 : Int32} : ip_WP 19 287 [some (.ref x0)] [.int s3, .ref s2, .ref s1, .ref s0] (G, F, I, J) b post px ↔ ip_WP 19 288 [some (.ref x0)] [.int 0, .int s3, .ref s2, .ref s1, .ref s0] (G, F, I, J) b post px := ip_s_iconst f19_287 (by decide)
theorem f19_288 : ip_fetch 19 288 = some (.iastore, 1) := by decide +kernel
theorem s19_288 {x0 : Nat} {s0 : Nat} {s1 : Nat} {s2 : Nat} {s3 : Int32} {s4 : Int32} : ip_WP 19 288 [some (.ref x0)] [.int s4, .int s3, .ref s2, .ref s1, .ref s0] (G, F, I, J) b post px ↔ (ip_inA G s2 0 s3 = true ∧ ip_WP 19 289 [some (.ref x0)] [.ref s1, .ref s0] (G, F, ip_up I s2 s3.toNatClampNeg s4, J) b post px) := ip_ck_iff ((ip_st_of f19_288).trans rfl) ip_nx_iff
theorem f19_289 : ip_fetch 19 289 = some (.dup, 1) := by decide +kernel
theorem s19_289 {x0 : Nat} {s0 : Nat} {s1 : Nat} : ip_WP 19 289 [some (.ref x0)] [.ref s1, .ref s0] (G, F, I, J) b post px ↔ ip_WP 19 290 [some (.ref x0)] [.ref s1, .ref s1, .ref s0] (G, F, I, J) b post px := ip_nx_iff ((ip_st_of f19_289).trans rfl)
theorem f19_290 : ip_fetch 19 290 = some (.bipush 49, 2) := by decide +kernel
theorem s19_290 {x0 : Nat} {s0 : Nat} {s1 : Nat} {s2 : Nat} : ip_WP 19 290 [some (.ref x0)] [.ref s2, .ref s1, .ref s0] (G, F, I, J) b post px ↔ ip_WP 19 292 [some (.ref x0)] [.int 49, .ref s2, .ref s1, .ref s0] (G, F, I, J) b post px := ip_s_bipush f19_290 (by decide)
theorem f19_292 : ip_fetch 19 292 = some (.bipush 105, 2) := by decide +kernel
theorem s19_292 {x0 : Nat} {s0 : Nat} {s1 : Nat} {s2 : Nat} {s3 : Int32} : ip_WP 19 292 [some (.ref x0)] [.int s3, .ref s2, .ref s1, .ref s0] (G, F, I, J) b post px ↔ ip_WP 19 294 [some (.ref x0)] [.int 105, .int s3, .ref s2, .ref s1, .ref s0] (G, F, I, J) b post px := ip_s_bipush f19_292 (by decide)
theorem f19_294 : ip_fetch 19 294 = some (.iastore, 1) := by decide +kernel
theorem s19_294 {x0 : Nat} {s0 : Nat} {s1 : Nat} {s2 : Nat} {s3 : Int32} {s4 : Int32} : ip_WP 19 294 [some (.ref x0)] [.int s4, .int s3, .ref s2, .ref s1, .ref s0] (G, F, I, J) b post px ↔ (ip_inA G s2 0 s3 = true ∧ ip_WP 19 295 [some (.ref x0)] [.ref s1, .ref s0] (G, F, ip_up I s2 s3.toNatClampNeg s4, J) b post px) := ip_ck_iff ((ip_st_of f19_294).trans rfl) ip_nx_iff
theorem f19_295 : ip_fetch 19 295 = some (.dup, 1) := by decide +kernel
theorem s19_295 {x0 : Nat} {s0 : Nat} {s1 : Nat} : ip_WP 19 295 [some (.ref x0)] [.ref s1, .ref s0] (G, F, I, J) b post px ↔ ip_WP 19 296 [some (.ref x0)] [.ref s1, .ref s1, .ref s0] (G, F, I, J) b post px := ip_nx_iff ((ip_st_of f19_295).trans rfl)
theorem f19_296 : ip_fetch 19 296 = some (.bipush 50, 2) := by decide +kernel
theorem s19_296 {x0 : Nat} {s0 : Nat} {s1 : Nat} {s2 : Nat} : ip_WP 19 296 [some (.ref x0)] [.ref s2, .ref s1, .ref s0] (G, F, I, J) b post px ↔ ip_WP 19 298 [some (.ref x0)] [.int 50, .ref s2, .ref s1, .ref s0] (G, F, I, J) b post px := ip_s_bipush f19_296 (by decide)
theorem f19_298 : ip_fetch 19 298 = some (.bipush 110, 2) := by decide +kernel
theorem s19_298 {x0 : Nat} {s0 : Nat} {s1 : Nat} {s2 : Nat} {s3 : Int32} : ip_WP 19 298 [some (.ref x0)] [.int s3, .ref s2, .ref s1, .ref s0] (G, F, I, J) b post px ↔ ip_WP 19 300 [some (.ref x0)] [.int 110, .int s3, .ref s2, .ref s1, .ref s0] (G, F, I, J) b post px := ip_s_bipush f19_298 (by decide)
theorem f19_300 : ip_fetch 19 300 = some (.iastore, 1) := by decide +kernel
theorem s19_300 {x0 : Nat} {s0 : Nat} {s1 : Nat} {s2 : Nat} {s3 : Int32} {s4 : Int32} : ip_WP 19 300 [some (.ref x0)] [.int s4, .int s3, .ref s2, .ref s1, .ref s0] (G, F, I, J) b post px ↔ (ip_inA G s2 0 s3 = true ∧ ip_WP 19 301 [some (.ref x0)] [.ref s1, .ref s0] (G, F, ip_up I s2 s3.toNatClampNeg s4, J) b post px) := ip_ck_iff ((ip_st_of f19_300).trans rfl) ip_nx_iff
theorem f19_301 : ip_fetch 19 301 = some (.dup, 1) := by decide +kernel
theorem s19_301 {x0 : Nat} {s0 : Nat} {s1 : Nat} : ip_WP 19 301 [some (.ref x0)] [.ref s1, .ref s0] (G, F, I, J) b post px ↔ ip_WP 19 302 [some (.ref x0)] [.ref s1, .ref s1, .ref s0] (G, F, I, J) b post px := ip_nx_iff ((ip_st_of f19_301).trans rfl)
theorem f19_302 : ip_fetch 19 302 = some (.bipush 51, 2) := by decide +kernel
theorem s19_302 {x0 : Nat} {s0 : Nat} {s1 : Nat} {s2 : Nat} : ip_WP 19 302 [some (.ref x0)] [.ref s2, .ref s1, .ref s0] (G, F, I, J) b post px ↔ ip_WP 19 304 [some (.ref x0)] [.int 51, .ref s2, .ref s1, .ref s0] (G, F, I, J) b post px := ip_s_bipush f19_302 (by decide)
theorem f19_304 : ip_fetch 19 304 = some (.iconst 0, 1) := by decide +kernel
theorem s19_304 {x0 : Nat} {s0 : Nat} {s1 : Nat} {s2 : Nat} {s3 : Int32} : ip_WP 19 304 [some (.ref x0)] [.int s3, .ref s2, .ref s1, .ref s0] (G, F, I, J) b post px ↔ ip_WP 19 305 [some (.ref x0)] [.int 0, .int s3, .ref s2, .ref s1, .ref s0] (G, F, I, J) b post px := ip_s_iconst f19_304 (by decide)
theorem f19_305 : ip_fetch 19 305 = some (.iastore, 1) := by decide +kernel
theorem s19_305 {x0 : Nat} {s0 : Nat} {s1 : Nat} {s2 : Nat} {s3 : Int32} {s4 : Int32} : ip_WP 19 305 [some (.ref x0)] [.int s4, .int s3, .ref s2, .ref s1, .ref s0] (G, F, I, J) b post px ↔ (ip_inA G s2 0 s3 = true ∧ ip_WP 19 306 [some (.ref x0)] [.ref s1, .ref s0] (G, F, ip_up I s2 s3.toNatClampNeg s4, J) b post px) := ip_ck_iff ((ip_st_of f19_305).trans rfl) ip_nx_iff
theorem f19_306 : ip_fetch 19 306 = some (.dup, 1) := by decide +kernel
theorem s19_306 {x0 : Nat} {s0 : Nat} {s1 : Nat} : ip_WP 19 306 [some (.ref x0)] [.ref s1, .ref s0] (G, F, I, J) b post px ↔ ip_WP 19 307 [some (.ref x0)] [.ref s1, .ref s1, .ref s0] (G, F, I, J) b post px := ip_nx_iff ((ip_st_of f19_306).trans rfl)
theorem f19_307 : ip_fetch 19 307 = some (.bipush 52, 2) := by decide +kernel
theorem s19_307 {x0 : Nat} {s0 : Nat} {s1 : Nat} {s2 : Nat} : ip_WP 19 307 [some (.ref x0)] [.ref s2, .ref s1, .ref s0] (G, F, I, J) b post px ↔ ip_WP 19 309 [some (.ref x0)] [.int 52, .ref s2, .ref s1, .ref s0] (G, F, I, J) b post px := ip_s_bipush f19_307 (by decide)
theorem f19_309 : ip_fetch 19 309 = some (.bipush 112, 2) := by decide +kernel
theorem s19_309 {x0 : Nat} {s0 : Nat} {s1 : Nat} {s2 : Nat} {s3 : Int32} : ip_WP 19 309 [some (.ref x0)] [.int s3, .ref s2, .ref s1, .ref s0] (G, F, I, J) b post px ↔ ip_WP 19 311 [some (.ref x0)] [.int 112, .int s3, .ref s2, .ref s1, .ref s0] (G, F, I, J) b post px := ip_s_bipush f19_309 (by decide)
theorem f19_311 : ip_fetch 19 311 = some (.iastore, 1) := by decide +kernel
theorem s19_311 {x0 : Nat} {s0 : Nat} {s1 : Nat} {s2 : Nat} {s3 : Int32} {s4 : Int32} : ip_WP 19 311 [some (.ref x0)] [.int s4, .int s3, .ref s2, .ref s1, .ref s0] (G, F, I, J) b post px ↔ (ip_inA G s2 0 s3 = true ∧ ip_WP 19 312 [some (.ref x0)] [.ref s1, .ref s0] (G, F, ip_up I s2 s3.toNatClampNeg s4, J) b post px) := ip_ck_iff ((ip_st_of f19_311).trans rfl) ip_nx_iff
theorem f19_312 : ip_fetch 19 312 = some (.dup, 1) := by decide +kernel
theorem s19_312 {x0 : Nat} {s0 : Nat} {s1 : Nat} : ip_WP 19 312 [some (.ref x0)] [.ref s1, .ref s0] (G, F, I, J) b post px ↔ ip_WP 19 313 [some (.ref x0)] [.ref s1, .ref s1, .ref s0] (G, F, I, J) b post px := ip_nx_iff ((ip_st_of f19_312).trans rfl)
theorem f19_313 : ip_fetch 19 313 = some (.bipush 53, 2) := by decide +kernel
theorem s19_313 {x0 : Nat} {s0 : Nat} {s1 : Nat} {s2 : Nat} : ip_WP 19 313 [some (.ref x0)] [.ref s2, .ref s1, .ref s0] (G, F, I, J) b post px ↔ ip_WP 19 315 [some (.ref x0)] [.int 53, .ref s2, .ref s1, .ref s0] (G, F, I, J) b post px := ip_s_bipush f19_313 (by decide)
theorem f19_315 : ip_fetch 19 315 = some (.bipush 111, 2) := by decide +kernel
theorem s19_315 {x0 : Nat} {s0 : Nat} {s1 : Nat} {s2 : Nat} {s3 : Int32} : ip_WP 19 315 [some (.ref x0)] [.int s3, .ref s2, .ref s1, .ref s0] (G, F, I, J) b post px ↔ ip_WP 19 317 [some (.ref x0)] [.int 111, .int s3, .ref s2, .ref s1, .ref s0] (G, F, I, J) b post px := ip_s_bipush f19_315 (by decide)
theorem f19_317 : ip_fetch 19 317 = some (.iastore, 1) := by decide +kernel
theorem s19_317 {x0 : Nat} {s0 : Nat} {s1 : Nat} {s2 : Nat} {s3 : Int32} {s4 : Int32} : ip_WP 19 317 [some (.ref x0)] [.int s4, .int s3, .ref s2, .ref s1, .ref s0] (G, F, I, J) b post px ↔ (ip_inA G s2 0 s3 = true ∧ ip_WP 19 318 [some (.ref x0)] [.ref s1, .ref s0] (G, F, ip_up I s2 s3.toNatClampNeg s4, J) b post px) := ip_ck_iff ((ip_st_of f19_317).trans rfl) ip_nx_iff
theorem f19_318 : ip_fetch 19 318 = some (.dup, 1) := by decide +kernel
theorem s19_318 {x0 : Nat} {s0 : Nat} {s1 : Nat} : ip_WP 19 318 [some (.ref x0)] [.ref s1, .ref s0] (G, F, I, J) b post px ↔ ip_WP 19 319 [some (.ref x0)] [.ref s1, .ref s1, .ref s0] (G, F, I, J) b post px := ip_nx_iff ((ip_st_of f19_318).trans rfl)
theorem f19_319 : ip_fetch 19 319 = some (.bipush 54, 2) := by decide +kernel
theorem s19_319 {x0 : Nat} {s0 : Nat} {s1 : Nat} {s2 : Nat} : ip_WP 19 319 [some (.ref x0)] [.ref s2, .ref s1, .ref s0] (G, F, I, J) b post px ↔ ip_WP 19 321 [some (.ref x0)] [.int 54, .ref s2, .ref s1, .ref s0] (G, F, I, J) b post px := ip_s_bipush f19_319 (by decide)
theorem f19_321 : ip_fetch 19 321 = some (.bipush 114, 2) := by decide +kernel
theorem s19_321 {x0 : Nat} {s0 : Nat} {s1 : Nat} {s2 : Nat} {s3 : Int32} : ip_WP 19 321 [some (.ref x0)] [.int s3, .ref s2, .ref s1, .ref s0] (G, F, I, J) b post px ↔ ip_WP 19 323 [some (.ref x0)] [.int 114, .int s3, .ref s2, .ref s1, .ref s0] (G, F, I, J) b post px := ip_s_bipush f19_321 (by decide)
theorem f19_323 : ip_fetch 19 323 = some (.iastore, 1) := by decide +kernel
theorem s19_323 {x0 : Nat} {s0 : Nat} {s1 : Nat} {s2 : Nat} {s3 : Int32} {s4 : Int32} : ip_WP 19 323 [some (.ref x0)] [.int s4, .int s3, .ref s2, .ref s1, .ref s0] (G, F, I, J) b post px ↔ (ip_inA G s2 0 s3 = true ∧ ip_WP 19 324 [some (.ref x0)] [.ref s1, .ref s0] (G, F, ip_up I s2 s3.toNatClampNeg s4, J) b post px) := ip_ck_iff ((ip_st_of f19_323).trans rfl) ip_nx_iff
theorem f19_324 : ip_fetch 19 324 = some (.dup, 1) := by decide +kernel
theorem s19_324 {x0 : Nat} {s0 : Nat} {s1 : Nat} : ip_WP 19 324 [some (.ref x0)] [.ref s1, .ref s0] (G, F, I, J) b post px ↔ ip_WP 19 325 [some (.ref x0)] [.ref s1, .ref s1, .ref s0] (G, F, I, J) b post px := ip_nx_iff ((ip_st_of f19_324).trans rfl)
theorem f19_325 : ip_fetch 19 325 = some (.bipush 55, 2) := by decide +kernel
theorem s19_325 {x0 : Nat} {s0 : Nat} {s1 : Nat} {s2 : Nat} : ip_WP 19 325 [some (.ref x0)] [.ref s2, .ref s1, .ref s0] (G, F, I, J) b post px ↔ ip_WP 19 327 [some (.ref x0)] [.int 55, .ref s2, .ref s1, .ref s0] (G, F, I, J) b post px := ip_s_bipush f19_325 (by decide)
theorem f19_327 : ip_fetch 19 327 = some (.bipush 116, 2) := by decide +kernel
theorem s19_327 {x0 : Nat} {s0 : Nat} {s1 : Nat} {s2 : Nat} {s3 : Int32} : ip_WP 19 327 [some (.ref x0)] [.int s3, .ref s2, .ref s1, .ref s0] (G, F, I, J) b post px ↔ ip_WP 19 329 [some (.ref x0)] [.int 116, .int s3, .ref s2, .ref s1, .ref s0] (G, F, I, J) b post px := ip_s_bipush f19_327 (by decide)
theorem f19_329 : ip_fetch 19 329 = some (.iastore, 1) := by decide +kernel
theorem s19_329 {x0 : Nat} {s0 : Nat} {s1 : Nat} {s2 : Nat} {s3 : Int32} {s4 : Int32} : ip_WP 19 329 [some (.ref x0)] [.int s4, .int s3, .ref s2, .ref s1, .ref s0] (G, F, I, J) b post px ↔ (ip_inA G s2 0 s3 = true ∧ ip_WP 19 330 [some (.ref x0)] [.ref s1, .ref s0] (G, F, ip_up I s2 s3.toNatClampNeg s4, J) b post px) := ip_ck_iff ((ip_st_of f19_329).trans rfl) ip_nx_iff
theorem f19_330 : ip_fetch 19 330 = some (.dup, 1) := by decide +kernel
theorem s19_330 {x0 : Nat} {s0 : Nat} {s1 : Nat} : ip_WP 19 330 [some (.ref x0)] [.ref s1, .ref s0] (G, F, I, J) b post px ↔ ip_WP 19 331 [some (.ref x0)] [.ref s1, .ref s1, .ref s0] (G, F, I, J) b post px := ip_nx_iff ((ip_st_of f19_330).trans rfl)
theorem f19_331 : ip_fetch 19 331 = some (.bipush 56, 2) := by decide +kernel
theorem s19_331 {x0 : Nat} {s0 : Nat} {s1 : Nat} {s2 : Nat} : ip_WP 19 331 [some (.ref x0)] [.ref s2, .ref s1, .ref s0] (G, F, I, J) b post px ↔ ip_WP 19 333 [some (.ref x0)] [.int 56, .ref s2, .ref s1, .ref s0] (G, F, I, J) b post px := ip_s_bipush f19_331 (by decide)
theorem f19_333 : ip_fetch 19 333 = some (.iconst 0, 1) := by decide +kernel
theorem s19_333 {x0 : Nat} {s0 : Nat} {s1 : Nat} {s2 : Nat} {s3 : Int32} : ip_WP 19 333 [some (.ref x0)] [.int s3, .ref s2, .ref s1, .ref s0] (G, F, I, J) b post px ↔ ip_WP 19 334 [some (.ref x0)] [.int 0, .int s3, .ref s2, .ref s1, .ref s0] (G, F, I, J) b post px := ip_s_iconst f19_333 (by decide)
theorem f19_334 : ip_fetch 19 334 = some (.iastore, 1) := by decide +kernel
theorem s19_334 {x0 : Nat} {s0 : Nat} {s1 : Nat} {s2 : Nat} {s3 : Int32} {s4 : Int32} : ip_WP 19 334 [some (.ref x0)] [.int s4, .int s3, .ref s2, .ref s1, .ref s0] (G, F, I, J) b post px ↔ (ip_inA G s2 0 s3 = true ∧ ip_WP 19 335 [some (.ref x0)] [.ref s1, .ref s0] (G, F, ip_up I s2 s3.toNatClampNeg s4, J) b post px) := ip_ck_iff ((ip_st_of f19_334).trans rfl) ip_nx_iff
theorem f19_335 : ip_fetch 19 335 = some (.dup, 1) := by decide +kernel
theorem s19_335 {x0 : Nat} {s0 : Nat} {s1 : Nat} : ip_WP 19 335 [some (.ref x0)] [.ref s1, .ref s0] (G, F, I, J) b post px ↔ ip_WP 19 336 [some (.ref x0)] [.ref s1, .ref s1, .ref s0] (G, F, I, J) b post px := ip_nx_iff ((ip_st_of f19_335).trans rfl)
theorem f19_336 : ip_fetch 19 336 = some (.bipush 57, 2) := by decide +kernel
theorem s19_336 {x0 : Nat} {s0 : Nat} {s1 : Nat} {s2 : Nat} : ip_WP 19 336 [some (.ref x0)] [.ref s2, .ref s1, .ref s0] (G, F, I, J) b post px ↔ ip_WP 19 338 [some (.ref x0)] [.int 57, .ref s2, .ref s1, .ref s0] (G, F, I, J) b post px := ip_s_bipush f19_336 (by decide)
theorem f19_338 : ip_fetch 19 338 = some (.bipush 102, 2) := by decide +kernel
theorem s19_338 {x0 : Nat} {s0 : Nat} {s1 : Nat} {s2 : Nat} {s3 : Int32} : ip_WP 19 338 [some (.ref x0)] [.int s3, .ref s2, .ref s1, .ref s0] (G, F, I, J) b post px ↔ ip_WP 19 340 [some (.ref x0)] [.int 102, .int s3, .ref s2, .ref s1, .ref s0] (G, F, I, J) b post px := ip_s_bipush f19_338 (by decide)
theorem f19_340 : ip_fetch 19 340 = some (.iastore, 1) := by decide +kernel
theorem s19_340 {x0 : Nat} {s0 : Nat} {s1 : Nat} {s2 : Nat} {s3 : Int32} {s4 : Int32} : ip_WP 19 340 [some (.ref x0)] [.int s4, .int s3, .ref s2, .ref s1, .ref s0] (G, F, I, J) b post px ↔ (ip_inA G s2 0 s3 = true ∧ ip_WP 19 341 [some (.ref x0)] [.ref s1, .ref s0] (G, F, ip_up I s2 s3.toNatClampNeg s4, J) b post px) := ip_ck_iff ((ip_st_of f19_340).trans rfl) ip_nx_iff
theorem f19_341 : ip_fetch 19 341 = some (.dup, 1) := by decide +kernel
theorem s19_341 {x0 : Nat} {s0 : Nat} {s1 : Nat} : ip_WP 19 341 [some (.ref x0)] [.ref s1, .ref s0] (G, F, I, J) b post px ↔ ip_WP 19 342 [some (.ref x0)] [.ref s1, .ref s1, .ref s0] (G, F, I, J) b post px := ip_nx_iff ((ip_st_of f19_341).trans rfl)
theorem f19_342 : ip_fetch 19 342 = some (.bipush 58, 2) := by decide +kernel
theorem s19_342 {x0 : Nat} {s0 : Nat} {s1 : Nat} {s2 : Nat} : ip_WP 19 342 [some (.ref x0)] [.ref s2, .ref s1, .ref s0] (G, F, I, J) b post px ↔ ip_WP 19 344 [some (.ref x0)] [.int 58, .ref s2, .ref s1, .ref s0] (G, F, I, J) b post px := ip_s_bipush f19_342 (by decide)
theorem f19_344 : ip_fetch 19 344 = some (.bipush 101, 2) := by decide +kernel
theorem s19_344 {x0 : Nat} {s0 : Nat} {s1 : Nat} {s2 : Nat} {s3 : Int32} : ip_WP 19 344 [some (.ref x0)] [.int s3, .ref s2, .ref s1, .ref s0] (G, F, I, J) b post px ↔ ip_WP 19 346 [some (.ref x0)] [.int 101, .int s3, .ref s2, .ref s1, .ref s0] (G, F, I, J) b post px := ip_s_bipush f19_344 (by decide)
theorem f19_346 : ip_fetch 19 346 = some (.iastore, 1) := by decide +kernel
theorem s19_346 {x0 : Nat} {s0 : Nat} {s1 : Nat} {s2 : Nat} {s3 : Int32} {s4 : Int32} : ip_WP 19 346 [some (.ref x0)] [.int s4, .int s3, .ref s2, .ref s1, .ref s0] (G, F, I, J) b post px ↔ (ip_inA G s2 0 s3 = true ∧ ip_WP 19 347 [some (.ref x0)] [.ref s1, .ref s0] (G, F, ip_up I s2 s3.toNatClampNeg s4, J) b post px) := ip_ck_iff ((ip_st_of f19_346).trans rfl) ip_nx_iff
theorem f19_347 : ip_fetch 19 347 = some (.dup, 1) := by decide +kernel
theorem s19_347 {x0 : Nat} {s0 : Nat} {s1 : Nat} : ip_WP 19 347 [some (.ref x0)] [.ref s1, .ref s0] (G, F, I, J) b post px ↔ ip_WP 19 348 [some (.ref x0)] [.ref s1, .ref s1, .ref s0] (G, F, I, J) b post px := ip_nx_iff ((ip_st_of f19_347).trans rfl)
theorem f19_348 : ip_fetch 19 348 = some (.bipush 59, 2) := by decide +kernel
theorem s19_348 {x0 : Nat} {s0 : Nat} {s1 : Nat} {s2 : Nat} : ip_WP 19 348 [some (.ref x0)] [.ref s2, .ref s1, .ref s0] (G, F, I, J) b post px ↔ ip_WP 19 350 [some (.ref x0)] [.int 59, .ref s2, .ref s1, .ref s0] (G, F, I, J) b post px := ip_s_bipush f19_348 (by decide)
theorem f19_350 : ip_fetch 19 350 = some (.bipush 116, 2) := by decide +kernel
theorem s19_350 {x0 : Nat} {s0 : Nat} {s1 : Nat} {s2 : Nat} {s3 : Int32} : ip_WP 19 350 [some (.ref x0)] [.int s3, .ref s2, .ref s1, .ref s0] (G, F, I, J) b post px ↔ ip_WP 19 352 [some (.ref x0)] [.int 116, .int s3, .ref s2, .ref s1, .ref s0] (G, F, I, J) b post px := ip_s_bipush f19_350 (by decide)
theorem f19_352 : ip_fetch 19 352 = some (.iastore, 1) := by decide +kernel
theorem s19_352 {x0 : Nat} {s0 : Nat} {s1 : Nat} {s2 : Nat} {s3 : Int32} {s4 : Int32} : ip_WP 19 352 [some (.ref x0)] [.int s4, .int s3, .ref s2, .ref s1, .ref s0] (G, F, I, J) b post px ↔ (ip_inA G s2 0 s3 = true ∧ ip_WP 19 353 [some (.ref x0)] [.ref s1, .ref s0] (G, F, ip_up I s2 s3.toNatClampNeg s4, J) b post px) := ip_ck_iff ((ip_st_of f19_352).trans rfl) ip_nx_iff
theorem f19_353 : ip_fetch 19 353 = some (.dup, 1) := by decide +kernel
theorem s19_353 {x0 : Nat} {s0 : Nat} {s1 : Nat} : ip_WP 19 353 [some (.ref x0)] [.ref s1, .ref s0] (G, F, I, J) b post px ↔ ip_WP 19 354 [some (.ref x0)] [.ref s1, .ref s1, .ref s0] (G, F, I, J) b post px := ip_nx_iff ((ip_st_of f19_353).trans rfl)
theorem f19_354 : ip_fetch 19 354 = some (.bipush 60, 2) := by decide +kernel
theorem s19_354 {x0 : Nat} {s0 : Nat} {s1 : Nat} {s2 : Nat} : ip_WP 19 354 [some (.ref x0)] [.ref s2, .ref s1, .ref s0] (G, F, I, J) b post px ↔ ip_WP 19 356 [some (.ref x0)] [.int 60, .ref s2, .ref s1, .ref s0] (G, F, I, J) b post px := ip_s_bipush f19_354 (by decide)
theorem f19_356 : ip_fetch 19 356 = some (.bipush 99, 2) := by decide +kernel
theorem s19_356 {x0 : Nat} {s0 : Nat} {s1 : Nat} {s2 : Nat} {s3 : Int32} : ip_WP 19 356 [some (.ref x0)] [.int s3, .ref s2, .ref s1, .ref s0] (G, F, I, J) b post px ↔ ip_WP 19 358 [some (.ref x0)] [.int 99, .int s3, .ref s2, .ref s1, .ref s0] (G, F, I, J) b post px := ip_s_bipush f19_356 (by decide)
theorem f19_358 : ip_fetch 19 358 = some (.iastore, 1) := by decide +kernel
theorem s19_358 {x0 : Nat} {s0 : Nat} {s1 : Nat} {s2 : Nat} {s3 : Int32} {s4 : Int32} : ip_WP 19 358 [some (.ref x0)] [.int s4, .int s3, .ref s2, .ref s1, .ref s0] (G, F, I, J) b post px ↔ (ip_inA G s2 0 s3 = true ∧ ip_WP 19 359 [some (.ref x0)] [.ref s1, .ref s0] (G, F, ip_up I s2 s3.toNatClampNeg s4, J) b post px) := ip_ck_iff ((ip_st_of f19_358).trans rfl) ip_nx_iff
theorem f19_359 : ip_fetch 19 359 = some (.dup, 1) := by decide +kernel
theorem s19_359 {x0 : Nat} {s0 : Nat} {s1 : Nat} : ip_WP 19 359 [some (.ref x0)] [.ref s1, .ref s0] (G, F, I, J) b post px ↔ ip_WP 19 360 [some (.ref x0)] [.ref s1, .ref s1, .ref s0] (G, F, I, J) b post px := ip_nx_iff ((ip_st_of f19_359).trans rfl)
theorem f19_360 : ip_fetch 19 360 = some (.bipush 61, 2) := by decide +kernel
theorem s19_360 {x0 : Nat} {s0 : Nat} {s1 : Nat} {s2 : Nat} : ip_WP 19 360 [some (.ref x0)] [.ref s2, .ref s1, .ref s0] (G, F, I, J) b post px ↔ ip_WP 19 362 [some (.ref x0)] [.int 61, .ref s2, .ref s1, .ref s0] (G, F, I, J) b post px := ip_s_bipush f19_360 (by decide)
theorem f19_362 : ip_fetch 19 362 = some (.bipush 104, 2) := by decide +kernel
theorem s19_362 {x0 : Nat} {s0 : Nat} {s1 : Nat} {s2 : Nat} {s3 : Int32} : ip_WP 19 362 [some (.ref x0)] [.int s3, .ref s2, .ref s1, .ref s0] (G, F, I, J) b post px ↔ ip_WP 19 364 [some (.ref x0)] [.int 104, .int s3, .ref s2, .ref s1, .ref s0] (G, F, I, J) b post px := ip_s_bipush f19_362 (by decide)
theorem f19_364 : ip_fetch 19 364 = some (.iastore, 1) := by decide +kernel
theorem s19_364 {x0 : Nat} {s0 : Nat} {s1 : Nat} {s2 : Nat} {s3 : Int32} {s4 : Int32} : ip_WP 19 364 [some (.ref x0)] [.int s4, .int s3, .ref s2, .ref s1, .ref s0] (G, F, I, J) b post px ↔ (ip_inA G s2 0 s3 = true ∧ ip_WP 19 365 [some (.ref x0)] [.ref s1, .ref s0] (G, F, ip_up I s2 s3.toNatClampNeg s4, J) b post px) := ip_ck_iff ((ip_st_of f19_364).trans rfl) ip_nx_iff
theorem f19_365 : ip_fetch 19 365 = some (.dup, 1) := by decide +kernel
theorem s19_365 {x0 : Nat} {s0 : Nat} {s1 : Nat} : ip_WP 19 365 [some (.ref x0)] [.ref s1, .ref s0] (G, F, I, J) b post px ↔ ip_WP 19 366 [some (.ref x0)] [.ref s1, .ref s1, .ref s0] (G, F, I, J) b post px := ip_nx_iff ((ip_st_of f19_365).trans rfl)
theorem f19_366 : ip_fetch 19 366 = some (.bipush 62, 2) := by decide +kernel
theorem s19_366 {x0 : Nat} {s0 : Nat} {s1 : Nat} {s2 : Nat} : ip_WP 19 366 [some (.ref x0)] [.ref s2, .ref s1, .ref s0] (G, F, I, J) b post px ↔ ip_WP 19 368 [some (.ref x0)] [.int 62, .ref s2, .ref s1, .ref s0] (G, F, I, J) b post px := ip_s_bipush f19_366 (by decide)
theorem f19_368 : ip_fetch 19 368 = some (.iconst 0, 1) := by decide +kernel
theorem s19_368 {x0 : Nat} {s0 : Nat} {s1 : Nat} {s2 : Nat} {s3 : Int32} : ip_WP 19 368 [some (.ref x0)] [.int s3, .ref s2, .ref s1, .ref s0] (G, F, I, J) b post px ↔ ip_WP 19 369 [some (.ref x0)] [.int 0, .int s3, .ref s2, .ref s1, .ref s0] (G, F, I, J) b post px := ip_s_iconst f19_368 (by decide)
theorem f19_369 : ip_fetch 19 369 = some (.iastore, 1) := by decide +kernel
theorem s19_369 {x0 : Nat} {s0 : Nat} {s1 : Nat} {s2 : Nat} {s3 : Int32} {s4 : Int32} : ip_WP 19 369 [some (.ref x0)] [.int s4, .int s3, .ref s2, .ref s1, .ref s0] (G, F, I, J) b post px ↔ (ip_inA G s2 0 s3 = true ∧ ip_WP 19 370 [some (.ref x0)] [.ref s1, .ref s0] (G, F, ip_up I s2 s3.toNatClampNeg s4, J) b post px) := ip_ck_iff ((ip_st_of f19_369).trans rfl) ip_nx_iff
theorem f19_370 : ip_fetch 19 370 = some (.dup, 1) := by decide +kernel
theorem s19_370 {x0 : Nat} {s0 : Nat} {s1 : Nat} : ip_WP 19 370 [some (.ref x0)] [.ref s1, .ref s0] (G, F, I, J) b post px ↔ ip_WP 19 371 [some (.ref x0)] [.ref s1, .ref s1, .ref s0] (G, F, I, J) b post px := ip_nx_iff ((ip_st_of f19_370).trans rfl)
theorem f19_371 : ip_fetch 19 371 = some (.bipush 63, 2) := by decide +kernel
theorem s19_371 {x0 : Nat} {s0 : Nat} {s1 : Nat} {s2 : Nat} : ip_WP 19 371 [some (.ref x0)] [.ref s2, .ref s1, .ref s0] (G, F, I, J) b post px ↔ ip_WP 19 373 [some (.ref x0)] [.int 63, .ref s2, .ref s1, .ref s0] (G, F, I, J) b post px := ip_s_bipush f19_371 (by decide)
theorem f19_373 : ip_fetch 19 373 = some (.bipush 100, 2) := by decide +kernel
theorem s19_373 {x0 : Nat} {s0 : Nat} {s1 : Nat} {s2 : Nat} {s3 : Int32} : ip_WP 19 373 [some (.ref x0)] [.int s3, .ref s2, .ref s1, .ref s0] (G, F, I, J) b post px ↔ ip_WP 19 375 [some (.ref x0)] [.int 100, .int s3, .ref s2, .ref s1, .ref s0] (G, F, I, J) b post px := ip_s_bipush f19_373 (by decide)
theorem f19_375 : ip_fetch 19 375 = some (.iastore, 1) := by decide +kernel
theorem s19_375 {x0 : Nat} {s0 : Nat} {s1 : Nat} {s2 : Nat} {s3 : Int32} {s4 : Int32} : ip_WP 19 375 [some (.ref x0)] [.int s4, .int s3, .ref s2, .ref s1, .ref s0] (G, F, I, J) b post px ↔ (ip_inA G s2 0 s3 = true ∧ ip_WP 19 376 [some (.ref x0)] [.ref s1, .ref s0] (G, F, ip_up I s2 s3.toNatClampNeg s4, J) b post px) := ip_ck_iff ((ip_st_of f19_375).trans rfl) ip_nx_iff
theorem f19_376 : ip_fetch 19 376 = some (.dup, 1) := by decide +kernel
theorem s19_376 {x0 : Nat} {s0 : Nat} {s1 : Nat} : ip_WP 19 376 [some (.ref x0)] [.ref s1, .ref s0] (G, F, I, J) b post px ↔ ip_WP 19 377 [some (.ref x0)] [.ref s1, .ref s1, .ref s0] (G, F, I, J) b post px := ip_nx_iff ((ip_st_of f19_376).trans rfl)
theorem f19_377 : ip_fetch 19 377 = some (.bipush 64, 2) := by decide +kernel
theorem s19_377 {x0 : Nat} {s0 : Nat} {s1 : Nat} {s2 : Nat} : ip_WP 19 377 [some (.ref x0)] [.ref s2, .ref s1, .ref s0] (G, F, I, J) b post px ↔ ip_WP 19 379 [some (.ref x0)] [.int 64, .ref s2, .ref s1, .ref s0] (G, F, I, J) b post px := ip_s_bipush f19_377 (by decide)
theorem f19_379 : ip_fetch 19 379 = some (.bipush 101, 2) := by decide +kernel
theorem s19_379 {x0 : Nat} {s0 : Nat} {s1 : Nat} {s2 : Nat} {s3 : Int32} : ip_WP 19 379 [some (.ref x0)] [.int s3, .ref s2, .ref s1, .ref s0] (G, F, I, J) b post px ↔ ip_WP 19 381 [some (.ref x0)] [.int 101, .int s3, .ref s2, .ref s1, .ref s0] (G, F, I, J) b post px := ip_s_bipush f19_379 (by decide)
theorem f19_381 : ip_fetch 19 381 = some (.iastore, 1) := by decide +kernel
theorem s19_381 {x0 : Nat} {s0 : Nat} {s1 : Nat} {s2 : Nat} {s3 : Int32} {s4 : Int32} : ip_WP 19 381 [some (.ref x0)] [.int s4, .int s3, .ref s2, .ref s1, .ref s0] (G, F, I, J) b post px ↔ (ip_inA G s2 0 s3 = true ∧ ip_WP 19 382 [some (.ref x0)] [.ref s1, .ref s0] (G, F, ip_up I s2 s3.toNatClampNeg s4, J) b post px) := ip_ck_iff ((ip_st_of f19_381).trans rfl) ip_nx_iff
theorem f19_382 : ip_fetch 19 382 = some (.dup, 1) := by decide +kernel
theorem s19_382 {x0 : Nat} {s0 : Nat} {s1 : Nat} : ip_WP 19 382 [some (.ref x0)] [.ref s1, .ref s0] (G, F, I, J) b post px ↔ ip_WP 19 383 [some (.ref x0)] [.ref s1, .ref s1, .ref s0] (G, F, I, J) b post px := ip_nx_iff ((ip_st_of f19_382).trans rfl)
theorem f19_383 : ip_fetch 19 383 = some (.bipush 65, 2) := by decide +kernel
theorem s19_383 {x0 : Nat} {s0 : Nat} {s1 : Nat} {s2 : Nat} : ip_WP 19 383 [some (.ref x0)] [.ref s2, .ref s1, .ref s0] (G, F, I, J) b post px ↔ ip_WP 19 385 [some (.ref x0)] [.int 65, .ref s2, .ref s1, .ref s0] (G, F, I, J) b post px := ip_s_bipush f19_383 (by decide)
theorem f19_385 : ip_fetch 19 385 = some (.bipush 99, 2) := by decide +kernel
theorem s19_385 {x0 : Nat} {s0 : Nat} {s1 : Nat} {s2 : Nat} {s3 : Int32} : ip_WP 19 385 [some (.ref x0)] [.int s3, .ref s2, .ref s1, .ref s0] (G, F, I, J) b post px ↔ ip_WP 19 387 [some (.ref x0)] [.int 99, .int s3, .ref s2, .ref s1, .ref s0] (G, F, I, J) b post px := ip_s_bipush f19_385 (by decide)
theorem f19_387 : ip_fetch 19 387 = some (.iastore, 1) := by decide +kernel
theorem s19_387 {x0 : Nat} {s0 : Nat} {s1 : Nat} {s2 : Nat} {s3 : Int32} {s4 : Int32} : ip_WP 19 387 [some (.ref x0)] [.int s4, .int s3, .ref s2, .ref s1, .ref s0] (G, F, I, J) b post px ↔ (ip_inA G s2 0 s3 = true ∧ ip_WP 19 388 [some (.ref x0)] [.ref s1, .ref s0] (G, F, ip_up I s2 s3.toNatClampNeg s4, J) b post px) := ip_ck_iff ((ip_st_of f19_387).trans rfl) ip_nx_iff
theorem f19_388 : ip_fetch 19 388 = some (.dup, 1) := by decide +kernel
theorem s19_388 {x0 : Nat} {s0 : Nat} {s1 : Nat} : ip_WP 19 388 [some (.ref x0)] [.ref s1, .ref s0] (G, F, I, J) b post px ↔ ip_WP 19 389 [some (.ref x0)] [.ref s1, .ref s1, .ref s0] (G, F, I, J) b post px := ip_nx_iff ((ip_st_of f19_388).trans rfl)
theorem f19_389 : ip_fetch 19 389 = some (.bipush 66, 2) := by decide +kernel
theorem s19_389 {x0 : Nat} {s0 : Nat} {s1 : Nat} {s2 : Nat} : ip_WP 19 389 [some (.ref x0)] [.ref s2, .ref s1, .ref s0] (G, F, I, J) b post px ↔ ip_WP 19 391 [some (.ref x0)] [.int 66, .ref s2, .ref s1, .ref s0] (G, F, I, J) b post px := ip_s_bipush f19_389 (by decide)
theorem f19_391 : ip_fetch 19 391 = some (.bipush 111, 2) := by decide +kernel
theorem s19_391 {x0 : Nat} {s0 : Nat} {s1 : Nat} {s2 : Nat} {s3 : Int32} : ip_WP 19 391 [some (.ref x0)] [.int s3, .ref s2, .ref s1, .ref s0] (G, F, I, J) b post px ↔ ip_WP 19 393 [some (.ref x0)] [.int 111, .int s3, .ref s2, .ref s1, .ref s0] (G, F, I, J) b post px := ip_s_bipush f19_391 (by decide)
theorem f19_393 : ip_fetch 19 393 = some (.iastore, 1) := by decide +kernel
theorem s19_393 {x0 : Nat} {s0 : Nat} {s1 : Nat} {s2 : Nat} {s3 : Int32} {s4 : Int32} : ip_WP 19 393 [some (.ref x0)] [.int s4, .int s3, .ref s2, .ref s1, .ref s0] (G, F, I, J) b post px ↔ (ip_inA G s2 0 s3 = true ∧ ip_WP 19 394 [some (.ref x0)] [.ref s1, .ref s0] (G, F, ip_up I s2 s3.toNatClampNeg s4, J) b post px) := ip_ck_iff ((ip_st_of f19_393).trans rfl) ip_nx_iff
theorem f19_394 : ip_fetch 19 394 = some (.dup, 1) := by decide +kernel
theorem s19_394 {x0 : Nat} {s0 : Nat} {s1 : Nat} : ip_WP 19 394 [some (.ref x0)] [.ref s1, .ref s0] (G, F, I, J) b post px ↔ ip_WP 19 395 [some (.ref x0)] [.ref s1, .ref s1, .ref s0] (G, F, I, J) b post px := ip_nx_iff ((ip_st_of f19_394).trans rfl)
theorem f19_395 : ip_fetch 19 395 = some (.bipush 67, 2) := by decide +kernel
theorem s19_395 {x0 : Nat} {s0 : Nat} {s1 : Nat} {s2 : Nat} : ip_WP 19 395 [some (.ref x0)] [.ref s2, .ref s1, .ref s0] (G, F, I, J) b post px ↔ ip_WP 19 397 [some (.ref x0)] [.int 67, .ref s2, .ref s1, .ref s0] (G, F, I, J) b post px := ip_s_bipush f19_395 (by decide)
theorem f19_397 : ip_fetch 19 397 = some (.bipush 100, 2) := by decide +kernel
theorem s19_397 {x0 : Nat} {s0 : Nat} {s1 : Nat} {s2 : Nat} {s3 : Int32} : ip_WP 19 397 [some (.ref x0)] [.int s3, .ref s2, .ref s1, .ref s0] (G, F, I, J) b post px ↔ ip_WP 19 399 [some (.ref x0)] [.int 100, .int s3, .ref s2, .ref s1, .ref s0] (G, F, I, J) b post px := ip_s_bipush f19_397 (by decide)
theorem f19_399 : ip_fetch 19 399 = some (.iastore, 1) := by decide +kernel
theorem s19_399 {x0 : Nat} {s0 : Nat} {s1 : Nat} {s2 : Nat} {s3 : Int32} {s4 : Int32} : ip_WP 19 399 [some (.ref x0)] [.int s4, .int s3, .ref s2, .ref s1, .ref s0] (G, F, I, J) b post px ↔ (ip_inA G s2 0 s3 = true ∧ ip_WP 19 400 [some (.ref x0)] [.ref s1, .ref s0] (G, F, ip_up I s2 s3.toNatClampNeg s4, J) b post px) := ip_ck_iff ((ip_st_of f19_399).trans rfl) ip_nx_iff
theorem f19_400 : ip_fetch 19 400 = some (.dup, 1) := by decide +kernel
theorem s19_400 {x0 : Nat} {s0 : Nat} {s1 : Nat} : ip_WP 19 400 [some (.ref x0)] [.ref s1, .ref s0] (G, F, I, J) b post px ↔ ip_WP 19 401 [some (.ref x0)] [.ref s1, .ref s1, .ref s0] (G, F, I, J) b post px := ip_nx_iff ((ip_st_of f19_400).trans rfl)
theorem f19_401 : ip_fetch 19 401 = some (.bipush 68, 2) := by decide +kernel
theorem s19_401 {x0 : Nat} {s0 : Nat} {s1 : Nat} {s2 : Nat} : ip_WP 19 401 [some (.ref x0)] [.ref s2, .ref s1, .ref s0] (G, F, I, J) b post px ↔ ip_WP 19 403 [some (.ref x0)] [.int 68, .ref s2, .ref s1, .ref s0] (G, F, I, J) b post px := ip_s_bipush f19_401 (by decide)
theorem f19_403 : ip_fetch 19 403 = some (.bipush 101, 2) := by decide +kernel
theorem s19_403 {x0 : Nat} {s0 : Nat} {s1 : Nat} {s2 : Nat} {s3 : Int32} : ip_WP 19 403 [some (.ref x0)] [.int s3, .ref s2, .ref s1, .ref s0] (G, F, I, J) b post px ↔ ip_WP 19 405 [some (.ref x0)] [.int 101, .int s3, .ref s2, .ref s1, .ref s0] (G, F, I, J) b post px := ip_s_bipush f19_403 (by decide)
theorem f19_405 : ip_fetch 19 405 = some (.iastore, 1) := by decide +kernel
theorem s19_405 {x0 : Nat} {s0 : Nat} {s1 : Nat} {s2 : Nat} {s3 : Int32} {s4 : Int32} : ip_WP 19 405 [some (.ref x0)] [.int s4, .int s3, .ref s2, .ref s1, .ref s0] (G, F, I, J) b post px ↔ (ip_inA G s2 0 s3 = true ∧ ip_WP 19 406 [some (.ref x0)] [.ref s1, .ref s0] (G, F, ip_up I s2 s3.toNatClampNeg s4, J) b post px) := ip_ck_iff ((ip_st_of f19_405).trans rfl) ip_nx_iff
theorem f19_406 : ip_fetch 19 406 = some (.dup, 1) := by decide +kernel
theorem s19_406 {x0 : Nat} {s0 : Nat} {s1 : Nat} : ip_WP 19 406 [some (.ref x0)] [.ref s1, .ref s0] (G, F, I, J) b post px ↔ ip_WP 19 407 [some (.ref x0)] [.ref s1, .ref s1, .ref s0] (G, F, I, J) b post px := ip_nx_iff ((ip_st_of f19_406).trans rfl)
theorem f19_407 : ip_fetch 19 407 = some (.bipush 69, 2) := by decide +kernel
theorem s19_407 {x0 : Nat} {s0 : Nat} {s1 : Nat} {s2 : Nat} : ip_WP 19 407 [some (.ref x0)] [.ref s2, .ref s1, .ref s0] (G, F, I, J) b post px ↔ ip_WP 19 409 [some (.ref x0)] [.int 69, .ref s2, .ref s1, .ref s0] (G, F, I, J) b post px := ip_s_bipush f19_407 (by decide)
theorem f19_409 : ip_fetch 19 409 = some (.iconst 0, 1) := by decide +kernel
theorem s19_409 {x0 : Nat} {s0 : Nat} {s1 : Nat} {s2 : Nat} {s3 : Int32} : ip_WP 19 409 [some (.ref x0)] [.int s3, .ref s2, .ref s1, .ref s0] (G, F, I, J) b post px ↔ ip_WP 19 410 [some (.ref x0)] [.int 0, .int s3, .ref s2, .ref s1, .ref s0] (G, F, I, J) b post px := ip_s_iconst f19_409 (by decide)
theorem f19_410 : ip_fetch 19 410 = some (.iastore, 1) := by decide +kernel
theorem s19_410 {x0 : Nat} {s0 : Nat} {s1 : Nat} {s2 : Nat} {s3 : Int32} {s4 : Int32} : ip_WP 19 410 [some (.ref x0)] [.int s4, .int s3, .ref s2, .ref s1, .ref s0] (G, F, I, J) b post px ↔ (ip_inA G s2 0 s3 = true ∧ ip_WP 19 411 [some (.ref x0)] [.ref s1, .ref s0] (G, F, ip_up I s2 s3.toNatClampNeg s4, J) b post px) := ip_ck_iff ((ip_st_of f19_410).trans rfl) ip_nx_iff
theorem f19_411 : ip_fetch 19 411 = some (.dup, 1) := by decide +kernel
theorem s19_411 {x0 : Nat} {s0 : Nat} {s1 : Nat} : ip_WP 19 411 [some (.ref x0)] [.ref s1, .ref s0] (G, F, I, J) b post px ↔ ip_WP 19 412 [some (.ref x0)] [.ref s1, .ref s1, .ref s0] (G, F, I, J) b post px := ip_nx_iff ((ip_st_of f19_411).trans rfl)
theorem f19_412 : ip_fetch 19 412 = some (.bipush 70, 2) := by decide +kernel
theorem s19_412 {x0 : Nat} {s0 : Nat} {s1 : Nat} {s2 : Nat} : ip_WP 19 412 [some (.ref x0)] [.ref s2, .ref s1, .ref s0] (G, F, I, J) b post px ↔ ip_WP 19 414 [some (.ref x0)] [.int 70, .ref s2, .ref s1, .ref s0] (G, F, I, J) b post px := ip_s_bipush f19_412 (by decide)
theorem f19_414 : ip_fetch 19 414 = some (.bipush 114, 2) := by decide +kernel
theorem s19_414 {x0 : Nat} {s0 : Nat} {s1 : Nat} {s2 : Nat} {s3 : Int32} : ip_WP 19 414 [some (.ref x0)] [.int s3, .ref s2, .ref s1, .ref s0] (G, F, I, J) b post px ↔ ip_WP 19 416 [some (.ref x0)] [.int 114, .int s3, .ref s2, .ref s1, .ref s0] (G, F, I, J) b post px := ip_s_bipush f19_414 (by decide)
theorem f19_416 : ip_fetch 19 416 = some (.iastore, 1) := by decide +kernel
theorem s19_416 {x0 : Nat} {s0 : Nat} {s1 : Nat} {s2 : Nat} {s3 : Int32} {s4 : Int32} : ip_WP 19 416 [some (.ref x0)] [.int s4, .int s3, .ref s2, .ref s1, .ref s0] (G, F, I, J) b post px ↔ (ip_inA G s2 0 s3 = true ∧ ip_WP 19 417 [some (.ref x0)] [.ref s1, .ref s0] (G, F, ip_up I s2 s3.toNatClampNeg s4, J) b post px) := ip_ck_iff ((ip_st_of f19_416).trans rfl) ip_nx_iff
theorem f19_417 : ip_fetch 19 417 = some (.dup, 1) := by decide +kernel
theorem s19_417 {x0 : Nat} {s0 : Nat} {s1 : Nat} : ip_WP 19 417 [some (.ref x0)] [.ref s1, .ref s0] (G, F, I, J) b post px ↔ ip_WP 19 418 [some (.ref x0)] [.ref s1, .ref s1, .ref s0] (G, F, I, J) b post px := ip_nx_iff ((ip_st_of f19_417).trans rfl)
theorem f19_418 : ip_fetch 19 418 = some (.bipush 71, 2) := by decide +kernel
theorem s19_418 {x0 : Nat} {s0 : Nat} {s1 : Nat} {s2 : Nat} : ip_WP 19 418 [some (.ref x0)] [.ref s2, .ref s1, .ref s0] (G, F, I, J) b post px ↔ ip_WP 19 420 [some (.ref x0)] [.int 71, .ref s2, .ref s1, .ref s0] (G, F, I, J) b post px := ip_s_bipush f19_418 (by decide)
theorem f19_420 : ip_fetch 19 420 = some (.bipush 101, 2) := by decide +kernel
theorem s19_420 {x0 : Nat} {s0 : Nat} {s1 : Nat} {s2 : Nat} {s3 : Int32} : ip_WP 19 420 [some (.ref x0)] [.int s3, .ref s2, .ref s1, .ref s0] (G, F, I, J) b post px ↔ ip_WP 19 422 [some (.ref x0)] [.int 101, .int s3, .ref s2, .ref s1, .ref s0] (G, F, I, J) b post px := ip_s_bipush f19_420 (by decide)
theorem f19_422 : ip_fetch 19 422 = some (.iastore, 1) := by decide +kernel
theorem s19_422 {x0 : Nat} {s0 : Nat} {s1 : Nat} {s2 : Nat} {s3 : Int32} {s4 : Int32} : ip_WP 19 422 [some (.ref x0)] [.int s4, .int s3, .ref s2, .ref s1, .ref s0] (G, F, I, J) b post px ↔ (ip_inA G s2 0 s3 = true ∧ ip_WP 19 423 [some (.ref x0)] [.ref s1, .ref s0] (G, F, ip_up I s2 s3.toNatClampNeg s4, J) b post px) := ip_ck_iff ((ip_st_of f19_422).trans rfl) ip_nx_iff
theorem f19_423 : ip_fetch 19 423 = some (.dup, 1) := by decide +kernel
theorem s19_423 {x0 : Nat} {s0 : Nat} {s1 : Nat} : ip_WP 19 423 [some (.ref x0)] [.ref s1, .ref s0] (G, F, I, J) b post px ↔ ip_WP 19 424 [some (.ref x0)] [.ref s1, .ref s1, .ref s0] (G, F, I, J) b post px := ip_nx_iff ((ip_st_of f19_423).trans rfl)
theorem f19_424 : ip_fetch 19 424 = some (.bipush 72, 2) := by decide +kernel
theorem s19_424 {x0 : Nat} {s0 : Nat} {s1 : Nat} {s2 : Nat} : ip_WP 19 424 [some (.ref x0)] [.ref s2, .ref s1, .ref s0] (G, F, I, J) b post px ↔ ip_WP 19 426 [some (.ref x0)] [.int 72, .ref s2, .ref s1, .ref s0] (G, F, I, J) b post px := ip_s_bipush f19_424 (by decide)
theorem f19_426 : ip_fetch 19 426 = some (.bipush 97, 2) := by decide +kernel
theorem s19_426 {x0 : Nat} {s0 : Nat} {s1 : Nat} {s2 : Nat} {s3 : Int32} : ip_WP 19 426 [some (.ref x0)] [.int s3, .ref s2, .ref s1, .ref s0] (G, F, I, J) b post px ↔ ip_WP 19 428 [some (.ref x0)] [.int 97, .int s3, .ref s2, .ref s1, .ref s0] (G, F, I, J) b post px := ip_s_bipush f19_426 (by decide)
theorem f19_428 : ip_fetch 19 428 = some (.iastore, 1) := by decide +kernel
theorem s19_428 {x0 : Nat} {s0 : Nat} {s1 : Nat} {s2 : Nat} {s3 : Int32} {s4 : Int32} : ip_WP 19 428 [some (.ref x0)] [.int s4, .int s3, .ref s2, .ref s1, .ref s0] (G, F, I, J) b post px ↔ (ip_inA G s2 0 s3 = true ∧ ip_WP 19 429 [some (.ref x0)] [.ref s1, .ref s0] (G, F, ip_up I s2 s3.toNatClampNeg s4, J) b post px) := ip_ck_iff ((ip_st_of f19_428).trans rfl) ip_nx_iff
theorem f19_429 : ip_fetch 19 429 = some (.dup, 1) := by decide +kernel
theorem s19_429 {x0 : Nat} {s0 : Nat} {s1 : Nat} : ip_WP 19 429 [some (.ref x0)] [.ref s1, .ref s0] (G, F, I, J) b post px ↔ ip_WP 19 430 [some (.ref x0)] [.ref s1, .ref s1, .ref s0] (G, F, I, J) b post px := ip_nx_iff ((ip_st_of f19_429).trans rfl)
theorem f19_430 : ip_fetch 19 430 = some (.bipush 73, 2) := by decide +kernel
theorem s19_430 {x0 : Nat} {s0 : Nat} {s1 : Nat} {s2 : Nat} : ip_WP 19 430 [some (.ref x0)] [.ref s2, .ref s1, .ref s0] (G, F, I, J) b post px ↔ ip_WP 19 432 [some (.ref x0)] [.int 73, .ref s2, .ref s1, .ref s0] (G, F, I, J) b post px := ip_s_bipush f19_430 (by decide)
theorem f19_432 : ip_fetch 19 432 = some (.bipush 100, 2) := by decide +kernel
theorem s19_432 {x0 : Nat} {s0 : Nat} {s1 : Nat} {s2 : Nat} {s3 : Int32} : ip_WP 19 432 [some (.ref x0)] [.int s3, .ref s2, .ref s1, .ref s0] (G, F, I, J) b post px ↔ ip_WP 19 434 [some (.ref x0)] [.int 100, .int s3, .ref s2, .ref s1, .ref s0] (G, F, I, J) b post px := ip_s_bipush f19_432 (by decide)
theorem f19_434 : ip_fetch 19 434 = some (.iastore, 1) := by decide +kernel
theorem s19_434 {x0 : Nat} {s0 : Nat} {s1 : Nat} {s2 : Nat} {s3 : Int32} {s4 : Int32} : ip_WP 19 434 [some (.ref x0)] [.int s4, .int s3, .ref s2, .ref s1, .ref s0] (G, F, I, J) b post px ↔ (ip_inA G s2 0 s3 = true ∧ ip_WP 19 435 [some (.ref x0)] [.ref s1, .ref s0] (G, F, ip_up I s2 s3.toNatClampNeg s4, J) b post px) := ip_ck_iff ((ip_st_of f19_434).trans rfl) ip_nx_iff
theorem f19_435 : ip_fetch 19 435 = some (.dup, 1) := by decide +kernel
theorem s19_435 {x0 : Nat} {s0 : Nat} {s1 : Nat} : ip_WP 19 435 [some (.ref x0)] [.ref s1, .ref s0] (G, F, I, J) b post px ↔ ip_WP 19 436 [some (.ref x0)] [.ref s1, .ref s1, .ref s0] (G, F, I, J) b post px := ip_nx_iff ((ip_st_of f19_435).trans rfl)
theorem f19_436 : ip_fetch 19 436 = some (.bipush 74, 2) := by decide +kernel
theorem s19_436 {x0 : Nat} {s0 : Nat} {s1 : Nat} {s2 : Nat} : ip_WP 19 436 [some (.ref x0)] [.ref s2, .ref s1, .ref s0] (G, F, I, J) b post px ↔ ip_WP 19 438 [some (.ref x0)] [.int 74, .ref s2, .ref s1, .ref s0] (G, F, I, J) b post px := ip_s_bipush f19_436 (by decide)
theorem f19_438 : ip_fetch 19 438 = some (.iconst 0, 1) := by decide +kernel
theorem s19_438 {x0 : Nat} {s0 : Nat} {s1 : Nat} {s2 : Nat} {s3 : Int32} : ip_WP 19 438 [some (.ref x0)] [.int s3, .ref s2, .ref s1, .ref s0] (G, F, I, J) b post px ↔ ip_WP 19 439 [some (.ref x0)] [.int 0, .int s3, .ref s2, .ref s1, .ref s0] (G, F, I, J) b post px := ip_s_iconst f19_438 (by decide)
theorem f19_439 : ip_fetch 19 439 = some (.iastore, 1) := by decide +kernel
theorem s19_439 {x0 : Nat} {s0 : Nat} {s1 : Nat} {s2 : Nat} {s3 : Int32} {s4 : Int32} : ip_WP 19 439 [some (.ref x0)] [.int s4, .int s3, .ref s2, .ref s1, .ref s0] (G, F, I, J) b post px ↔ (ip_inA G s2 0 s3 = true ∧ ip_WP 19 440 [some (.ref x0)] [.ref s1, .ref s0] (G, F, ip_up I s2 s3.toNatClampNeg s4, J) b post px) := ip_ck_iff ((ip_st_of f19_439).trans rfl) ip_nx_iff
theorem f19_440 : ip_fetch 19 440 = some (.dup, 1) := by decide +kernel
theorem s19_440 {x0 : Nat} {s0 : Nat} {s1 : Nat} : ip_WP 19 440 [some (.ref x0)] [.ref s1, .ref s0] (G, F, I, J) b post px ↔ ip_WP 19 441 [some (.ref x0)] [.ref s1, .ref s1, .ref s0] (G, F, I, J) b post px := ip_nx_iff ((ip_st_of f19_440).trans rfl)
theorem f19_441 : ip_fetch 19 441 = some (.bipush 75, 2) := by decide +kernel
theorem s19_441 {x0 : Nat} {s0 : Nat} {s1 : Nat} {s2 : Nat} : ip_WP 19 441 [some (.ref x0)] [.ref s2, .ref s1, .ref s0] (G, F, I, J) b post px ↔ ip_WP 19 443 [some (.ref x0)] [.int 75, .ref s2, .ref s1, .ref s0] (G, F, I, J) b post px := ip_s_bipush f19_441 (by decide)
theorem f19_443 : ip_fetch 19 443 = some (.bipush 101, 2) := by decide +kernel
theorem s19_443 {x0 : Nat} {s0 : Nat} {s1 : Nat} {s2 : Nat} {s3 : Int32} : ip_WP 19 443 [some (.ref x0)] [.int s3, .ref s2, .ref s1, .ref s0] (G, F, I, J) b post px ↔ ip_WP 19 445 [some (.ref x0)] [.int 101, .int s3, .ref s2, .ref s1, .ref s0] (G, F, I, J) b post px := ip_s_bipush f19_443 (by decide)
theorem f19_445 : ip_fetch 19 445 = some (.iastore, 1) := by decide +kernel
theorem s19_445 {x0 : Nat} {s0 : Nat} {s1 : Nat} {s2 : Nat} {s3 : Int32} {s4 : Int32} : ip_WP 19 445 [some (.ref x0)] [.int s4, .int s3, .ref s2, .ref s1, .ref s0] (G, F, I, J) b post px ↔ (ip_inA G s2 0 s3 = true ∧ ip_WP 19 446 [some (.ref x0)] [.ref s1, .ref s0] (G, F, ip_up I s2 s3.toNatClampNeg s4, J) b post px) := ip_ck_iff ((ip_st_of f19_445).trans rfl) ip_nx_iff
theorem f19_446 : ip_fetch 19 446 = some (.dup, 1) := by decide +kernel
theorem s19_446 {x0 : Nat} {s0 : Nat} {s1 : Nat} : ip_WP 19 446 [some (.ref x0)] [.ref s1, .ref s0] (G, F, I, J) b post px ↔ ip_WP 19 447 [some (.ref x0)] [.ref s1, .ref s1, .ref s0] (G, F, I, J) b post px := ip_nx_iff ((ip_st_of f19_446).trans rfl)
theorem f19_447 : ip_fetch 19 447 = some (.bipush 76, 2) := by decide +kernel
theorem s19_447 {x0 : Nat} {s0 : Nat} {s1 : Nat} {s2 : Nat} : ip_WP 19 447 [some (.ref x0)] [.ref s2, .ref s1, .ref s0] (G, F, I, J) b post px ↔ ip_WP 19 449 [some (.ref x0)] [.int 76, .ref s2, .ref s1, .ref s0] (G, F, I, J) b post px := ip_s_bipush f19_447 (by decide)
theorem f19_449 : ip_fetch 19 449 = some (.bipush 120, 2) := by decide +kernel
theorem s19_449 {x0 : Nat} {s0 : Nat} {s1 : Nat} {s2 : Nat} {s3 : Int32} : ip_WP 19 449 [some (.ref x0)] [.int s3, .ref s2, .ref s1, .ref s0] (G, F, I, J) b post px ↔ ip_WP 19 451 [some (.ref x0)] [.int 120, .int s3, .ref s2, .ref s1, .ref s0] (G, F, I, J) b post px := ip_s_bipush f19_449 (by decide)
theorem f19_451 : ip_fetch 19 451 = some (.iastore, 1) := by decide +kernel
theorem s19_451 {x0 : Nat} {s0 : Nat} {s1 : Nat} {s2 : Nat} {s3 : Int32} {s4 : Int32} : ip_WP 19 451 [some (.ref x0)] [.int s4, .int s3, .ref s2, .ref s1, .ref s0] (G, F, I, J) b post px ↔ (ip_inA G s2 0 s3 = true ∧ ip_WP 19 452 [some (.ref x0)] [.ref s1, .ref s0] (G, F, ip_up I s2 s3.toNatClampNeg s4, J) b post px) := ip_ck_iff ((ip_st_of f19_451).trans rfl) ip_nx_iff
theorem f19_452 : ip_fetch 19 452 = some (.dup, 1) := by decide +kernel
theorem s19_452 {x0 : Nat} {s0 : Nat} {s1 : Nat} : ip_WP 19 452 [some (.ref x0)] [.ref s1, .ref s0] (G, F, I, J) b post px ↔ ip_WP 19 453 [some (.ref x0)] [.ref s1, .ref s1, .ref s0] (G, F, I, J) b post px := ip_nx_iff ((ip_st_of f19_452).trans rfl)
theorem f19_453 : ip_fetch 19 453 = some (.bipush 77, 2) := by decide +kernel
theorem s19_453 {x0 : Nat} {s0 : Nat} {s1 : Nat} {s2 : Nat} : ip_WP 19 453 [some (.ref x0)] [.ref s2, .ref s1, .ref s0] (G, F, I, J) b post px ↔ ip_WP 19 455 [some (.ref x0)] [.int 77, .ref s2, .ref s1, .ref s0] (G, F, I, J) b post px := ip_s_bipush f19_453 (by decide)
theorem f19_455 : ip_fetch 19 455 = some (.bipush 101, 2) := by decide +kernel
theorem s19_455 {x0 : Nat} {s0 : Nat} {s1 : Nat} {s2 : Nat} {s3 : Int32} : ip_WP 19 455 [some (.ref x0)] [.int s3, .ref s2, .ref s1, .ref s0] (G, F, I, J) b post px ↔ ip_WP 19 457 [some (.ref x0)] [.int 101, .int s3, .ref s2, .ref s1, .ref s0] (G, F, I, J) b post px := ip_s_bipush f19_455 (by decide)
theorem f19_457 : ip_fetch 19 457 = some (.iastore, 1) := by decide +kernel
theorem s19_457 {x0 : Nat} {s0 : Nat} {s1 : Nat} {s2 : Nat} {s3 : Int32} {s4 : Int32} : ip_WP 19 457 [some (.ref x0)] [.int s4, .int s3, .ref s2, .ref s1, .ref s0] (G, F, I, J) b post px ↔ (ip_inA G s2 0 s3 = true ∧ ip_WP 19 458 [some (.ref x0)] [.ref s1, .ref s0] (G, F, ip_up I s2 s3.toNatClampNeg s4, J) b post px) := ip_ck_iff ((ip_st_of f19_457).trans rfl) ip_nx_iff
theorem f19_458 : ip_fetch 19 458 = some (.dup, 1) := by decide +kernel
theorem s19_458 {x0 : Nat} {s0 : Nat} {s1 : Nat} : ip_WP 19 458 [some (.ref x0)] [.ref s1, .ref s0] (G, F, I, J) b post px ↔ ip_WP 19 459 [some (.ref x0)] [.ref s1, .ref s1, .ref s0] (G, F, I, J) b post px := ip_nx_iff ((ip_st_of f19_458).trans rfl)
theorem f19_459 : ip_fetch 19 459 = some (.bipush 78, 2) := by decide +kernel
theorem s19_459 {x0 : Nat} {s0 : Nat} {s1 : Nat} {s2 : Nat} : ip_WP 19 459 [some (.ref x0)] [.ref s2, .ref s1, .ref s0] (G, F, I, J) b post px ↔ ip_WP 19 461 [some (.ref x0)] [.int 78, .ref s2, .ref s1, .ref s0] (G, F, I, J) b post px := ip_s_bipush f19_459 (by decide)
theorem f19_461 : ip_fetch 19 461 = some (.bipush 99, 2) := by decide +kernel
theorem s19_461 {x0 : Nat} {s0 : Nat} {s1 : Nat} {s2 : Nat} {s3 : Int32} : ip_WP 19 461 [some (.ref x0)] [.int s3, .ref s2, .ref s1, .ref s0] (G, F, I, J) b post px ↔ ip_WP 19 463 [some (.ref x0)] [.int 99, .int s3, .ref s2, .ref s1, .ref s0] (G, F, I, J) b post px := ip_s_bipush f19_461 (by decide)
theorem f19_463 : ip_fetch 19 463 = some (.iastore, 1) := by decide +kernel
theorem s19_463 {x0 : Nat} {s0 : Nat} {s1 : Nat} {s2 : Nat} {s3 : Int32} {s4 : Int32} : ip_WP 19 463 [some (.ref x0)] [.int s4, .int s3, .ref s2, .ref s1, .ref s0] (G, F, I, J) b post px ↔ (ip_inA G s2 0 s3 = true ∧ ip_WP 19 464 [some (.ref x0)] [.ref s1, .ref s0] (G, F, ip_up I s2 s3.toNatClampNeg s4, J) b post px) := ip_ck_iff ((ip_st_of f19_463).trans rfl) ip_nx_iff
theorem f19_464 : ip_fetch 19 464 = some (.dup, 1) := by decide +kernel
theorem s19_464 {x0 : Nat} {s0 : Nat} {s1 : Nat} : ip_WP 19 464 [some (.ref x0)] [.ref s1, .ref s0] (G, F, I, J) b post px ↔ ip_WP 19 465 [some (.ref x0)] [.ref s1, .ref s1, .ref s0] (G, F, I, J) b post px := ip_nx_iff ((ip_st_of f19_464).trans rfl)
theorem f19_465 : ip_fetch 19 465 = some (.bipush 79, 2) := by decide +kernel
theorem s19_465 {x0 : Nat} {s0 : Nat} {s1 : Nat} {s2 : Nat} : ip_WP 19 465 [some (.ref x0)] [.ref s2, .ref s1, .ref s0] (G, F, I, J) b post px ↔ ip_WP 19 467 [some (.ref x0)] [.int 79, .ref s2, .ref s1, .ref s0] (G, F, I, J) b post px := ip_s_bipush f19_465 (by decide)
theorem f19_467 : ip_fetch 19 467 = some (.bipush 117, 2) := by decide +kernel
theorem s19_467 {x0 : Nat} {s0 : Nat} {s1 : Nat} {s2 : Nat} {s3 : Int32} : ip_WP 19 467 [some (.ref x0)] [.int s3, .ref s2, .ref s1, .ref s0] (G, F, I, J) b post px ↔ ip_WP 19 469 [some (.ref x0)] [.int 117, .int s3, .ref s2, .ref s1, .ref s0] (G, F, I, J) b post px := ip_s_bipush f19_467 (by decide)
theorem f19_469 : ip_fetch 19 469 = some (.iastore, 1) := by decide +kernel
theorem s19_469 {x0 : Nat} {s0 : Nat} {s1 : Nat} {s2 : Nat} {s3 : Int32} {s4 : Int32} : ip_WP 19 469 [some (.ref x0)] [.int s4, .int s3, .ref s2, .ref s1, .ref s0] (G, F, I, J) b post px ↔ (ip_inA G s2 0 s3 = true ∧ ip_WP 19 470 [some (.ref x0)] [.ref s1, .ref s0] (G, F, ip_up I s2 s3.toNatClampNeg s4, J) b post px) := ip_ck_iff ((ip_st_of f19_469).trans rfl) ip_nx_iff
theorem f19_470 : ip_fetch 19 470 = some (.dup, 1) := by decide +kernel
theorem s19_470 {x0 : Nat} {s0 : Nat} {s1 : Nat} : ip_WP 19 470 [some (.ref x0)] [.ref s1, .ref s0] (G, F, I, J) b post px ↔ ip_WP 19 471 [some (.ref x0)] [.ref s1, .ref s1, .ref s0] (G, F, I, J) b post px := ip_nx_iff ((ip_st_of f19_470).trans rfl)
theorem f19_471 : ip_fetch 19 471 = some (.bipush 80, 2) := by decide +kernel
theorem s19_471 {x0 : Nat} {s0 : Nat} {s1 : Nat} {s2 : Nat} : ip_WP 19 471 [some (.ref x0)] [.ref s2, .ref s1, .ref s0] (G, F, I, J) b post px ↔ ip_WP 19 473 [some (.ref x0)] [.int 80, .ref s2, .ref s1, .ref s0] (G, F, I, J) b post px := ip_s_bipush f19_471 (by decide)
theorem f19_473 : ip_fetch 19 473 = some (.bipush 116, 2) := by decide +kernel
theorem s19_473 {x0 : Nat} {s0 : Nat} {s1 : Nat} {s2 : Nat} {s3 : Int32} : ip_WP 19 473 [some (.ref x0)] [.int s3, .ref s2, .ref s1, .ref s0] (G, F, I, J) b post px ↔ ip_WP 19 475 [some (.ref x0)] [.int 116, .int s3, .ref s2, .ref s1, .ref s0] (G, F, I, J) b post px := ip_s_bipush f19_473 (by decide)
theorem f19_475 : ip_fetch 19 475 = some (.iastore, 1) := by decide +kernel
theorem s19_475 {x0 : Nat} {s0 : Nat} {s1 : Nat} {s2 : Nat} {s3 : Int32} {s4 : Int32} : ip_WP 19 475 [some (.ref x0)] [.int s4, .int s3, .ref s2, .ref s1, .ref s0] (G, F, I, J) b post px ↔ (ip_inA G s2 0 s3 = true ∧ ip_WP 19 476 [some (.ref x0)] [.ref s1, .ref s0] (G, F, ip_up I s2 s3.toNatClampNeg s4, J) b post px) := ip_ck_iff ((ip_st_of f19_475).trans rfl) ip_nx_iff
theorem f19_476 : ip_fetch 19 476 = some (.dup, 1) := by decide +kernel
theorem s19_476 {x0 : Nat} {s0 : Nat} {s1 : Nat} : ip_WP 19 476 [some (.ref x0)] [.ref s1, .ref s0] (G, F, I, J) b post px ↔ ip_WP 19 477 [some (.ref x0)] [.ref s1, .ref s1, .ref s0] (G, F, I, J) b post px := ip_nx_iff ((ip_st_of f19_476).trans rfl)
theorem f19_477 : ip_fetch 19 477 = some (.bipush 81, 2) := by decide +kernel
theorem s19_477 {x0 : Nat} {s0 : Nat} {s1 : Nat} {s2 : Nat} : ip_WP 19 477 [some (.ref x0)] [.ref s2, .ref s1, .ref s0] (G, F, I, J) b post px ↔ ip_WP 19 479 [some (.ref x0)] [.int 81, .ref s2, .ref s1, .ref s0] (G, F, I, J) b post px := ip_s_bipush f19_477 (by decide)
theorem f19_479 : ip_fetch 19 479 = some (.bipush 101, 2) := by decide +kernel
theorem s19_479 {x0 : Nat} {s0 : Nat} {s1 : Nat} {s2 : Nat} {s3 : Int32} : ip_WP 19 479 [some (.ref x0)] [.int s3, .ref s2, .ref s1, .ref s0] (G, F, I, J) b post px ↔ ip_WP 19 481 [some (.ref x0)] [.int 101, .int s3, .ref s2, .ref s1, .ref s0] (G, F, I, J) b post px := ip_s_bipush f19_479 (by decide)
theorem f19_481 : ip_fetch 19 481 = some (.iastore, 1) := by decide +kernel
theorem s19_481 {x0 : Nat} {s0 : Nat} {s1 : Nat} {s2 : Nat} {s3 : Int32} {s4 : Int32} : ip_WP 19 481 [some (.ref x0)] [.int s4, .int s3, .ref s2, .ref s1, .ref s0] (G, F, I, J) b post px ↔ (ip_inA G s2 0 s3 = true ∧ ip_WP 19 482 [some (.ref x0)] [.ref s1, .ref s0] (G, F, ip_up I s2 s3.toNatClampNeg s4, J) b post px) := ip_ck_iff ((ip_st_of f19_481).trans rfl) ip_nx_iff
theorem f19_482 : ip_fetch 19 482 = some (.dup, 1) := by decide +kernel
theorem s19_482 {x0 : Nat} {s0 : Nat} {s1 : Nat} : ip_WP 19 482 [some (.ref x0)] [.ref s1, .ref s0] (G, F, I, J) b post px ↔ ip_WP 19 483 [some (.ref x0)] [.ref s1, .ref s1, .ref s0] (G, F, I, J) b post px := ip_nx_iff ((ip_st_of f19_482).trans rfl)
theorem f19_483 : ip_fetch 19 483 = some (.bipush 82, 2) := by decide +kernel
theorem s19_483 {x0 : Nat} {s0 : Nat} {s1 : Nat} {s2 : Nat} : ip_WP 19 483 [some (.ref x0)] [.ref s2, .ref s1, .ref s0] (G, F, I, J) b post px ↔ ip_WP 19 485 [some (.ref x0)] [.int 82, .ref s2, .ref s1, .ref s0] (G, F, I, J) b post px := ip_s_bipush f19_483 (by decide)
theorem f19_485 : ip_fetch 19 485 = some (.iconst 0, 1) := by decide +kernel
theorem s19_485 {x0 : Nat} {s0 : Nat} {s1 : Nat} {s2 : Nat} {s3 : Int32} : ip_WP 19 485 [some (.ref x0)] [.int s3, .ref s2, .ref s1, .ref s0] (G, F, I, J) b post px ↔ ip_WP 19 486 [some (.ref x0)] [.int 0, .int s3, .ref s2, .ref s1, .ref s0] (G, F, I, J) b post px := ip_s_iconst f19_485 (by decide)
theorem f19_486 : ip_fetch 19 486 = some (.iastore, 1) := by decide +kernel
theorem s19_486 {x0 : Nat} {s0 : Nat} {s1 : Nat} {s2 : Nat} {s3 : Int32} {s4 : Int32} : ip_WP 19 486 [some (.ref x0)] [.int s4, .int s3, .ref s2, .ref s1, .ref s0] (G, F, I, J) b post px ↔ (ip_inA G s2 0 s3 = true ∧ ip_WP 19 487 [some (.ref x0)] [.ref s1, .ref s0] (G, F, ip_up I s2 s3.toNatClampNeg s4, J) b post px) := ip_ck_iff ((ip_st_of f19_486).trans rfl) ip_nx_iff
theorem f19_487 : ip_fetch 19 487 = some (.dup, 1) := by decide +kernel
theorem s19_487 {x0 : Nat} {s0 : Nat} {s1 : Nat} : ip_WP 19 487 [some (.ref x0)] [.ref s1, .ref s0] (G, F, I, J) b post px ↔ ip_WP 19 488 [some (.ref x0)] [.ref s1, .ref s1, .ref s0] (G, F, I, J) b post px := ip_nx_iff ((ip_st_of f19_487).trans rfl)
theorem f19_488 : ip_fetch 19 488 = some (.bipush 83, 2) := by decide +kernel
theorem s19_488 {x0 : Nat} {s0 : Nat} {s1 : Nat} {s2 : Nat} : ip_WP 19 488 [some (.ref x0)] [.ref s2, .ref s1, .ref s0] (G, F, I, J) b post px ↔ ip_WP 19 490 [some (.ref x0)] [.int 83, .ref s2, .ref s1, .ref s0] (G, F, I, J) b post px := ip_s_bipush f19_488 (by decide)
theorem f19_490 : ip_fetch 19 490 = some (.bipush 109, 2) := by decide +kernel
theorem s19_490 {x0 : Nat} {s0 : Nat} {s1 : Nat} {s2 : Nat} {s3 : Int32} : ip_WP 19 490 [some (.ref x0)] [.int s3, .ref s2, .ref s1, .ref s0] (G, F, I, J) b post px ↔ ip_WP 19 492 [some (.ref x0)] [.int 109, .int s3, .ref s2, .ref s1, .ref s0] (G, F, I, J) b post px := ip_s_bipush f19_490 (by decide)
theorem f19_492 : ip_fetch 19 492 = some (.iastore, 1) := by decide +kernel
theorem s19_492 {x0 : Nat} {s0 : Nat} {s1 : Nat} {s2 : Nat} {s3 : Int32} {s4 : Int32} : ip_WP 19 492 [some (.ref x0)] [.int s4, .int s3, .ref s2, .ref s1, .ref s0] (G, F, I, J) b post px ↔ (ip_inA G s2 0 s3 = true ∧ ip_WP 19 493 [some (.ref x0)] [.ref s1, .ref s0] (G, F, ip_up I s2 s3.toNatClampNeg s4, J) b post px) := ip_ck_iff ((ip_st_of f19_492).trans rfl) ip_nx_iff
theorem f19_493 : ip_fetch 19 493 = some (.dup, 1) := by decide +kernel
theorem s19_493 {x0 : Nat} {s0 : Nat} {s1 : Nat} : ip_WP 19 493 [some (.ref x0)] [.ref s1, .ref s0] (G, F, I, J) b post px ↔ ip_WP 19 494 [some (.ref x0)] [.ref s1, .ref s1, .ref s0] (G, F, I, J) b post px := ip_nx_iff ((ip_st_of f19_493).trans rfl)
theorem f19_494 : ip_fetch 19 494 = some (.bipush 84, 2) := by decide +kernel
theorem s19_494 {x0 : Nat} {s0 : Nat} {s1 : Nat} {s2 : Nat} : ip_WP 19 494 [some (.ref x0)] [.ref s2, .ref s1, .ref s0] (G, F, I, J) b post px ↔ ip_WP 19 496 [some (.ref x0)] [.int 84, .ref s2, .ref s1, .ref s0] (G, F, I, J) b post px := ip_s_bipush f19_494 (by decide)
theorem f19_496 : ip_fetch 19 496 = some (.bipush 101, 2) := by decide +kernel
theorem s19_496 {x0 : Nat} {s0 : Nat} {s1 : Nat} {s2 : Nat} {s3 : Int32} : ip_WP 19 496 [some (.ref x0)] [.int s3, .ref s2, .ref s1, .ref s0] (G, F, I, J) b post px ↔ ip_WP 19 498 [some (.ref x0)] [.int 101, .int s3, .ref s2, .ref s1, .ref s0] (G, F, I, J) b post px := ip_s_bipush f19_496 (by decide)
theorem f19_498 : ip_fetch 19 498 = some (.iastore, 1) := by decide +kernel
theorem s19_498 {x0 : Nat} {s0 : Nat} {s1 : Nat} {s2 : Nat} {s3 : Int32} {s4 : Int32} : ip_WP 19 498 [some (.ref x0)] [.int s4, .int s3, .ref s2, .ref s1, .ref s0] (G, F, I, J) b post px ↔ (ip_inA G s2 0 s3 = true ∧ ip_WP 19 499 [some (.ref x0)] [.ref s1, .ref s0] (G, F, ip_up I s2 s3.toNatClampNeg s4, J) b post px) := ip_ck_iff ((ip_st_of f19_498).trans rfl) ip_nx_iff
theorem f19_499 : ip_fetch 19 499 = some (.dup, 1) := by decide +kernel
theorem s19_499 {x0 : Nat} {s0 : Nat} {s1 : Nat} : ip_WP 19 499 [some (.ref x0)] [.ref s1, .ref s0] (G, F, I, J) b post px ↔ ip_WP 19 500 [some (.ref x0)] [.ref s1, .ref s1, .ref s0] (G, F, I, J) b post px := ip_nx_iff ((ip_st_of f19_499).trans rfl)
theorem f19_500 : ip_fetch 19 500 = some (.bipush 85, 2) := by decide +kernel
theorem s19_500 {x0 : Nat} {s0 : Nat} {s1 : Nat} {s2 : Nat} : ip_WP 19 500 [some (.ref x0)] [.ref s2, .ref s1, .ref s0] (G, F, I, J) b post px ↔ ip_WP 19 502 [some (.ref x0)] [.int 85, .ref s2, .ref s1, .ref s0] (G, F, I, J) b post px := ip_s_bipush f19_500 (by decide)
theorem f19_502 : ip_fetch 19 502 = some (.bipush 109, 2) := by decide +kernel
theorem s19_502 {x0 : Nat} {s0 : Nat} {s1 : Nat} {s2 : Nat} {s3 : Int32} : ip_WP 19 502 [some (.ref x0)] [.int s3, .ref s2, .ref s1, .ref s0] (G, F, I, J) b post px ↔ ip_WP 19 504 [some (.ref x0)] [.int 109, .int s3, .ref s2, .ref s1, .ref s0] (G, F, I, J) b post px := ip_s_bipush f19_502 (by decide)
theorem f19_504 : ip_fetch 19 504 = some (.iastore, 1) := by decide +kernel
theorem s19_504 {x0 : Nat} {s0 : Nat} {s1 : Nat} {s2 : Nat} {s3 : Int32} {s4 : Int32} : ip_WP 19 504 [some (.ref x0)] [.int s4, .int s3, .ref s2, .ref s1, .ref s0] (G, F, I, J) b post px ↔ (ip_inA G s2 0 s3 = true ∧ ip_WP 19 505 [some (.ref x0)] [.ref s1, .ref s0] (G, F, ip_up I s2 s3.toNatClampNeg s4, J) b post px) := ip_ck_iff ((ip_st_of f19_504).trans rfl) ip_nx_iff
theorem f19_505 : ip_fetch 19 505 = some (.dup, 1) := by decide +kernel
theorem s19_505 {x0 : Nat} {s0 : Nat} {s1 : Nat} : ip_WP 19 505 [some (.ref x0)] [.ref s1, .ref s0] (G, F, I, J) b post px ↔ ip_WP 19 506 [some (.ref x0)] [.ref s1, .ref s1, .ref s0] (G, F, I, J) b post px := ip_nx_iff ((ip_st_of f19_505).trans rfl)
theorem f19_506 : ip_fetch 19 506 = some (.bipush 86, 2) := by decide +kernel
theorem s19_506 {x0 : Nat} {s0 : Nat} {s1 : Nat} {s2 : Nat} : ip_WP 19 506 [some (.ref x0)] [.ref s2, .ref s1, .ref s0] (G, F, I, J) b post px ↔ ip_WP 19 508 [some (.ref x0)] [.int 86, .ref s2, .ref s1, .ref s0] (G, F, I, J) b post px := ip_s_bipush f19_506 (by decide)
theorem f19_508 : ip_fetch 19 508 = some (.bipush 111, 2) := by decide +kernel
theorem s19_508 {x0 : Nat} {s0 : Nat} {s1 : Nat} {s2 : Nat} {s3 : Int32} : ip_WP 19 508 [some (.ref x0)] [.int s3, .ref s2, .ref s1, .ref s0] (G, F, I, J) b post px ↔ ip_WP 19 510 [some (.ref x0)] [.int 111, .int s3, .ref s2, .ref s1, .ref s0] (G, F, I, J) b post px := ip_s_bipush f19_508 (by decide)
theorem f19_510 : ip_fetch 19 510 = some (.iastore, 1) := by decide +kernel
theorem s19_510 {x0 : Nat} {s0 : Nat} {s1 : Nat} {s2 : Nat} {s3 : Int32} {s4 : Int32} : ip_WP 19 510 [some (.ref x0)] [.int s4, .int s3, .ref s2, .ref s1, .ref s0] (G, F, I, J) b post px ↔ (ip_inA G s2 0 s3 = true ∧ ip_WP 19 511 [some (.ref x0)] [.ref s1, .ref s0] (G, F, ip_up I s2 s3.toNatClampNeg s4, J) b post px) := ip_ck_iff ((ip_st_of f19_510).trans rfl) ip_nx_iff
theorem f19_511 : ip_fetch 19 511 = some (.dup, 1) := by decide +kernel
theorem s19_511 {x0 : Nat} {s0 : Nat} {s1 : Nat} : ip_WP 19 511 [some (.ref x0)] [.ref s1, .ref s0] (G, F, I, J) b post px ↔ ip_WP 19 512 [some (.ref x0)] [.ref s1, .ref s1, .ref s0] (G, F, I, J) b post px := ip_nx_iff ((ip_st_of f19_511).trans rfl)
theorem f19_512 : ip_fetch 19 512 = some (.bipush 87, 2) := by decide +kernel
theorem s19_512 {x0 : Nat} {s0 : Nat} {s1 : Nat} {s2 : Nat} : ip_WP 19 512 [some (.ref x0)] [.ref s2, .ref s1, .ref s0] (G, F, I, J) b post px ↔ ip_WP 19 514 [some (.ref x0)] [.int 87, .ref s2, .ref s1, .ref s0] (G, F, I, J) b post px := ip_s_bipush f19_512 (by decide)
theorem f19_514 : ip_fetch 19 514 = some (.bipush 114, 2) := by decide +kernel
theorem s19_514 {x0 : Nat} {s0 : Nat} {s1 : Nat} {s2 : Nat} {s3 : Int32} : ip_WP 19 514 [some (.ref x0)] [.int s3, .ref s2, .ref s1, .ref s0] (G, F, I, J) b post px ↔ ip_WP 19 516 [some (.ref x0)] [.int 114, .int s3, .ref s2, .ref s1, .ref s0] (G, F, I, J) b post px := ip_s_bipush f19_514 (by decide)
theorem f19_516 : ip_fetch 19 516 = some (.iastore, 1) := by decide +kernel
theorem s19_516 {x0 : Nat} {s0 : Nat} {s1 : Nat} {s2 : Nat} {s3 : Int32} {s4 : Int32} : ip_WP 19 516 [some (.ref x0)] [.int s4, .int s3, .ref s2, .ref s1, .ref s0] (G, F, I, J) b post px ↔ (ip_inA G s2 0 s3 = true ∧ ip_WP 19 517 [some (.ref x0)] [.ref s1, .ref s0] (G, F, ip_up I s2 s3.toNatClampNeg s4, J) b post px) := ip_ck_iff ((ip_st_of f19_516).trans rfl) ip_nx_iff
theorem f19_517 : ip_fetch 19 517 = some (.dup, 1) := by decide +kernel
theorem s19_517 {x0 : Nat} {s0 : Nat} {s1 : Nat} : ip_WP 19 517 [some (.ref x0)] [.ref s1, .ref s0] (G, F, I, J) b post px ↔ ip_WP 19 518 [some (.ref x0)] [.ref s1, .ref s1, .ref s0] (G, F, I, J) b post px := ip_nx_iff ((ip_st_of f19_517).trans rfl)
theorem f19_518 : ip_fetch 19 518 = some (.bipush 88, 2) := by decide +kernel
theorem s19_518 {x0 : Nat} {s0 : Nat} {s1 : Nat} {s2 : Nat} : ip_WP 19 518 [some (.ref x0)] [.ref s2, .ref s1, .ref s0] (G, F, I, J) b post px ↔ ip_WP 19 520 [some (.ref x0)] [.int 88, .ref s2, .ref s1, .ref s0] (G, F, I, J) b post px := ip_s_bipush f19_518 (by decide)
theorem f19_520 : ip_fetch 19 520 = some (.bipush 121, 2) := by decide +kernel
theorem s19_520 {x0 : Nat} {s0 : Nat} {s1 : Nat} {s2 : Nat} {s3 : Int32} : ip_WP 19 520 [some (.ref x0)] [.int s3, .ref s2, .ref s1, .ref s0] (G, F, I, J) b post px ↔ ip_WP 19 522 [some (.ref x0)] [.int 121, .int s3, .ref s2, .ref s1, .ref s0] (G, F, I, J) b post px := ip_s_bipush f19_520 (by decide)
theorem f19_522 : ip_fetch 19 522 = some (.iastore, 1) := by decide +kernel
theorem s19_522 {x0 : Nat} {s0 : Nat} {s1 : Nat} {s2 : Nat} {s3 : Int32} {s4 : Int32} : ip_WP 19 522 [some (.ref x0)] [.int s4, .int s3, .ref s2, .ref s1, .ref s0] (G, F, I, J) b post px ↔ (ip_inA G s2 0 s3 = true ∧ ip_WP 19 523 [some (.ref x0)] [.ref s1, .ref s0] (G, F, ip_up I s2 s3.toNatClampNeg s4, J) b post px) := ip_ck_iff ((ip_st_of f19_522).trans rfl) ip_nx_iff
theorem f19_523 : ip_fetch 19 523 = some (.dup, 1) := by decide +kernel
theorem s19_523 {x0 : Nat} {s0 : Nat} {s1 : Nat} : ip_WP 19 523 [some (.ref x0)] [.ref s1, .ref s0] (G, F, I, J) b post px ↔ ip_WP 19 524 [some (.ref x0)] [.ref s1, .ref s1, .ref s0] (G, F, I, J) b post px := ip_nx_iff ((ip_st_of f19_523).trans rfl)
theorem f19_524 : ip_fetch 19 524 = some (.bipush 89, 2) := by decide +kernel
theorem s19_524 {x0 : Nat} {s0 : Nat} {s1 : Nat} {s2 : Nat} : ip_WP 19 524 [some (.ref x0)] [.ref s2, .ref s1, .ref s0] (G, F, I, J) b post px ↔ ip_WP 19 526 [some (.ref x0)] [.int 89, .ref s2, .ref s1, .ref s0] (G, F, I, J) b post px := ip_s_bipush f19_524 (by decide)
theorem f19_526 : ip_fetch 19 526 = some (.iconst 0, 1) := by decide +kernel
theorem s19_526 {x0 : Nat} {s0 : Nat} {s1 : Nat} {s2 : Nat} {s3 : Int32} : ip_WP 19 526 [some (.ref x0)] [.int s3, .ref s2, .ref s1, .ref s0] (G, F, I, J) b post px ↔ ip_WP 19 527 [some (.ref x0)] [.int 0, .int s3, .ref s2, .ref s1, .ref s0] (G, F, I, J) b post px := ip_s_iconst f19_526 (by decide)
theorem f19_527 : ip_fetch 19 527 = some (.iastore, 1) := by decide +kernel
theorem s19_527 {x0 : Nat} {s0 : Nat} {s1 : Nat} {s2 : Nat} {s3 : Int32} {s4 : Int32} : ip_WP 19 527 [some (.ref x0)] [.int s4, .int s3, .ref s2, .ref s1, .ref s0] (G, F, I, J) b post px ↔ (ip_inA G s2 0 s3 = true ∧ ip_WP 19 528 [some (.ref x0)] [.ref s1, .ref s0] (G, F, ip_up I s2 s3.toNatClampNeg s4, J) b post px) := ip_ck_iff ((ip_st_of f19_527).trans rfl) ip_nx_iff
theorem f19_528 : ip_fetch 19 528 = some (.dup, 1) := by decide +kernel
theorem s19_528 {x0 : Nat} {s0 : Nat} {s1 : Nat} : ip_WP 19 528 [some (.ref x0)] [.ref s1, .ref s0] (G, F, I, J) b post px ↔ ip_WP 19 529 [some (.ref x0)] [.ref s1, .ref s1, .ref s0] (G, F, I, J) b post px := ip_nx_iff ((ip_st_of f19_528).trans rfl)
theorem f19_529 : ip_fetch 19 529 = some (.bipush 90, 2) := by decide +kernel
theorem s19_529 {x0 : Nat} {s0 : Nat} {s1 : Nat} {s2 : Nat} : ip_WP 19 529 [some (.ref x0)] [.ref s2, .ref s1, .ref s0] (G, F, I, J) b post px ↔ ip_WP 19 531 [some (.ref x0)] [.int 90, .ref s2, .ref s1, .ref s0] (G, F, I, J) b post px := ip_s_bipush f19_529 (by decide)
theorem f19_531 : ip_fetch 19 531 = some (.bipush 119, 2) := by decide +kernel
theorem s19_531 {x0 : Nat} {s0 : Nat} {s1 : Nat} {s2 : Nat} {s3 : Int32} : ip_WP 19 531 [some (.ref x0)] [.int s3, .ref s2, .ref s1, .ref s0] (G, F, I, J) b post px ↔ ip_WP 19 533 [some (.ref x0)] [.int 119, .int s3, .ref s2, .ref s1, .ref s0] (G, F, I, J) b post px := ip_s_bipush f19_531 (by decide)
theorem f19_533 : ip_fetch 19 533 = some (.iastore, 1) := by decide +kernel
theorem s19_533 {x0 : Nat} {s0 : Nat} {s1 : Nat} {s2 : Nat} {s3 : Int32} {s4 : Int32} : ip_WP 19 533 [some (.ref x0)] [.int s4, .int s3, .ref s2, .ref s1, .ref s0] (G, F, I, J) b post px ↔ (ip_inA G s2 0 s3 = true ∧ ip_WP 19 534 [some (.ref x0)] [.ref s1, .ref s0] (G, F, ip_up I s2 s3.toNatClampNeg s4, J) b post px) := ip_ck_iff ((ip_st_of f19_533).trans rfl) ip_nx_iff
theorem f19_534 : ip_fetch 19 534 = some (.dup, 1) := by decide +kernel
theorem s19_534 {x0 : Nat} {s0 : Nat} {s1 : Nat} : ip_WP 19 534 [some (.ref x0)] [.ref s1, .ref s0] (G, F, I, J) b post px ↔ ip_WP 19 535 [some (.ref x0)] [.ref s1, .ref s1, .ref s0] (G, F, I, J) b post px := ip_nx_iff ((ip_st_of f19_534).trans rfl)
theorem f19_535 : ip_fetch 19 535 = some (.bipush 91, 2) := by decide +kernel
theorem s19_535 {x0 : Nat} {s0 : Nat} {s1 : Nat} {s2 : Nat} : ip_WP 19 535 [some (.ref x0)] [.ref s2, .ref s1, .ref s0] (G, F, I, J) b post px ↔ ip_WP 19 537 [some (.ref x0)] [.int 91, .ref s2, .ref s1, .ref s0] (G, F, I, J) b post px := ip_s_bipush f19_535 (by decide)
theorem f19_537 : ip_fetch 19 537 = some (.bipush 114, 2) := by decide +kernel
theorem s19_537 {x0 : Nat} {s0 : Nat} {s1 : Nat} {s2 : Nat} {s3 : Int32} : ip_WP 19 537 [some (.ref x0)] [.int s3, .ref s2, .ref s1, .ref s0] (G, F, I, J) b post px ↔ ip_WP 19 539 [some (.ref x0)] [.int 114, .int s3, .ref s2, .ref s1, .ref s0] (G, F, I, J) b post px := ip_s_bipush f19_537 (by decide)
theorem f19_539 : ip_fetch 19 539 = some (.iastore, 1) := by decide +kernel
theorem s19_539 {x0 : Nat} {s0 : Nat} {s1 : Nat} {s2 : Nat} {s3 : Int32} {s4 : Int32} : ip_WP 19 539 [some (.ref x0)] [.int s4, .int s3, .ref s2, .ref s1, .ref s0] (G, F, I, J) b post px ↔ (ip_inA G s2 0 s3 = true ∧ ip_WP 19 540 [some (.ref x0)] [.ref s1, .ref s0] (G, F, ip_up I s2 s3.toNatClampNeg s4, J) b post px) := ip_ck_iff ((ip_st_of f19_539).trans rfl) ip_nx_iff
theorem f19_540 : ip_fetch 19 540 = some (.dup, 1) := by decide +kernel
theorem s19_540 {x0 : Nat} {s0 : Nat} {s1 : Nat} : ip_WP 19 540 [some (.ref x0)] [.ref s1, .ref s0] (G, F, I, J) b post px ↔ ip_WP 19 541 [some (.ref x0)] [.ref s1, .ref s1, .ref s0] (G, F, I, J) b post px := ip_nx_iff ((ip_st_of f19_540).trans rfl)
theorem f19_541 : ip_fetch 19 541 = some (.bipush 92, 2) := by decide +kernel
theorem s19_541 {x0 : Nat} {s0 : Nat} {s1 : Nat} {s2 : Nat} : ip_WP 19 541 [some (.ref x0)] [.ref s2, .ref s1, .ref s0] (G, F, I, J) b post px ↔ ip_WP 19 543 [some (.ref x0)] [.int 92, .ref s2, .ref s1, .ref s0] (G, F, I, J) b post px := ip_s_bipush f19_541 (by decide)
theorem f19_543 : ip_fetch 19 543 = some (.bipush 105, 2) := by decide +kernel
theorem s19_543 {x0 : Nat} {s0 : Nat} {s1 : Nat} {s2 : Nat} {s3 : Int32} : ip_WP 19 543 [some (.ref x0)] [.int s3, .ref s2, .ref s1, .ref s0] (G, F, I, J) b post px ↔ ip_WP 19 545 [some (.ref x0)] [.int 105, .int s3, .ref s2, .ref s1, .ref s0] (G, F, I, J) b post px := ip_s_bipush f19_543 (by decide)
theorem f19_545 : ip_fetch 19 545 = some (.iastore, 1) := by decide +kernel
theorem s19_545 {x0 : Nat} {s0 : Nat} {s1 : Nat} {s2 : Nat} {s3 : Int32} {s4 : Int32} : ip_WP 19 545 [some (.ref x0)] [.int s4, .int s3, .ref s2, .ref s1, .ref s0] (G, F, I, J) b post px ↔ (ip_inA G s2 0 s3 = true ∧ ip_WP 19 546 [some (.ref x0)] [.ref s1, .ref s0] (G, F, ip_up I s2 s3.toNatClampNeg s4, J) b post px) := ip_ck_iff ((ip_st_of f19_545).trans rfl) ip_nx_iff
theorem f19_546 : ip_fetch 19 546 = some (.dup, 1) := by decide +kernel
theorem s19_546 {x0 : Nat} {s0 : Nat} {s1 : Nat} : ip_WP 19 546 [some (.ref x0)] [.ref s1, .ref s0] (G, F, I, J) b post px ↔ ip_WP 19 547 [some (.ref x0)] [.ref s1, .ref s1, .ref s0] (G, F, I, J) b post px := ip_nx_iff ((ip_st_of f19_546).trans rfl)
theorem f19_547 : ip_fetch 19 547 = some (.bipush 93, 2) := by decide +kernel
theorem s19_547 {x0 : Nat} {s0 : Nat} {s1 : Nat} {s2 : Nat} : ip_WP 19 547 [some (.ref x0)] [.ref s2, .ref s1, .ref s0] (G, F, I, J) b post px ↔ ip_WP 19 549 [some (.ref x0)] [.int 93, .ref s2, .ref s1, .ref s0] (G, F, I, J) b post px := ip_s_bipush f19_547 (by decide)
theorem f19_549 : ip_fetch 19 549 = some (.bipush 116, 2) := by decide +kernel
theorem s19_549 {x0 : Nat} {s0 : Nat} {s1 : Nat} {s2 : Nat} {s3 : Int32} : ip_WP 19 549 [some (.ref x0)] [.int s3, .ref s2, .ref s1, .ref s0] (G, F, I, J) b post px ↔ ip_WP 19 551 [some (.ref x0)] [.int 116, .int s3, .ref s2, .ref s1, .ref s0] (G, F, I, J) b post px := ip_s_bipush f19_549 (by decide)
theorem f19_551 : ip_fetch 19 551 = some (.iastore, 1) := by decide +kernel
theorem s19_551 {x0 : Nat} {s0 : Nat} {s1 : Nat} {s2 : Nat} {s3 : Int32} {s4 : Int32} : ip_WP 19 551 [some (.ref x0)] [.int s4, .int s3, .ref s2, .ref s1, .ref s0] (G, F, I, J) b post px ↔ (ip_inA G s2 0 s3 = true ∧ ip_WP 19 552 [some (.ref x0)] [.ref s1, .ref s0] (G, F, ip_up I s2 s3.toNatClampNeg s4, J) b post px) := ip_ck_iff ((ip_st_of f19_551).trans rfl) ip_nx_iff
theorem f19_552 : ip_fetch 19 552 = some (.dup, 1) := by decide +kernel
theorem s19_552 {x0 : Nat} {s0 : Nat} {s1 : Nat} : ip_WP 19 552 [some (.ref x0)] [.ref s1, .ref s0] (G, F, I, J) b post px ↔ ip_WP 19 553 [some (.ref x0)] [.ref s1, .ref s1, .ref s0] (G, F, I, J) b post px := ip_nx_iff ((ip_st_of f19_552).trans rfl)
theorem f19_553 : ip_fetch 19 553 = some (.bipush 94, 2) := by decide +kernel
theorem s19_553 {x0 : Nat} {s0 : Nat} {s1 : Nat} {s2 : Nat} : ip_WP 19 553 [some (.ref x0)] [.ref s2, .ref s1, .ref s0] (G, F, I, J) b post px ↔ ip_WP 19 555 [some (.ref x0)] [.int 94, .ref s2, .ref s1, .ref s0] (G, F, I, J) b post px := ip_s_bipush f19_553 (by decide)
theorem f19_555 : ip_fetch 19 555 = some (.bipush 101, 2) := by decide +kernel
theorem s19_555 {x0 : Nat} {s0 : Nat} {s1 : Nat} {s2 : Nat} {s3 : Int32} : ip_WP 19 555 [some (.ref x0)] [.int s3, .ref s2, .ref s1, .ref s0] (G, F, I, J) b post px ↔ ip_WP 19 557 [some (.ref x0)] [.int 101, .int s3, .ref s2, .ref s1, .ref s0] (G, F, I, J) b post px := ip_s_bipush f19_555 (by decide)
theorem f19_557 : ip_fetch 19 557 = some (.iastore, 1) := by decide +kernel
theorem s19_557 {x0 : Nat} {s0 : Nat} {s1 : Nat} {s2 : Nat} {s3 : Int32} {s4 : Int32} : ip_WP 19 557 [some (.ref x0)] [.int s4, .int s3, .ref s2, .ref s1, .ref s0] (G, F, I, J) b post px ↔ (ip_inA G s2 0 s3 = true ∧ ip_WP 19 558 [some (.ref x0)] [.ref s1, .ref s0] (G, F, ip_up I s2 s3.toNatClampNeg s4, J) b post px) := ip_ck_iff ((ip_st_of f19_557).trans rfl) ip_nx_iff
theorem f19_558 : ip_fetch 19 558 = some (.dup, 1) := by decide +kernel
theorem s19_558 {x0 : Nat} {s0 : Nat} {s1 : Nat} : ip_WP 19 558 [some (.ref x0)] [.ref s1, .ref s0] (G, F, I, J) b post px ↔ ip_WP 19 559 [some (.ref x0)] [.ref s1, .ref s1, .ref s0] (G, F, I, J) b post px := ip_nx_iff ((ip_st_of f19_558).trans rfl)
theorem f19_559 : ip_fetch 19 559 = some (.bipush 95, 2) := by decide +kernel
theorem s19_559 {x0 : Nat} {s0 : Nat} {s1 : Nat} {s2 : Nat} : ip_WP 19 559 [some (.ref x0)] [.ref s2, .ref s1, .ref s0] (G, F, I, J) b post px ↔ ip_WP 19 561 [some (.ref x0)] [.int 95, .ref s2, .ref s1, .ref s0] (G, F, I, J) b post px := ip_s_bipush f19_559 (by decide)
theorem f19_561 : ip_fetch 19 561 = some (.iconst 0, 1) := by decide +kernel
theorem s19_561 {x0 : Nat} {s0 : Nat} {s1 : Nat} {s2 : Nat} {s3 : Int32} : ip_WP 19 561 [some (.ref x0)] [.int s3, .ref s2, .ref s1, .ref s0] (G, F, I, J) b post px ↔ ip_WP 19 562 [some (.ref x0)] [.int 0, .int s3, .ref s2, .ref s1, .ref s0] (G, F, I, J) b post px := ip_s_iconst f19_561 (by decide)
theorem f19_562 : ip_fetch 19 562 = some (.iastore, 1) := by decide +kernel
theorem s19_562 {x0 : Nat} {s0 : Nat} {s1 : Nat} {s2 : Nat} {s3 : Int32} {s4 : Int32} : ip_WP 19 562 [some (.ref x0)] [.int s4, .int s3, .ref s2, .ref s1, .ref s0] (G, F, I, J) b post px ↔ (ip_inA G s2 0 s3 = true ∧ ip_WP 19 563 [some (.ref x0)] [.ref s1, .ref s0] (G, F, ip_up I s2 s3.toNatClampNeg s4, J) b post px) := ip_ck_iff ((ip_st_of f19_562).trans rfl) ip_nx_iff
theorem f19_563 : ip_fetch 19 563 = some (.dup, 1) := by decide +kernel
theorem s19_563 {x0 : Nat} {s0 : Nat} {s1 : Nat} : ip_WP 19 563 [some (.ref x0)] [.ref s1, .ref s0] (G, F, I, J) b post px ↔ ip_WP 19 564 [some (.ref x0)] [.ref s1, .ref s1, .ref s0] (G, F, I, J) b post px := ip_nx_iff ((ip_st_of f19_563).trans rfl)
theorem f19_564 : ip_fetch 19 564 = some (.bipush 96, 2) := by decide +kernel
theorem s19_564 {x0 : Nat} {s0 : Nat} {s1 : Nat} {s2 : Nat} : ip_WP 19 564 [some (.ref x0)] [.ref s2, .ref s1, .ref s0] (G, F, I, J) b post px ↔ ip_WP 19 566 [some (.ref x0)] [.int 96, .ref s2, .ref s1, .ref s0] (G, F, I, J) b post px := ip_s_bipush f19_564 (by decide)
theorem f19_566 : ip_fetch 19 566 = some (.bipush 99, 2) := by decide +kernel
theorem s19_566 {x0 : Nat} {s0 : Nat} {s1 : Nat} {s2 : Nat} {s3 : Int32} : ip_WP 19 566 [some (.ref x0)] [.int s3, .ref s2, .ref s1, .ref s0] (G, F, I, J) b post px ↔ ip_WP 19 568 [some (.ref x0)] [.int 99, .int s3, .ref s2, .ref s1, .ref s0] (G, F, I, J) b post px := ip_s_bipush f19_566 (by decide)
theorem f19_568 : ip_fetch 19 568 = some (.iastore, 1) := by decide +kernel
theorem s19_568 {x0 : Nat} {s0 : Nat} {s1 : Nat} {s2 : Nat} {s3 : Int32} {s4 : Int32} : ip_WP 19 568 [some (.ref x0)] [.int s4, .int s3, .ref s2, .ref s1, .ref s0] (G, F, I, J) b post px ↔ (ip_inA G s2 0 s3 = true ∧ ip_WP 19 569 [some (.ref x0)] [.ref s1, .ref s0] (G, F, ip_up I s2 s3.toNatClampNeg s4, J) b post px) := ip_ck_iff ((ip_st_of f19_568).trans rfl) ip_nx_iff
theorem f19_569 : ip_fetch 19 569 = some (.dup, 1) := by decide +kernel
theorem s19_569 {x0 : Nat} {s0 : Nat} {s1 : Nat} : ip_WP 19 569 [some (.ref x0)] [.ref s1, .ref s0] (G, F, I, J) b post px ↔ ip_WP 19 570 [some (.ref x0)] [.ref s1, .ref s1, .ref s0] (G, F, I, J) b post px := ip_nx_iff ((ip_st_of f19_569).trans rfl)
theorem f19_570 : ip_fetch 19 570 = some (.bipush 97, 2) := by decide +kernel
theorem s19_570 {x0 : Nat} {s0 : Nat} {s1 : Nat} {s2 : Nat} : ip_WP 19 570 [some (.ref x0)] [.ref s2, .ref s1, .ref s0] (G, F, I, J) b post px ↔ ip_WP 19 572 [some (.ref x0)] [.int 97, .ref s2, .ref s1, .ref s0] (G, F, I, J) b post px := ip_s_bipush f19_570 (by decide)
theorem f19_572 : ip_fetch 19 572 = some (.bipush 111, 2) := by decide +kernel
theorem s19_572 {x0 : Nat} {s0 : Nat} {s1 : Nat} {s2 : Nat} {s3 : Int32} : ip_WP 19 572 [some (.ref x0)] [.int s3, .ref s2, .ref s1, .ref s0] (G, F, I, J) b post px ↔ ip_WP 19 574 [some (.ref x0)] [.int 111, .int s3, .ref s2, .ref s1, .ref s0] (G, F, I, J) b post px := ip_s_bipush f19_572 (by decide)
theorem f19_574 : ip_fetch 19 574 = some (.iastore, 1) := by decide +kernel
theorem s19_574 {x0 : Nat} {s0 : Nat} {s1 : Nat} {s2 : Nat} {s3 : Int32} {s4 : Int32} : ip_WP 19 574 [some (.ref x0)] [.int s4, .int s3, .ref s2, .ref s1, .ref s0] (G, F, I, J) b post px ↔ (ip_inA G s2 0 s3 = true ∧ ip_WP 19 575 [some (.ref x0)] [.ref s1, .ref s0] (G, F, ip_up I s2 s3.toNatClampNeg s4, J) b post px) := ip_ck_iff ((ip_st_of f19_574).trans rfl) ip_nx_iff
theorem f19_575 : ip_fetch 19 575 = some (.dup, 1) := by decide +kernel
theorem s19_575 {x0 : Nat} {s0 : Nat} {s1 : Nat} : ip_WP 19 575 [some (.ref x0)] [.ref s1, .ref s0] (G, F, I, J) b post px ↔ ip_WP 19 576 [some (.ref x0)] [.ref s1, .ref s1, .ref s0] (G, F, I, J) b post px := ip_nx_iff ((ip_st_of f19_575).trans rfl)
theorem f19_576 : ip_fetch 19 576 = some (.bipush 98, 2) := by decide +kernel
theorem s19_576 {x0 : Nat} {s0 : Nat} {s1 : Nat} {s2 : Nat} : ip_WP 19 576 [some (.ref x0)] [.ref s2, .ref s1, .ref s0] (G, F, I, J) b post px ↔ ip_WP 19 578 [some (.ref x0)] [.int 98, .ref s2, .ref s1, .ref s0] (G, F, I, J) b post px := ip_s_bipush f19_576 (by decide)
theorem f19_578 : ip_fetch 19 578 = some (.bipush 109, 2) := by decide +kernel
theorem s19_578 {x0 : Nat} {s0 : Nat} {s1 : Nat} {s2 : Nat} {s3 : Int32} : ip_WP 19 578 [some (.ref x0)] [.int s3, .ref s2, .ref s1, .ref s0] (G, F, I, J) b post px ↔ ip_WP 19 580 [some (.ref x0)] [.int 109, .int s3, .ref s2, .ref s1, .ref s0] (G, F, I, J) b post px := ip_s_bipush f19_578 (by decide)
theorem f19_580 : ip_fetch 19 580 = some (.iastore, 1) := by decide +kernel
theorem s19_580 {x0 : Nat} {s0 : Nat} {s1 : Nat} {s2 : Nat} {s3 : Int32} {s4 : Int32} : ip_WP 19 580 [some (.ref x0)] [.int s4, .int s3, .ref s2, .ref s1, .ref s0] (G, F, I, J) b post px ↔ (ip_inA G s2 0 s3 = true ∧ ip_WP 19 581 [some (.ref x0)] [.ref s1, .ref s0] (G, F, ip_up I s2 s3.toNatClampNeg s4, J) b post px) := ip_ck_iff ((ip_st_of f19_580).trans rfl) ip_nx_iff
theorem f19_581 : ip_fetch 19 581 = some (.dup, 1) := by decide +kernel
theorem s19_581 {x0 : Nat} {s0 : Nat} {s1 : Nat} : ip_WP 19 581 [some (.ref x0)] [.ref s1, .ref s0] (G, F, I, J) b post px ↔ ip_WP 19 582 [some (.ref x0)] [.ref s1, .ref s1, .ref s0] (G, F, I, J) b post px := ip_nx_iff ((ip_st_of f19_581).trans rfl)
theorem f19_582 : ip_fetch 19 582 = some (.bipush 99, 2) := by decide +kernel
theorem s19_582 {x0 : Nat} {s0 : Nat} {s1 : Nat} {s2 : Nat} : ip_WP 19 582 [some (.ref x0)] [.ref s2, .ref s1, .ref s0] (G, F, I, J) b post px ↔ ip_WP 19 584 [some (.ref x0)] [.int 99, .ref s2, .ref s1, .ref s0] (G, F, I, J) b post px := ip_s_bipush f19_582 (by decide)
theorem f19_584 : ip_fetch 19 584 = some (.bipush 109, 2) := by decide +kernel
theorem s19_584 {x0 : Nat} {s0 : Nat} {s1 : Nat} {s2 : Nat} {s3 : Int32} : ip_WP 19 584 [some (.ref x0)] [.int s3, .ref s2, .ref s1, .ref s0] (G, F, I, J) b post px ↔ ip_WP 19 586 [some (.ref x0)] [.int 109, .int s3, .ref s2, .ref s1, .ref s0] (G, F, I, J) b post px := ip_s_bipush f19_584 (by decide)
theorem f19_586 : ip_fetch 19 586 = some (.iastore, 1) := by decide +kernel
theorem s19_586 {x0 : Nat} {s0 : Nat} {s1 : Nat} {s2 : Nat} {s3 : Int32} {s4 : Int32} : ip_WP 19 586 [some (.ref x0)] [.int s4, .int s3, .ref s2, .ref s1, .ref s0] (G, F, I, J) b post px ↔ (ip_inA G s2 0 s3 = true ∧ ip_WP 19 587 [some (.ref x0)] [.ref s1, .ref s0] (G, F, ip_up I s2 s3.toNatClampNeg s4, J) b post px) := ip_ck_iff ((ip_st_of f19_586).trans rfl) ip_nx_iff
theorem f19_587 : ip_fetch 19 587 = some (.dup, 1) := by decide +kernel
theorem s19_587 {x0 : Nat} {s0 : Nat} {s1 : Nat} : ip_WP 19 587 [some (.ref x0)] [.ref s1, .ref s0] (G, F, I, J) b post px ↔ ip_WP 19 588 [some (.ref x0)] [.ref s1, .ref s1, .ref s0] (G, F, I, J) b post px := ip_nx_iff ((ip_st_of f19_587).trans rfl)
theorem f19_588 : ip_fetch 19 588 = some (.bipush 100, 2) := by decide +kernel
theorem s19_588 {x0 : Nat} {s0 : Nat} {s1 : Nat} {s2 : Nat} : ip_WP 19 588 [some (.ref x0)] [.ref s2, .ref s1, .ref s0] (G, F, I, J) b post px ↔ ip_WP 19 590 [some (.ref x0)] [.int 100, .ref s2, .ref s1, .ref s0] (G, F, I, J) b post px := ip_s_bipush f19_588 (by decide)
theorem f19_590 : ip_fetch 19 590 = some (.bipush 105, 2) := by decide +kernel
theorem s19_590 {x0 : Nat} {s0 : Nat} {s1 : Nat} {s2 : Nat} {s3 : Int32} : ip_WP 19 590 [some (.ref x0)] [.int s3, .ref s2, .ref s1, .ref s0] (G, F, I, J) b post px ↔ ip_WP 19 592 [some (.ref x0)] [.int 105, .int s3, .ref s2, .ref s1, .ref s0] (G, F, I, J) b post px := ip_s_bipush f19_590 (by decide)
theorem f19_592 : ip_fetch 19 592 = some (.iastore, 1) := by decide +kernel
theorem s19_592 {x0 : Nat} {s0 : Nat} {s1 : Nat} {s2 : Nat} {s3 : Int32} {s4 : Int32} : ip_WP 19 592 [some (.ref x0)] [.int s4, .int s3, .ref s2, .ref s1, .ref s0] (G, F, I, J) b post px ↔ (ip_inA G s2 0 s3 = true ∧ ip_WP 19 593 [some (.ref x0)] [.ref s1, .ref s0] (G, F, ip_up I s2 s3.toNatClampNeg s4, J) b post px) := ip_ck_iff ((ip_st_of f19_592).trans rfl) ip_nx_iff
theorem f19_593 : ip_fetch 19 593 = some (.dup, 1) := by decide +kernel
theorem s19_593 {x0 : Nat} {s0 : Nat} {s1 : Nat} : ip_WP 19 593 [some (.ref x0)] [.ref s1, .ref s0] (G, F, I, J) b post px ↔ ip_WP 19 594 [some (.ref x0)] [.ref s1, .ref s1, .ref s0] (G, F, I, J) b post px := ip_nx_iff ((ip_st_of f19_593).trans rfl)
theorem f19_594 : ip_fetch 19 594 = some (.bipush 101, 2) := by decide +kernel
theorem s19_594 {x0 : Nat} {s0 : Nat} {s1 : Nat} {s2 : Nat} : ip_WP 19 594 [some (.ref x0)] [.ref s2, .ref s1, .ref s0] (G, F, I, J) b post px ↔ ip_WP 19 596 [some (.ref x0)] [.int 101, .ref s2, .ref s1, .ref s0] (G, F, I, J) b post px := ip_s_bipush f19_594 (by decide)
theorem f19_596 : ip_fetch 19 596 = some (.bipush 116, 2) := by decide +kernel
theorem s19_596 {x0 : Nat} {s0 : Nat} {s1 : Nat} {s2 : Nat} {s3 : Int32} : ip_WP 19 596 [some (.ref x0)] [.int s3, .ref s2, .ref s1, .ref s0] (G, F, I, J) b post px ↔ ip_WP 19 598 [some (.ref x0)] [.int 116, .int s3, .ref s2, .ref s1, .ref s0] (G, F, I, J) b post px := ip_s_bipush f19_596 (by decide)
theorem f19_598 : ip_fetch 19 598 = some (.iastore, 1) := by decide +kernel
theorem s19_598 {x0 : Nat} {s0 : Nat} {s1 : Nat} {s2 : Nat} {s3 : Int32} {s4 : Int32} : ip_WP 19 598 [some (.ref x0)] [.int s4, .int s3, .ref s2, .ref s1, .ref s0] (G, F, I, J) b post px ↔ (ip_inA G s2 0 s3 = true ∧ ip_WP 19 599 [some (.ref x0)] [.ref s1, .ref s0] (G, F, ip_up I s2 s3.toNatClampNeg s4, J) b post px) := ip_ck_iff ((ip_st_of f19_598).trans rfl) ip_nx_iff
theorem f19_599 : ip_fetch 19 599 = some (.dup, 1) := by decide +kernel
theorem s19_599 {x0 : Nat} {s0 : Nat} {s1 : Nat} : ip_WP 19 599 [some (.ref x0)] [.ref s1, .ref s0] (G, F, I, J) b post px ↔ ip_WP 19 600 [some (.ref x0)] [.ref s1, .ref s1, .ref s0] (G, F, I, J) b post px := ip_nx_iff ((ip_st_of f19_599).trans rfl)
theorem f19_600 : ip_fetch 19 600 = some (.bipush 102, 2) := by decide +kernel
theorem s19_600 {x0 : Nat} {s0 : Nat} {s1 : Nat} {s2 : Nat} : ip_WP 19 600 [some (.ref x0)] [.ref s2, .ref s1, .ref s0] (G, F, I, J) b post px ↔ ip_WP 19 602 [some (.ref x0)] [.int 102, .ref s2, .ref s1, .ref s0] (G, F, I, J) b post px := ip_s_bipush f19_600 (by decide)
theorem f19_602 : ip_fetch 19 602 = some (.iconst 0, 1) := by decide +kernel
theorem s19_602 {x0 : Nat} {s0 : Nat} {s1 : Nat} {s2 : Nat} {s3 : Int32} : ip_WP 19 602 [some (.ref x0)] [.int s3, .ref s2, .ref s1, .ref s0] (G, F, I, J) b post px ↔ ip_WP 19 603 [some (.ref x0)] [.int 0, .int s3, .ref s2, .ref s1, .ref s0] (G, F, I, J) b post px := ip_s_iconst f19_602 (by decide)
theorem f19_603 : ip_fetch 19 603 = some (.iastore, 1) := by decide +kernel
theorem s19_603 {x0 : Nat} {s0 : Nat} {s1 : Nat} {s2 : Nat} {s3 : Int32} {s4 : Int32} : ip_WP 19 603 [some (.ref x0)] [.int s4, .int s3, .ref s2, .ref s1, .ref s0] (G, F, I, J) b post px ↔ (ip_inA G s2 0 s3 = true ∧ ip_WP 19 604 [some (.ref x0)] [.ref s1, .ref s0] (G, F, ip_up I s2 s3.toNatClampNeg s4, J) b post px) := ip_ck_iff ((ip_st_of f19_603).trans rfl) ip_nx_iff
theorem f19_604 : ip_fetch 19 604 = some (.putfield 7, 3) := by decide +kernel
set_option maxRecDepth 100000 in
theorem s19_604 {x0 : Nat} {s0 : Nat} {s1 : Nat} : ip_WP 19 604 [some (.ref x0)] [.ref s1, .ref s0] (G, F, I, J) b post px ↔ (ip_isO G s0 1 = true ∧ s1 < G.length ∧ ip_WP 19 607 [some (.ref x0)] [] (G, ip_up F s0 0 (.ref s1), I, J) b post px) := ip_s_putR f19_604 (by decide +kernel) rfl
theorem f19_607 : ip_fetch 19 607 = some (.aload_n 0, 1) := by decide +kernel
theorem s19_607 {x0 : Nat} : ip_WP 19 607 [some (.ref x0)] [] (G, F, I, J) b post px ↔ ip_WP 19 608 [some (.ref x0)] [.ref x0] (G, F, I, J) b post px := ip_nx_iff ((ip_st_of f19_607).trans rfl)
theorem f19_608 : ip_fetch 19 608 = some (.sipush 4400, 3) := by decide +kernel
theorem s19_608 {x0 : Nat} {s0 : Nat} : ip_WP 19 608 [some (.ref x0)] [.ref s0] (G, F, I, J) b post px ↔ ip_WP 19 611 [some (.ref x0)] [.int 4400, .ref s0] (G, F, I, J) b post px := ip_s_sipush f19_608 (by decide)
theorem f19_611 : ip_fetch 19 611 = some (.newarray .int, 2) := by decide +kernel
set_option maxRecDepth 100000 in
theorem s19_611 {x0 : Nat} {s0 : Nat} {s1 : Int32} : ip_WP 19 611 [some (.ref x0)] [.int s1, .ref s0] (G, F, I, J) b post px ↔ (ip_wfc G.length [some (.ref x0)] [.ref s0] = true ∧ (1 ≤ b.1 ∧ s1.toNatClampNeg ≤ b.2 ∧ G.length < ip_SC ∧ ¬ s1 < 0 ∧ s1.toNatClampNeg ≤ 60000000) ∧ ip_WP 19 613 [some (.ref x0)] [.ref G.length, .ref s0] (G ++ [.inl (0, s1.toNatClampNeg)], F, fun a j => if a = G.length then 0 else I a j, fun a j => if a = G.length then 0 else J a j) (b.1 - 1, b.2 - s1.toNatClampNeg) post px) := ip_s_newa f19_611 rfl rfl
theorem f19_613 : ip_fetch 19 613 = some (.putfield 13, 3) := by decide +kernel
set_option maxRecDepth 100000 in
theorem s19_613 {x0 : Nat} {s0 : Nat} {s1 : Nat} : ip_WP 19 613 [some (.ref x0)] [.ref s1, .ref s0] (G, F, I, J) b post px ↔ (ip_isO G s0 1 = true ∧ s1 < G.length ∧ ip_WP 19 616 [some (.ref x0)] [] (G, ip_up F s0 3 (.ref s1), I, J) b post px) := ip_s_putR f19_613 (by decide +kernel) rfl
theorem f19_616 : ip_fetch 19 616 = some (.aload_n 0, 1) := by decide +kernel
theorem s19_616 {x0 : Nat} : ip_WP 19 616 [some (.ref x0)] [] (G, F, I, J) b post px ↔ ip_WP 19 617 [some (.ref x0)] [.ref x0] (G, F, I, J) b post px := ip_nx_iff ((ip_st_of f19_616).trans rfl)
theorem f19_617 : ip_fetch 19 617 = some (.sipush 4400, 3) := by decide +kernel
theorem s19_617 {x0 : Nat} {s0 : Nat} : ip_WP 19 617 [some (.ref x0)] [.ref s0] (G, F, I, J) b post px ↔ ip_WP 19 620 [some (.ref x0)] [.int 4400, .ref s0] (G, F, I, J) b post px := ip_s_sipush f19_617 (by decide)
theorem f19_620 : ip_fetch 19 620 = some (.newarray .int, 2) := by decide +kernel
set_option maxRecDepth 100000 in
theorem s19_620 {x0 : Nat} {s0 : Nat} {s1 : Int32} : ip_WP 19 620 [some (.ref x0)] [.int s1, .ref s0] (G, F, I, J) b post px ↔ (ip_wfc G.length [some (.ref x0)] [.ref s0] = true ∧ (1 ≤ b.1 ∧ s1.toNatClampNeg ≤ b.2 ∧ G.length < ip_SC ∧ ¬ s1 < 0 ∧ s1.toNatClampNeg ≤ 60000000) ∧ ip_WP 19 622 [some (.ref x0)] [.ref G.length, .ref s0] (G ++ [.inl (0, s1.toNatClampNeg)], F, fun a j => if a = G.length then 0 else I a j, fun a j => if a = G.length then 0 else J a j) (b.1 - 1, b.2 - s1.toNatClampNeg) post px) := ip_s_newa f19_620 rfl rfl
theorem f19_622 : ip_fetch 19 622 = some (.putfield 16, 3) := by decide +kernel
set_option maxRecDepth 100000 in
theorem s19_622 {x0 : Nat} {s0 : Nat} {s1 : Nat} : ip_WP 19 622 [some (.ref x0)] [.ref s1, .ref s0] (G, F, I, J) b post px ↔ (ip_isO G s0 1 = true ∧ s1 < G.length ∧ ip_WP 19 625 [some (.ref x0)] [] (G, ip_up F s0 5 (.ref s1), I, J) b post px) := ip_s_putR f19_622 (by decide +kernel) rfl
theorem f19_625 : ip_fetch 19 625 = some (.aload_n 0, 1) := by decide +kernel
theorem s19_625 {x0 : Nat} : ip_WP 19 625 [some (.ref x0)] [] (G, F, I, J) b post px ↔ ip_WP 19 626 [some (.ref x0)] [.ref x0] (G, F, I, J) b post px := ip_nx_iff ((ip_st_of f19_625).trans rfl)
theorem f19_626 : ip_fetch 19 626 = some (.sipush 4400, 3) := by decide +kernel
theorem s19_626 {x0 : Nat} {s0 : Nat} : ip_WP 19 626 [some (.ref x0)] [.ref s0] (G, F, I, J) b post px ↔ ip_WP 19 629 [some (.ref x0)] [.int 4400, .ref s0] (G, F, I, J) b post px := ip_s_sipush f19_626 (by decide)
theorem f19_629 : ip_fetch 19 629 = some (.newarray .int, 2) := by decide +kernel
set_option maxRecDepth 100000 in
theorem s19_629 {x0 : Nat} {s0 : Nat} {s1 : Int32} : ip_WP 19 629 [some (.ref x0)] [.int s1, .ref s0] (G, F, I, J) b post px ↔ (ip_wfc G.length [some (.ref x0)] [.ref s0] = true ∧ (1 ≤ b.1 ∧ s1.toNatClampNeg ≤ b.2 ∧ G.length < ip_SC ∧ ¬ s1 < 0 ∧ s1.toNatClampNeg ≤ 60000000) ∧ ip_WP 19 631 [some (.ref x0)] [.ref G.length, .ref s0] (G ++ [.inl (0, s1.toNatClampNeg)], F, fun a j => if a = G.length then 0 else I a j, fun a j => if a = G.length then 0 else J a j) (b.1 - 1, b.2 - s1.toNatClampNeg) post px) := ip_s_newa f19_629 rfl rfl
theorem f19_631 : ip_fetch 19 631 = some (.putfield 19, 3) := by decide +kernel
set_option maxRecDepth 100000 in
theorem s19_631 {x0 : Nat} {s0 : Nat} {s1 : Nat} : ip_WP 19 631 [some (.ref x0)] [.ref s1, .ref s0] (G, F, I, J) b post px ↔ (ip_isO G s0 1 = true ∧ s1 < G.length ∧ ip_WP 19 634 [some (.ref x0)] [] (G, ip_up F s0 11 (.ref s1), I, J) b post px) := ip_s_putR f19_631 (by decide +kernel) rfl
theorem f19_634 : ip_fetch 19 634 = some (.aload_n 0, 1) := by decide +kernel
theorem s19_634 {x0 : Nat} : ip_WP 19 634 [some (.ref x0)] [] (G, F, I, J) b post px ↔ ip_WP 19 635 [some (.ref x0)] [.ref x0] (G, F, I, J) b post px := ip_nx_iff ((ip_st_of f19_634).trans rfl)
theorem f19_635 : ip_fetch 19 635 = some (.bipush 40, 2) := by decide +kernel
theorem s19_635 {x0 : Nat} {s0 : Nat} : ip_WP 19 635 [some (.ref x0)] [.ref s0] (G, F, I, J) b post px ↔ ip_WP 19 637 [some (.ref x0)] [.int 40, .ref s0] (G, F, I, J) b post px := ip_s_bipush f19_635 (by decide)
theorem f19_637 : ip_fetch 19 637 = some (.newarray .int, 2) := by decide +kernel
set_option maxRecDepth 100000 in
theorem s19_637 {x0 : Nat} {s0 : Nat} {s1 : Int32} : ip_WP 19 637 [some (.ref x0)] [.int s1, .ref s0] (G, F, I, J) b post px ↔ (ip_wfc G.length [some (.ref x0)] [.ref s0] = true ∧ (1 ≤ b.1 ∧ s1.toNatClampNeg ≤ b.2 ∧ G.length < ip_SC ∧ ¬ s1 < 0 ∧ s1.toNatClampNeg ≤ 60000000) ∧ ip_WP 19 639 [some (.ref x0)] [.ref G.length, .ref s0] (G ++ [.inl (0, s1.toNatClampNeg)], F, fun a j => if a = G.length then 0 else I a j, fun a j => if a = G.length then 0 else J a j) (b.1 - 1, b.2 - s1.toNatClampNeg) post px) := ip_s_newa f19_637 rfl rfl
theorem f19_639 : ip_fetch 19 639 = some (.putfield 22, 3) := by decide +kernel
set_option maxRecDepth 100000 in
theorem s19_639 {x0 : Nat} {s0 : Nat} {s1 : Nat} : ip_WP 19 639 [some (.ref x0)] [.ref s1, .ref s0] (G, F, I, J) b post px ↔ (ip_isO G s0 1 = true ∧ s1 < G.length ∧ ip_WP 19 642 [some (.ref x0)] [] (G, ip_up F s0 12 (.ref s1), I, J) b post px) := ip_s_putR f19_639 (by decide +kernel) rfl
theorem f19_642 : ip_fetch 19 642 = some (.aload_n 0, 1) := by decide +kernel
theorem s19_642 {x0 : Nat} : ip_WP 19 642 [some (.ref x0)] [] (G, F, I, J) b post px ↔ ip_WP 19 643 [some (.ref x0)] [.ref x0] (G, F, I, J) b post px := ip_nx_iff ((ip_st_of f19_642).trans rfl)
theorem f19_643 : ip_fetch 19 643 = some (.bipush 40, 2) := by decide +kernel
theorem s19_643 {x0 : Nat} {s0 : Nat} : ip_WP 19 643 [some (.ref x0)] [.ref s0] (G, F, I, J) b post px ↔ ip_WP 19 645 [some (.ref x0)] [.int 40, .ref s0] (G, F, I, J) b post px := ip_s_bipush f19_643 (by decide)
theorem f19_645 : ip_fetch 19 645 = some (.newarray .int, 2) := by decide +kernel
set_option maxRecDepth 100000 in
theorem s19_645 {x0 : Nat} {s0 : Nat} {s1 : Int32} : ip_WP 19 645 [some (.ref x0)] [.int s1, .ref s0] (G, F, I, J) b post px ↔ (ip_wfc G.length [some (.ref x0)] [.ref s0] = true ∧ (1 ≤ b.1 ∧ s1.toNatClampNeg ≤ b.2 ∧ G.length < ip_SC ∧ ¬ s1 < 0 ∧ s1.toNatClampNeg ≤ 60000000) ∧ ip_WP 19 647 [some (.ref x0)] [.ref G.length, .ref s0] (G ++ [.inl (0, s1.toNatClampNeg)], F, fun a j => if a = G.length then 0 else I a j, fun a j => if a = G.length then 0 else J a j) (b.1 - 1, b.2 - s1.toNatClampNeg) post px) := ip_s_newa f19_645 rfl rfl
theorem f19_647 : ip_fetch 19 647 = some (.putfield 25, 3) := by decide +kernel
set_option maxRecDepth 100000 in
theorem s19_647 {x0 : Nat} {s0 : Nat} {s1 : Nat} : ip_WP 19 647 [some (.ref x0)] [.ref s1, .ref s0] (G, F, I, J) b post px ↔ (ip_isO G s0 1 = true ∧ s1 < G.length ∧ ip_WP 19 650 [some (.ref x0)] [] (G, ip_up F s0 13 (.ref s1), I, J) b post px) := ip_s_putR f19_647 (by decide +kernel) rfl
theorem f19_650 : ip_fetch 19 650 = some (.aload_n 0, 1) := by decide +kernel
theorem s19_650 {x0 : Nat} : ip_WP 19 650 [some (.ref x0)] [] (G, F, I, J) b post px ↔ ip_WP 19 651 [some (.ref x0)] [.ref x0] (G, F, I, J) b post px := ip_nx_iff ((ip_st_of f19_650).trans rfl)
theorem f19_651 : ip_fetch 19 651 = some (.bipush 40, 2) := by decide +kernel
theorem s19_651 {x0 : Nat} {s0 : Nat} : ip_WP 19 651 [some (.ref x0)] [.ref s0] (G, F, I, J) b post px ↔ ip_WP 19 653 [some (.ref x0)] [.int 40, .ref s0] (G, F, I, J) b post px := ip_s_bipush f19_651 (by decide)
theorem f19_653 : ip_fetch 19 653 = some (.newarray .int, 2) := by decide +kernel
set_option maxRecDepth 100000 in
theorem s19_653 {x0 : Nat} {s0 : Nat} {s1 : Int32} : ip_WP 19 653 [some (.ref x0)] [.int s1, .ref s0] (G, F, I, J) b post px ↔ (ip_wfc G.length [some (.ref x0)] [.ref s0] = true ∧ (1 ≤ b.1 ∧ s1.toNatClampNeg ≤ b.2 ∧ G.length < ip_SC ∧ ¬ s1 < 0 ∧ s1.toNatClampNeg ≤ 60000000) ∧ ip_WP 19 655 [some (.ref x0)] [.ref G.length, .ref s0] (G ++ [.inl (0, s1.toNatClampNeg)], F, fun a j => if a = G.length then 0 else I a j, fun a j => if a = G.length then 0 else J a j) (b.1 - 1, b.2 - s1.toNatClampNeg) post px) := ip_s_newa f19_653 rfl rfl
theorem f19_655 : ip_fetch 19 655 = some (.putfield 28, 3) := by decide +kernel
set_option maxRecDepth 100000 in
theorem s19_655 {x0 : Nat} {s0 : Nat} {s1 : Nat} : ip_WP 19 655 [some (.ref x0)] [.ref s1, .ref s0] (G, F, I, J) b post px ↔ (ip_isO G s0 1 = true ∧ s1 < G.length ∧ ip_WP 19 658 [some (.ref x0)] [] (G, ip_up F s0 14 (.ref s1), I, J) b post px) := ip_s_putR f19_655 (by decide +kernel) rfl
theorem f19_658 : ip_fetch 19 658 = some (.aload_n 0, 1) := by decide +kernel
theorem s19_658 {x0 : Nat} : ip_WP 19 658 [some (.ref x0)] [] (G, F, I, J) b post px ↔ ip_WP 19 659 [some (.ref x0)] [.ref x0] (G, F, I, J) b post px := ip_nx_iff ((ip_st_of f19_658).trans rfl)
theorem f19_659 : ip_fetch 19 659 = some (.bipush 40, 2) := by decide +kernel
theorem s19_659 {x0 : Nat} {s0 : Nat} : ip_WP 19 659 [some (.ref x0)] [.ref s0] (G, F, I, J) b post px ↔ ip_WP 19 661 [some (.ref x0)] [.int 40, .ref s0] (G, F, I, J) b post px := ip_s_bipush f19_659 (by decide)
theorem f19_661 : ip_fetch 19 661 = some (.newarray .int, 2) := by decide +kernel
set_option maxRecDepth 100000 in
theorem s19_661 {x0 : Nat} {s0 : Nat} {s1 : Int32} : ip_WP 19 661 [some (.ref x0)] [.int s1, .ref s0] (G, F, I, J) b post px ↔ (ip_wfc G.length [some (.ref x0)] [.ref s0] = true ∧ (1 ≤ b.1 ∧ s1.toNatClampNeg ≤ b.2 ∧ G.length < ip_SC ∧ ¬ s1 < 0 ∧ s1.toNatClampNeg ≤ 60000000) ∧ ip_WP 19 663 [some (.ref x0)] [.ref G.length, .ref s0] (G ++ [.inl (0, s1.toNatClampNeg)], F, fun a j => if a = G.length then 0 else I a j, fun a j => if a = G.length then 0 else J a j) (b.1 - 1, b.2 - s1.toNatClampNeg) post px) := ip_s_newa f19_661 rfl rfl
theorem f19_663 : ip_fetch 19 663 = some (.putfield 31, 3) := by decide +kernel
set_option maxRecDepth 100000 in
theorem s19_663 {x0 : Nat} {s0 : Nat} {s1 : Nat} : ip_WP 19 663 [some (.ref x0)] [.ref s1, .ref s0] (G, F, I, J) b post px ↔ (ip_isO G s0 1 = true ∧ s1 < G.length ∧ ip_WP 19 666 [some (.ref x0)] [] (G, ip_up F s0 15 (.ref s1), I, J) b post px) := ip_s_putR f19_663 (by decide +kernel) rfl
theorem f19_666 : ip_fetch 19 666 = some (.aload_n 0, 1) := by decide +kernel
theorem s19_666 {x0 : Nat} : ip_WP 19 666 [some (.ref x0)] [] (G, F, I, J) b post px ↔ ip_WP 19 667 [some (.ref x0)] [.ref x0] (G, F, I, J) b post px := ip_nx_iff ((ip_st_of f19_666).trans rfl)
theorem f19_667 : ip_fetch 19 667 = some (.iconst 4, 1) := by decide +kernel
theorem s19_667 {x0 : Nat} {s0 : Nat} : ip_WP 19 667 [some (.ref x0)] [.ref s0] (G, F, I, J) b post px ↔ ip_WP 19 668 [some (.ref x0)] [.int 4, .ref s0] (G, F, I, J) b post px := ip_s_iconst f19_667 (by decide)
theorem f19_668 : ip_fetch 19 668 = some (.newarray .int, 2) := by decide +kernel
set_option maxRecDepth 100000 in
theorem s19_668 {x0 : Nat} {s0 : Nat} {s1 : Int32} : ip_WP 19 668 [some (.ref x0)] [.int s1, .ref s0] (G, F, I, J) b post px ↔ (ip_wfc G.length [some (.ref x0)] [.ref s0] = true ∧ (1 ≤ b.1 ∧ s1.toNatClampNeg ≤ b.2 ∧ G.length < ip_SC ∧ ¬ s1 < 0 ∧ s1.toNatClampNeg ≤ 60000000) ∧ ip_WP 19 670 [some (.ref x0)] [.ref G.length, .ref s0] (G ++ [.inl (0, s1.toNatClampNeg)], F, fun a j => if a = G.length then 0 else I a j, fun a j => if a = G.length then 0 else J a j) (b.1 - 1, b.2 - s1.toNatClampNeg) post px) := ip_s_newa f19_668 rfl rfl
theorem f19_670 : ip_fetch 19 670 = some (.putfield 34, 3) := by decide +kernel
set_option maxRecDepth 100000 in
theorem s19_670 {x0 : Nat} {s0 : Nat} {s1 : Nat} : ip_WP 19 670 [some (.ref x0)] [.ref s1, .ref s0] (G, F, I, J) b post px ↔ (ip_isO G s0 1 = true ∧ s1 < G.length ∧ ip_WP 19 673 [some (.ref x0)] [] (G, ip_up F s0 16 (.ref s1), I, J) b post px) := ip_s_putR f19_670 (by decide +kernel) rfl
theorem f19_673 : ip_fetch 19 673 = some (.aload_n 0, 1) := by decide +kernel
theorem s19_673 {x0 : Nat} : ip_WP 19 673 [some (.ref x0)] [] (G, F, I, J) b post px ↔ ip_WP 19 674 [some (.ref x0)] [.ref x0] (G, F, I, J) b post px := ip_nx_iff ((ip_st_of f19_673).trans rfl)
theorem f19_674 : ip_fetch 19 674 = some (.bipush 48, 2) := by decide +kernel
theorem s19_674 {x0 : Nat} {s0 : Nat} : ip_WP 19 674 [some (.ref x0)] [.ref s0] (G, F, I, J) b post px ↔ ip_WP 19 676 [some (.ref x0)] [.int 48, .ref s0] (G, F, I, J) b post px := ip_s_bipush f19_674 (by decide)
theorem f19_676 : ip_fetch 19 676 = some (.newarray .int, 2) := by decide +kernel
set_option maxRecDepth 100000 in
theorem s19_676 {x0 : Nat} {s0 : Nat} {s1 : Int32} : ip_WP 19 676 [some (.ref x0)] [.int s1, .ref s0] (G, F, I, J) b post px ↔ (ip_wfc G.length [some (.ref x0)] [.ref s0] = true ∧ (1 ≤ b.1 ∧ s1.toNatClampNeg ≤ b.2 ∧ G.length < ip_SC ∧ ¬ s1 < 0 ∧ s1.toNatClampNeg ≤ 60000000) ∧ ip_WP 19 678 [some (.ref x0)] [.ref G.length, .ref s0] (G ++ [.inl (0, s1.toNatClampNeg)], F, fun a j => if a = G.length then 0 else I a j, fun a j => if a = G.length then 0 else J a j) (b.1 - 1, b.2 - s1.toNatClampNeg) post px) := ip_s_newa f19_676 rfl rfl
theorem f19_678 : ip_fetch 19 678 = some (.putfield 37, 3) := by decide +kernel
set_option maxRecDepth 100000 in
theorem s19_678 {x0 : Nat} {s0 : Nat} {s1 : Nat} : ip_WP 19 678 [some (.ref x0)] [.ref s1, .ref s0] (G, F, I, J) b post px ↔ (ip_isO G s0 1 = true ∧ s1 < G.length ∧ ip_WP 19 681 [some (.ref x0)] [] (G, ip_up F s0 17 (.ref s1), I, J) b post px) := ip_s_putR f19_678 (by decide +kernel) rfl
theorem f19_681 : ip_fetch 19 681 = some (.aload_n 0, 1) := by decide +kernel
theorem s19_681 {x0 : Nat} : ip_WP 19 681 [some (.ref x0)] [] (G, F, I, J) b post px ↔ ip_WP 19 682 [some (.ref x0)] [.ref x0] (G, F, I, J) b post px := ip_nx_iff ((ip_st_of f19_681).trans rfl)
theorem f19_682 : ip_fetch 19 682 = some (.bipush 12, 2) := by decide +kernel
theorem s19_682 {x0 : Nat} {s0 : Nat} : ip_WP 19 682 [some (.ref x0)] [.ref s0] (G, F, I, J) b post px ↔ ip_WP 19 684 [some (.ref x0)] [.int 12, .ref s0] (G, F, I, J) b post px := ip_s_bipush f19_682 (by decide)
theorem f19_684 : ip_fetch 19 684 = some (.newarray .int, 2) := by decide +kernel
set_option maxRecDepth 100000 in
theorem s19_684 {x0 : Nat} {s0 : Nat} {s1 : Int32} : ip_WP 19 684 [some (.ref x0)] [.int s1, .ref s0] (G, F, I, J) b post px ↔ (ip_wfc G.length [some (.ref x0)] [.ref s0] = true ∧ (1 ≤ b.1 ∧ s1.toNatClampNeg ≤ b.2 ∧ G.length < ip_SC ∧ ¬ s1 < 0 ∧ s1.toNatClampNeg ≤ 60000000) ∧ ip_WP 19 686 [some (.ref x0)] [.ref G.length, .ref s0] (G ++ [.inl (0, s1.toNatClampNeg)], F, fun a j => if a = G.length then 0 else I a j, fun a j => if a = G.length then 0 else J a j) (b.1 - 1, b.2 - s1.toNatClampNeg) post px) := ip_s_newa f19_684 rfl rfl
theorem f19_686 : ip_fetch 19 686 = some (.putfield 40, 3) := by decide +kernel
set_option maxRecDepth 100000 in
theorem s19_686 {x0 : Nat} {s0 : Nat} {s1 : Nat} : ip_WP 19 686 [some (.ref x0)] [.ref s1, .ref s0] (G, F, I, J) b post px ↔ (ip_isO G s0 1 = true ∧ s1 < G.length ∧ ip_WP 19 689 [some (.ref x0)] [] (G, ip_up F s0 18 (.ref s1), I, J) b post px) := ip_s_putR f19_686 (by decide +kernel) rfl
theorem f19_689 : ip_fetch 19 689 = some (.aload_n 0, 1) := by decide +kernel
theorem s19_689 {x0 : Nat} : ip_WP 19 689 [some (.ref x0)] [] (G, F, I, J) b post px ↔ ip_WP 19 690 [some (.ref x0)] [.ref x0] (G, F, I, J) b post px := ip_nx_iff ((ip_st_of f19_689).trans rfl)
theorem f19_690 : ip_fetch 19 690 = some (.bipush 12, 2) := by decide +kernel
theorem s19_690 {x0 : Nat} {s0 : Nat} : ip_WP 19 690 [some (.ref x0)] [.ref s0] (G, F, I, J) b post px ↔ ip_WP 19 692 [some (.ref x0)] [.int 12, .ref s0] (G, F, I, J) b post px := ip_s_bipush f19_690 (by decide)
theorem f19_692 : ip_fetch 19 692 = some (.newarray .boolean, 2) := by decide +kernel
set_option maxRecDepth 100000 in
theorem s19_692 {x0 : Nat} {s0 : Nat} {s1 : Int32} : ip_WP 19 692 [some (.ref x0)] [.int s1, .ref s0] (G, F, I, J) b post px ↔ (ip_wfc G.length [some (.ref x0)] [.ref s0] = true ∧ (1 ≤ b.1 ∧ s1.toNatClampNeg ≤ b.2 ∧ G.length < ip_SC ∧ ¬ s1 < 0 ∧ s1.toNatClampNeg ≤ 60000000) ∧ ip_WP 19 694 [some (.ref x0)] [.ref G.length, .ref s0] (G ++ [.inl (3, s1.toNatClampNeg)], F, fun a j => if a = G.length then 0 else I a j, fun a j => if a = G.length then 0 else J a j) (b.1 - 1, b.2 - s1.toNatClampNeg) post px) := ip_s_newa f19_692 rfl rfl
theorem f19_694 : ip_fetch 19 694 = some (.putfield 43, 3) := by decide +kernel
set_option maxRecDepth 100000 in
theorem s19_694 {x0 : Nat} {s0 : Nat} {s1 : Nat} : ip_WP 19 694 [some (.ref x0)] [.ref s1, .ref s0] (G, F, I, J) b post px ↔ (ip_isO G s0 1 = true ∧ s1 < G.length ∧ ip_WP 19 697 [some (.ref x0)] [] (G, ip_up F s0 19 (.ref s1), I, J) b post px) := ip_s_putR f19_694 (by decide +kernel) rfl
theorem f19_697 : ip_fetch 19 697 = some (.aload_n 0, 1) := by decide +kernel
theorem s19_697 {x0 : Nat} : ip_WP 19 697 [some (.ref x0)] [] (G, F, I, J) b post px ↔ ip_WP 19 698 [some (.ref x0)] [.ref x0] (G, F, I, J) b post px := ip_nx_iff ((ip_st_of f19_697).trans rfl)
theorem f19_698 : ip_fetch 19 698 = some (.bipush 12, 2) := by decide +kernel
theorem s19_698 {x0 : Nat} {s0 : Nat} : ip_WP 19 698 [some (.ref x0)] [.ref s0] (G, F, I, J) b post px ↔ ip_WP 19 700 [some (.ref x0)] [.int 12, .ref s0] (G, F, I, J) b post px := ip_s_bipush f19_698 (by decide)
theorem f19_700 : ip_fetch 19 700 = some (.newarray .int, 2) := by decide +kernel
set_option maxRecDepth 100000 in
theorem s19_700 {x0 : Nat} {s0 : Nat} {s1 : Int32} : ip_WP 19 700 [some (.ref x0)] [.int s1, .ref s0] (G, F, I, J) b post px ↔ (ip_wfc G.length [some (.ref x0)] [.ref s0] = true ∧ (1 ≤ b.1 ∧ s1.toNatClampNeg ≤ b.2 ∧ G.length < ip_SC ∧ ¬ s1 < 0 ∧ s1.toNatClampNeg ≤ 60000000) ∧ ip_WP 19 702 [some (.ref x0)] [.ref G.length, .ref s0] (G ++ [.inl (0, s1.toNatClampNeg)], F, fun a j => if a = G.length then 0 else I a j, fun a j => if a = G.length then 0 else J a j) (b.1 - 1, b.2 - s1.toNatClampNeg) post px) := ip_s_newa f19_700 rfl rfl
theorem f19_702 : ip_fetch 19 702 = some (.putfield 47, 3) := by decide +kernel
set_option maxRecDepth 100000 in
theorem s19_702 {x0 : Nat} {s0 : Nat} {s1 : Nat} : ip_WP 19 702 [some (.ref x0)] [.ref s1, .ref s0] (G, F, I, J) b post px ↔ (ip_isO G s0 1 = true ∧ s1 < G.length ∧ ip_WP 19 705 [some (.ref x0)] [] (G, ip_up F s0 20 (.ref s1), I, J) b post px) := ip_s_putR f19_702 (by decide +kernel) rfl
theorem f19_705 : ip_fetch 19 705 = some (.aload_n 0, 1) := by decide +kernel
theorem s19_705 {x0 : Nat} : ip_WP 19 705 [some (.ref x0)] [] (G, F, I, J) b post px ↔ ip_WP 19 706 [some (.ref x0)] [.ref x0] (G, F, I, J) b post px := ip_nx_iff ((ip_st_of f19_705).trans rfl)
theorem f19_706 : ip_fetch 19 706 = some (.bipush 12, 2) := by decide +kernel
theorem s19_706 {x0 : Nat} {s0 : Nat} : ip_WP 19 706 [some (.ref x0)] [.ref s0] (G, F, I, J) b post px ↔ ip_WP 19 708 [some (.ref x0)] [.int 12, .ref s0] (G, F, I, J) b post px := ip_s_bipush f19_706 (by decide)
theorem f19_708 : ip_fetch 19 708 = some (.newarray .boolean, 2) := by decide +kernel
set_option maxRecDepth 100000 in
theorem s19_708 {x0 : Nat} {s0 : Nat} {s1 : Int32} : ip_WP 19 708 [some (.ref x0)] [.int s1, .ref s0] (G, F, I, J) b post px ↔ (ip_wfc G.length [some (.ref x0)] [.ref s0] = true ∧ (1 ≤ b.1 ∧ s1.toNatClampNeg ≤ b.2 ∧ G.length < ip_SC ∧ ¬ s1 < 0 ∧ s1.toNatClampNeg ≤ 60000000) ∧ ip_WP 19 710 [some (.ref x0)] [.ref G.length, .ref s0] (G ++ [.inl (3, s1.toNatClampNeg)], F, fun a j => if a = G.length then 0 else I a j, fun a j => if a = G.length then 0 else J a j) (b.1 - 1, b.2 - s1.toNatClampNeg) post px) := ip_s_newa f19_708 rfl rfl
theorem f19_710 : ip_fetch 19 710 = some (.putfield 50, 3) := by decide +kernel
set_option maxRecDepth 100000 in
theorem s19_710 {x0 : Nat} {s0 : Nat} {s1 : Nat} : ip_WP 19 710 [some (.ref x0)] [.ref s1, .ref s0] (G, F, I, J) b post px ↔ (ip_isO G s0 1 = true ∧ s1 < G.length ∧ ip_WP 19 713 [some (.ref x0)] [] (G, ip_up F s0 21 (.ref s1), I, J) b post px) := ip_s_putR f19_710 (by decide +kernel) rfl
theorem f19_713 : ip_fetch 19 713 = some (.aload_n 0, 1) := by decide +kernel
theorem s19_713 {x0 : Nat} : ip_WP 19 713 [some (.ref x0)] [] (G, F, I, J) b post px ↔ ip_WP 19 714 [some (.ref x0)] [.ref x0] (G, F, I, J) b post px := ip_nx_iff ((ip_st_of f19_713).trans rfl)
theorem f19_714 : ip_fetch 19 714 = some (.bipush 7, 2) := by decide +kernel
theorem s19_714 {x0 : Nat} {s0 : Nat} : ip_WP 19 714 [some (.ref x0)] [.ref s0] (G, F, I, J) b post px ↔ ip_WP 19 716 [some (.ref x0)] [.int 7, .ref s0] (G, F, I, J) b post px := ip_s_bipush f19_714 (by decide)
theorem f19_716 : ip_fetch 19 716 = some (.newarray .int, 2) := by decide +kernel
set_option maxRecDepth 100000 in
theorem s19_716 {x0 : Nat} {s0 : Nat} {s1 : Int32} : ip_WP 19 716 [some (.ref x0)] [.int s1, .ref s0] (G, F, I, J) b post px ↔ (ip_wfc G.length [some (.ref x0)] [.ref s0] = true ∧ (1 ≤ b.1 ∧ s1.toNatClampNeg ≤ b.2 ∧ G.length < ip_SC ∧ ¬ s1 < 0 ∧ s1.toNatClampNeg ≤ 60000000) ∧ ip_WP 19 718 [some (.ref x0)] [.ref G.length, .ref s0] (G ++ [.inl (0, s1.toNatClampNeg)], F, fun a j => if a = G.length then 0 else I a j, fun a j => if a = G.length then 0 else J a j) (b.1 - 1, b.2 - s1.toNatClampNeg) post px) := ip_s_newa f19_716 rfl rfl
theorem f19_718 : ip_fetch 19 718 = some (.putfield 53, 3) := by decide +kernel
set_option maxRecDepth 100000 in
theorem s19_718 {x0 : Nat} {s0 : Nat} {s1 : Nat} : ip_WP 19 718 [some (.ref x0)] [.ref s1, .ref s0] (G, F, I, J) b post px ↔ (ip_isO G s0 1 = true ∧ s1 < G.length ∧ ip_WP 19 721 [some (.ref x0)] [] (G, ip_up F s0 22 (.ref s1), I, J) b post px) := ip_s_putR f19_718 (by decide +kernel) rfl
theorem f19_721 : ip_fetch 19 721 = some (.aload_n 0, 1) := by decide +kernel
theorem s19_721 {x0 : Nat} : ip_WP 19 721 [some (.ref x0)] [] (G, F, I, J) b post px ↔ ip_WP 19 722 [some (.ref x0)] [.ref x0] (G, F, I, J) b post px := ip_nx_iff ((ip_st_of f19_721).trans rfl)
theorem f19_722 : ip_fetch 19 722 = some (.bipush 24, 2) := by decide +kernel
theorem s19_722 {x0 : Nat} {s0 : Nat} : ip_WP 19 722 [some (.ref x0)] [.ref s0] (G, F, I, J) b post px ↔ ip_WP 19 724 [some (.ref x0)] [.int 24, .ref s0] (G, F, I, J) b post px := ip_s_bipush f19_722 (by decide)
theorem f19_724 : ip_fetch 19 724 = some (.newarray .int, 2) := by decide +kernel
set_option maxRecDepth 100000 in
theorem s19_724 {x0 : Nat} {s0 : Nat} {s1 : Int32} : ip_WP 19 724 [some (.ref x0)] [.int s1, .ref s0] (G, F, I, J) b post px ↔ (ip_wfc G.length [some (.ref x0)] [.ref s0] = true ∧ (1 ≤ b.1 ∧ s1.toNatClampNeg ≤ b.2 ∧ G.length < ip_SC ∧ ¬ s1 < 0 ∧ s1.toNatClampNeg ≤ 60000000) ∧ ip_WP 19 726 [some (.ref x0)] [.ref G.length, .ref s0] (G ++ [.inl (0, s1.toNatClampNeg)], F, fun a j => if a = G.length then 0 else I a j, fun a j => if a = G.length then 0 else J a j) (b.1 - 1, b.2 - s1.toNatClampNeg) post px) := ip_s_newa f19_724 rfl rfl
theorem f19_726 : ip_fetch 19 726 = some (.putfield 56, 3) := by decide +kernel
set_option maxRecDepth 100000 in
theorem s19_726 {x0 : Nat} {s0 : Nat} {s1 : Nat} : ip_WP 19 726 [some (.ref x0)] [.ref s1, .ref s0] (G, F, I, J) b post px ↔ (ip_isO G s0 1 = true ∧ s1 < G.length ∧ ip_WP 19 729 [some (.ref x0)] [] (G, ip_up F s0 24 (.ref s1), I, J) b post px) := ip_s_putR f19_726 (by decide +kernel) rfl
theorem f19_729 : ip_fetch 19 729 = some (.aload_n 0, 1) := by decide +kernel
theorem s19_729 {x0 : Nat} : ip_WP 19 729 [some (.ref x0)] [] (G, F, I, J) b post px ↔ ip_WP 19 730 [some (.ref x0)] [.ref x0] (G, F, I, J) b post px := ip_nx_iff ((ip_st_of f19_729).trans rfl)
theorem f19_730 : ip_fetch 19 730 = some (.bipush 24, 2) := by decide +kernel
theorem s19_730 {x0 : Nat} {s0 : Nat} : ip_WP 19 730 [some (.ref x0)] [.ref s0] (G, F, I, J) b post px ↔ ip_WP 19 732 [some (.ref x0)] [.int 24, .ref s0] (G, F, I, J) b post px := ip_s_bipush f19_730 (by decide)
theorem f19_732 : ip_fetch 19 732 = some (.newarray .int, 2) := by decide +kernel
set_option maxRecDepth 100000 in
theorem s19_732 {x0 : Nat} {s0 : Nat} {s1 : Int32} : ip_WP 19 732 [some (.ref x0)] [.int s1, .ref s0] (G, F, I, J) b post px ↔ (ip_wfc G.length [some (.ref x0)] [.ref s0] = true ∧ (1 ≤ b.1 ∧ s1.toNatClampNeg ≤ b.2 ∧ G.length < ip_SC ∧ ¬ s1 < 0 ∧ s1.toNatClampNeg ≤ 60000000) ∧ ip_WP 19 734 [some (.ref x0)] [.ref G.length, .ref s0] (G ++ [.inl (0, s1.toNatClampNeg)], F, fun a j => if a = G.length then 0 else I a j, fun a j => if a = G.length then 0 else J a j) (b.1 - 1, b.2 - s1.toNatClampNeg) post px) := ip_s_newa f19_732 rfl rfl
theorem f19_734 : ip_fetch 19 734 = some (.putfield 59, 3) := by decide +kernel
set_option maxRecDepth 100000 in
theorem s19_734 {x0 : Nat} {s0 : Nat} {s1 : Nat} : ip_WP 19 734 [some (.ref x0)] [.ref s1, .ref s0] (G, F, I, J) b post px ↔ (ip_isO G s0 1 = true ∧ s1 < G.length ∧ ip_WP 19 737 [some (.ref x0)] [] (G, ip_up F s0 25 (.ref s1), I, J) b post px) := ip_s_putR f19_734 (by decide +kernel) rfl
theorem f19_737 : ip_fetch 19 737 = some (.aload_n 0, 1) := by decide +kernel
theorem s19_737 {x0 : Nat} : ip_WP 19 737 [some (.ref x0)] [] (G, F, I, J) b post px ↔ ip_WP 19 738 [some (.ref x0)] [.ref x0] (G, F, I, J) b post px := ip_nx_iff ((ip_st_of f19_737).trans rfl)
theorem f19_738 : ip_fetch 19 738 = some (.bipush 8, 2) := by decide +kernel
theorem s19_738 {x0 : Nat} {s0 : Nat} : ip_WP 19 738 [some (.ref x0)] [.ref s0] (G, F, I, J) b post px ↔ ip_WP 19 740 [some (.ref x0)] [.int 8, .ref s0] (G, F, I, J) b post px := ip_s_bipush f19_738 (by decide)
theorem f19_740 : ip_fetch 19 740 = some (.newarray .int, 2) := by decide +kernel
set_option maxRecDepth 100000 in
theorem s19_740 {x0 : Nat} {s0 : Nat} {s1 : Int32} : ip_WP 19 740 [some (.ref x0)] [.int s1, .ref s0] (G, F, I, J) b post px ↔ (ip_wfc G.length [some (.ref x0)] [.ref s0] = true ∧ (1 ≤ b.1 ∧ s1.toNatClampNeg ≤ b.2 ∧ G.length < ip_SC ∧ ¬ s1 < 0 ∧ s1.toNatClampNeg ≤ 60000000) ∧ ip_WP 19 742 [some (.ref x0)] [.ref G.length, .ref s0] (G ++ [.inl (0, s1.toNatClampNeg)], F, fun a j => if a = G.length then 0 else I a j, fun a j => if a = G.length then 0 else J a j) (b.1 - 1, b.2 - s1.toNatClampNeg) post px) := ip_s_newa f19_740 rfl rfl
theorem f19_742 : ip_fetch 19 742 = some (.putfield 62, 3) := by decide +kernel
set_option maxRecDepth 100000 in
theorem s19_742 {x0 : Nat} {s0 : Nat} {s1 : Nat} : ip_WP 19 742 [some (.ref x0)] [.ref s1, .ref s0] (G, F, I, J) b post px ↔ (ip_isO G s0 1 = true ∧ s1 < G.length ∧ ip_WP 19 745 [some (.ref x0)] [] (G, ip_up F s0 26 (.ref s1), I, J) b post px) := ip_s_putR f19_742 (by decide +kernel) rfl
theorem f19_745 : ip_fetch 19 745 = some (.aload_n 0, 1) := by decide +kernel
theorem s19_745 {x0 : Nat} : ip_WP 19 745 [some (.ref x0)] [] (G, F, I, J) b post px ↔ ip_WP 19 746 [some (.ref x0)] [.ref x0] (G, F, I, J) b post px := ip_nx_iff ((ip_st_of f19_745).trans rfl)
theorem f19_746 : ip_fetch 19 746 = some (.bipush 8, 2) := by decide +kernel
theorem s19_746 {x0 : Nat} {s0 : Nat} : ip_WP 19 746 [some (.ref x0)] [.ref s0] (G, F, I, J) b post px ↔ ip_WP 19 748 [some (.ref x0)] [.int 8, .ref s0] (G, F, I, J) b post px := ip_s_bipush f19_746 (by decide)
theorem f19_748 : ip_fetch 19 748 = some (.newarray .int, 2) := by decide +kernel
set_option maxRecDepth 100000 in
theorem s19_748 {x0 : Nat} {s0 : Nat} {s1 : Int32} : ip_WP 19 748 [some (.ref x0)] [.int s1, .ref s0] (G, F, I, J) b post px ↔ (ip_wfc G.length [some (.ref x0)] [.ref s0] = true ∧ (1 ≤ b.1 ∧ s1.toNatClampNeg ≤ b.2 ∧ G.length < ip_SC ∧ ¬ s1 < 0 ∧ s1.toNatClampNeg ≤ 60000000) ∧ ip_WP 19 750 [some (.ref x0)] [.ref G.length, .ref s0] (G ++ [.inl (0, s1.toNatClampNeg)], F, fun a j => if a = G.length then 0 else I a j, fun a j => if a = G.length then 0 else J a j) (b.1 - 1, b.2 - s1.toNatClampNeg) post px) := ip_s_newa f19_748 rfl rfl
theorem f19_750 : ip_fetch 19 750 = some (.putfield 65, 3) := by decide +kernel
set_option maxRecDepth 100000 in
theorem s19_750 {x0 : Nat} {s0 : Nat} {s1 : Nat} : ip_WP 19 750 [some (.ref x0)] [.ref s1, .ref s0] (G, F, I, J) b post px ↔ (ip_isO G s0 1 = true ∧ s1 < G.length ∧ ip_WP 19 753 [some (.ref x0)] [] (G, ip_up F s0 27 (.ref s1), I, J) b post px) := ip_s_putR f19_750 (by decide +kernel) rfl
theorem f19_753 : ip_fetch 19 753 = some (.aload_n 0, 1) := by decide +kernel
theorem s19_753 {x0 : Nat} : ip_WP 19 753 [some (.ref x0)] [] (G, F, I, J) b post px ↔ ip_WP 19 754 [some (.ref x0)] [.ref x0] (G, F, I, J) b post px := ip_nx_iff ((ip_st_of f19_753).trans rfl)
theorem f19_754 : ip_fetch 19 754 = some (.bipush 96, 2) := by decide +kernel
theorem s19_754 {x0 : Nat} {s0 : Nat} : ip_WP 19 754 [some (.ref x0)] [.ref s0] (G, F, I, J) b post px ↔ ip_WP 19 756 [some (.ref x0)] [.int 96, .ref s0] (G, F, I, J) b post px := ip_s_bipush f19_754 (by decide)
theorem f19_756 : ip_fetch 19 756 = some (.newarray .boolean, 2) := by decide +kernel
set_option maxRecDepth 100000 in
theorem s19_756 {x0 : Nat} {s0 : Nat} {s1 : Int32} : ip_WP 19 756 [some (.ref x0)] [.int s1, .ref s0] (G, F, I, J) b post px ↔ (ip_wfc G.length [some (.ref x0)] [.ref s0] = true ∧ (1 ≤ b.1 ∧ s1.toNatClampNeg ≤ b.2 ∧ G.length < ip_SC ∧ ¬ s1 < 0 ∧ s1.toNatClampNeg ≤ 60000000) ∧ ip_WP 19 758 [some (.ref x0)] [.ref G.length, .ref s0] (G ++ [.inl (3, s1.toNatClampNeg)], F, fun a j => if a = G.length then 0 else I a j, fun a j => if a = G.length then 0 else J a j) (b.1 - 1, b.2 - s1.toNatClampNeg) post px) := ip_s_newa f19_756 rfl rfl
theorem f19_758 : ip_fetch 19 758 = some (.putfield 68, 3) := by decide +kernel
set_option maxRecDepth 100000 in
theorem s19_758 {x0 : Nat} {s0 : Nat} {s1 : Nat} : ip_WP 19 758 [some (.ref x0)] [.ref s1, .ref s0] (G, F, I, J) b post px ↔ (ip_isO G s0 1 = true ∧ s1 < G.length ∧ ip_WP 19 761 [some (.ref x0)] [] (G, ip_up F s0 28 (.ref s1), I, J) b post px) := ip_s_putR f19_758 (by decide +kernel) rfl
theorem f19_761 : ip_fetch 19 761 = some (.aload_n 0, 1) := by decide +kernel
theorem s19_761 {x0 : Nat} : ip_WP 19 761 [some (.ref x0)] [] (G, F, I, J) b post px ↔ ip_WP 19 762 [some (.ref x0)] [.ref x0] (G, F, I, J) b post px := ip_nx_iff ((ip_st_of f19_761).trans rfl)
theorem f19_762 : ip_fetch 19 762 = some (.bipush 64, 2) := by decide +kernel
theorem s19_762 {x0 : Nat} {s0 : Nat} : ip_WP 19 762 [some (.ref x0)] [.ref s0] (G, F, I, J) b post px ↔ ip_WP 19 764 [some (.ref x0)] [.int 64, .ref s0] (G, F, I, J) b post px := ip_s_bipush f19_762 (by decide)
theorem f19_764 : ip_fetch 19 764 = some (.newarray .int, 2) := by decide +kernel
set_option maxRecDepth 100000 in
theorem s19_764 {x0 : Nat} {s0 : Nat} {s1 : Int32} : ip_WP 19 764 [some (.ref x0)] [.int s1, .ref s0] (G, F, I, J) b post px ↔ (ip_wfc G.length [some (.ref x0)] [.ref s0] = true ∧ (1 ≤ b.1 ∧ s1.toNatClampNeg ≤ b.2 ∧ G.length < ip_SC ∧ ¬ s1 < 0 ∧ s1.toNatClampNeg ≤ 60000000) ∧ ip_WP 19 766 [some (.ref x0)] [.ref G.length, .ref s0] (G ++ [.inl (0, s1.toNatClampNeg)], F, fun a j => if a = G.length then 0 else I a j, fun a j => if a = G.length then 0 else J a j) (b.1 - 1, b.2 - s1.toNatClampNeg) post px) := ip_s_newa f19_764 rfl rfl
theorem f19_766 : ip_fetch 19 766 = some (.putfield 71, 3) := by decide +kernel
set_option maxRecDepth 100000 in
theorem s19_766 {x0 : Nat} {s0 : Nat} {s1 : Nat} : ip_WP 19 766 [some (.ref x0)] [.ref s1, .ref s0] (G, F, I, J) b post px ↔ (ip_isO G s0 1 = true ∧ s1 < G.length ∧ ip_WP 19 769 [some (.ref x0)] [] (G, ip_up F s0 31 (.ref s1), I, J) b post px) := ip_s_putR f19_766 (by decide +kernel) rfl
theorem f19_769 : ip_fetch 19 769 = some (.aload_n 0, 1) := by decide +kernel
theorem s19_769 {x0 : Nat} : ip_WP 19 769 [some (.ref x0)] [] (G, F, I, J) b post px ↔ ip_WP 19 770 [some (.ref x0)] [.ref x0] (G, F, I, J) b post px := ip_nx_iff ((ip_st_of f19_769).trans rfl)
theorem f19_770 : ip_fetch 19 770 = some (.bipush 64, 2) := by decide +kernel
theorem s19_770 {x0 : Nat} {s0 : Nat} : ip_WP 19 770 [some (.ref x0)] [.ref s0] (G, F, I, J) b post px ↔ ip_WP 19 772 [some (.ref x0)] [.int 64, .ref s0] (G, F, I, J) b post px := ip_s_bipush f19_770 (by decide)
theorem f19_772 : ip_fetch 19 772 = some (.newarray .int, 2) := by decide +kernel
set_option maxRecDepth 100000 in
theorem s19_772 {x0 : Nat} {s0 : Nat} {s1 : Int32} : ip_WP 19 772 [some (.ref x0)] [.int s1, .ref s0] (G, F, I, J) b post px ↔ (ip_wfc G.length [some (.ref x0)] [.ref s0] = true ∧ (1 ≤ b.1 ∧ s1.toNatClampNeg ≤ b.2 ∧ G.length < ip_SC ∧ ¬ s1 < 0 ∧ s1.toNatClampNeg ≤ 60000000) ∧ ip_WP 19 774 [some (.ref x0)] [.ref G.length, .ref s0] (G ++ [.inl (0, s1.toNatClampNeg)], F, fun a j => if a = G.length then 0 else I a j, fun a j => if a = G.length then 0 else J a j) (b.1 - 1, b.2 - s1.toNatClampNeg) post px) := ip_s_newa f19_772 rfl rfl
theorem f19_774 : ip_fetch 19 774 = some (.putfield 74, 3) := by decide +kernel
set_option maxRecDepth 100000 in
theorem s19_774 {x0 : Nat} {s0 : Nat} {s1 : Nat} : ip_WP 19 774 [some (.ref x0)] [.ref s1, .ref s0] (G, F, I, J) b post px ↔ (ip_isO G s0 1 = true ∧ s1 < G.length ∧ ip_WP 19 777 [some (.ref x0)] [] (G, ip_up F s0 32 (.ref s1), I, J) b post px) := ip_s_putR f19_774 (by decide +kernel) rfl
theorem f19_777 : ip_fetch 19 777 = some (.aload_n 0, 1) := by decide +kernel
theorem s19_777 {x0 : Nat} : ip_WP 19 777 [some (.ref x0)] [] (G, F, I, J) b post px ↔ ip_WP 19 778 [some (.ref x0)] [.ref x0] (G, F, I, J) b post px := ip_nx_iff ((ip_st_of f19_777).trans rfl)
theorem f19_778 : ip_fetch 19 778 = some (.bipush 80, 2) := by decide +kernel
theorem s19_778 {x0 : Nat} {s0 : Nat} : ip_WP 19 778 [some (.ref x0)] [.ref s0] (G, F, I, J) b post px ↔ ip_WP 19 780 [some (.ref x0)] [.int 80, .ref s0] (G, F, I, J) b post px := ip_s_bipush f19_778 (by decide)
theorem f19_780 : ip_fetch 19 780 = some (.newarray .int, 2) := by decide +kernel
set_option maxRecDepth 100000 in
theorem s19_780 {x0 : Nat} {s0 : Nat} {s1 : Int32} : ip_WP 19 780 [some (.ref x0)] [.int s1, .ref s0] (G, F, I, J) b post px ↔ (ip_wfc G.length [some (.ref x0)] [.ref s0] = true ∧ (1 ≤ b.1 ∧ s1.toNatClampNeg ≤ b.2 ∧ G.length < ip_SC ∧ ¬ s1 < 0 ∧ s1.toNatClampNeg ≤ 60000000) ∧ ip_WP 19 782 [some (.ref x0)] [.ref G.length, .ref s0] (G ++ [.inl (0, s1.toNatClampNeg)], F, fun a j => if a = G.length then 0 else I a j, fun a j => if a = G.length then 0 else J a j) (b.1 - 1, b.2 - s1.toNatClampNeg) post px) := ip_s_newa f19_780 rfl rfl
theorem f19_782 : ip_fetch 19 782 = some (.putfield 77, 3) := by decide +kernel
set_option maxRecDepth 100000 in
theorem s19_782 {x0 : Nat} {s0 : Nat} {s1 : Nat} : ip_WP 19 782 [some (.ref x0)] [.ref s1, .ref s0] (G, F, I, J) b post px ↔ (ip_isO G s0 1 = true ∧ s1 < G.length ∧ ip_WP 19 785 [some (.ref x0)] [] (G, ip_up F s0 33 (.ref s1), I, J) b post px) := ip_s_putR f19_782 (by decide +kernel) rfl
theorem f19_785 : ip_fetch 19 785 = some (.aload_n 0, 1) := by decide +kernel
theorem s19_785 {x0 : Nat} : ip_WP 19 785 [some (.ref x0)] [] (G, F, I, J) b post px ↔ ip_WP 19 786 [some (.ref x0)] [.ref x0] (G, F, I, J) b post px := ip_nx_iff ((ip_st_of f19_785).trans rfl)
theorem f19_786 : ip_fetch 19 786 = some (.bipush 80, 2) := by decide +kernel
theorem s19_786 {x0 : Nat} {s0 : Nat} : ip_WP 19 786 [some (.ref x0)] [.ref s0] (G, F, I, J) b post px ↔ ip_WP 19 788 [some (.ref x0)] [.int 80, .ref s0] (G, F, I, J) b post px := ip_s_bipush f19_786 (by decide)
theorem f19_788 : ip_fetch 19 788 = some (.newarray .int, 2) := by decide +kernel
set_option maxRecDepth 100000 in
theorem s19_788 {x0 : Nat} {s0 : Nat} {s1 : Int32} : ip_WP 19 788 [some (.ref x0)] [.int s1, .ref s0] (G, F, I, J) b post px ↔ (ip_wfc G.length [some (.ref x0)] [.ref s0] = true ∧ (1 ≤ b.1 ∧ s1.toNatClampNeg ≤ b.2 ∧ G.length < ip_SC ∧ ¬ s1 < 0 ∧ s1.toNatClampNeg ≤ 60000000) ∧ ip_WP 19 790 [some (.ref x0)] [.ref G.length, .ref s0] (G ++ [.inl (0, s1.toNatClampNeg)], F, fun a j => if a = G.length then 0 else I a j, fun a j => if a = G.length then 0 else J a j) (b.1 - 1, b.2 - s1.toNatClampNeg) post px) := ip_s_newa f19_788 rfl rfl
theorem f19_790 : ip_fetch 19 790 = some (.putfield 80, 3) := by decide +kernel
set_option maxRecDepth 100000 in
theorem s19_790 {x0 : Nat} {s0 : Nat} {s1 : Nat} : ip_WP 19 790 [some (.ref x0)] [.ref s1, .ref s0] (G, F, I, J) b post px ↔ (ip_isO G s0 1 = true ∧ s1 < G.length ∧ ip_WP 19 793 [some (.ref x0)] [] (G, ip_up F s0 34 (.ref s1), I, J) b post px) := ip_s_putR f19_790 (by decide +kernel) rfl
theorem f19_793 : ip_fetch 19 793 = some (.aload_n 0, 1) := by decide +kernel
theorem s19_793 {x0 : Nat} : ip_WP 19 793 [some (.ref x0)] [] (G, F, I, J) b post px ↔ ip_WP 19 794 [some (.ref x0)] [.ref x0] (G, F, I, J) b post px := ip_nx_iff ((ip_st_of f19_793).trans rfl)
theorem f19_794 : ip_fetch 19 794 = some (.invokevirtual 83, 3) := by decide +kernel
set_option maxRecDepth 100000 in
theorem s19_794 {x0 : Nat} {s0 : Nat} : ip_WP 19 794 [some (.ref x0)] [.ref s0] (G, F, I, J) b post px ↔ (ip_isO G s0 1 = true ∧ ip_WP 53 0 [some (.ref s0), none] [] (G, F, I, J) (0, 0) (fun r h' => ip_WP 19 797 [some (.ref x0)] (r.toList ++ []) h' b post px) (fun _ _ => False)) := ip_ck_iff (x := ip_cl 53 [some (.ref s0), none] [] (0, 0) b) ((ip_st_of f19_794).trans rfl) (ip_cl_iff)
theorem f19_797 : ip_fetch 19 797 = some (.return_, 1) := by decide +kernel
theorem s19_797 {x0 : Nat} : ip_WP 19 797 [some (.ref x0)] [] (G, F, I, J) b post px ↔ post none (G, F, I, J) := ip_rt_iff ((ip_st_of f19_797).trans rfl)
end
