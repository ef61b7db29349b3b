/-! CoreText's own methods, but for read and print -/
def IOOB : String := "java/lang/IndexOutOfBoundsException"
def outR (i n : Int32) : Bool := decide (i < 0) || decide (n ≤ i)
theorem outR_iff {i n : Int32} : outR i n = true ↔ i < 0 ∨ n ≤ i := by simp [outR]
theorem bud18a : ip_bud 18 (2, 12) = true := by decide +kernel
theorem rst18a : ip_rst 18 (2, 12) = (1, 6) := by decide +kernel
theorem bud18b : ip_bud 18 (1, 6) = true := by decide +kernel
theorem bud17 : ip_bud 17 (2, 12) = true := by decide +kernel
section
variable {X : Nat → Nat → Int32} {y : Int64} {I : Nat → Nat → Int32} {J : Nat → Nat → Int64} {b : ip_B} {post : Option Value → ip_H → Prop} {px : String → ip_H → Prop}
theorem pk_mbi {i n : Int32} : ip_WP 18 0 [some (.int i), some (.int n)] [] (g0, fld X y, I, J) (1, 6) post px ↔ if outR i n then px IOOB (g0, fld X y, I, J) else post none (g0, fld X y, I, J) := by
  simp only [s18_0, s18_1, s18_4, s18_5, s18_6, s18_9, s18_19, Nat.reduceLeDiff, Nat.le_refl, and_self, Option.toList_some, Option.toList_none, List.cons_append, List.nil_append, List.append_nil, ip_on_some, true_and, and_true, if_true, if_false, not_true_eq_false, not_false_eq_true, decide_true, true_or, or_true, or_self, Bool.false_eq_true]
  by_cases h1 : i < 0
  · rw [if_pos h1, if_pos (show outR i n = true from outR_iff.mpr (Or.inl h1))]; rfl
  · rw [if_neg h1]
    by_cases h2 : i < n
    · rw [if_pos h2, if_neg (show ¬ outR i n = true from fun q => by
        rcases outR_iff.mp q with q | q
        · exact h1 q
        · exact Int32.not_le.mpr h2 q)]
    · rw [if_neg h2, if_pos (show outR i n = true from outR_iff.mpr (Or.inr (Int32.not_lt.mp h2)))]; rfl
theorem pk_fault {w : Int32} : ip_WP 4 0 [some (.ref 0), some (.int w)] [] (g0, fld X y, I, J) (1, 6) post px ↔ if w = 0 then post (some (.int (X 32 3))) (g0, fld X y, I, J) else if w = 1 then post (some (.int (X 32 4))) (g0, fld X y, I, J) else px IOOB (g0, fld X y, I, J) := by
  simp only [s4_0, s4_1, s4_28, s4_29, s4_32, s4_35, s4_36, s4_37, s4_40, s4_43, s4_44, f_0_0, f_0_1, f_0_2, f_0_3, f_0_4, f_0_5, f_0_6, f_32_0, f_32_1, f_32_2, f_32_3, u_32_3, f_32_4, u_32_4, f_32_5, u_32_5, f_32_6, u_32_6, f_32_7, u_32_7, f_32_8, u_32_8, o_0, o_32, rd_fn, rd_fp, Nat.reduceLeDiff, Nat.le_refl, and_self, Option.toList_some, Option.toList_none, List.cons_append, List.nil_append, List.append_nil, ip_on_some, true_and, and_true, if_true, if_false, not_true_eq_false, not_false_eq_true, decide_true, true_or, or_true, or_self, Bool.false_eq_true]
  exact Iff.rfl
theorem pk_ofClass {k w : Int32} (a12 : 0 ≤ X 12 1) (b12 : X 12 1 ≤ 8) : ip_WP 5 0 [some (.ref 0), some (.int k), some (.int w)] [] (g0, fld X y, I, J) (2, 12) post px ↔ if outR k (X 6 1) then px IOOB (g0, fld X y, I, J) else if w = 0 then post (some (.int (latO I k))) (g0, fld X y, I, J) else if w = 1 then post (some (.int (rget (I 17) 12 (-1) k))) (g0, fld X y, I, J) else if w = 2 then post (some (.int (rget (I 19) 12 0 k))) (g0, fld X y, I, J) else if w = 3 then post (some (.int (nI (prtN X I k)))) (g0, fld X y, I, J) else px IOOB (g0, fld X y, I, J) := by
  simp only [s5_0, s5_1, s5_2, s5_5, s5_8, s5_11, s5_14, s5_15, s5_44, s5_45, s5_48, s5_49, s5_52, s5_53, s5_54, s5_57, s5_60, s5_61, s5_64, s5_65, s5_66, s5_69, s5_72, s5_73, s5_76, s5_77, s5_78, s5_81, s5_82, s5_85, s5_86, f_0_0, f_0_1, f_0_2, f_0_3, f_0_4, f_0_5, f_0_6, f_5_0, f_5_1, f_5_2, f_5_3, f_5_4, f_5_5, f_5_6, f_5_7, f_5_8, f_5_9, f_5_10, f_5_11, f_5_12, f_5_13, u_5_13, f_5_14, u_5_14, f_6_0, f_6_1, u_6_1, f_16_0, f_16_1, f_18_0, f_18_1, o_0, o_5, o_6, o_16, o_18, ns_6, bud18a, rst18a, pk_mbi, co_lat, rg_16, rg_18, co_ports a12 b12, Nat.reduceLeDiff, Nat.le_refl, and_self, Option.toList_some, Option.toList_none, List.cons_append, List.nil_append, List.append_nil, ip_on_some, true_and, and_true, if_true, if_false, not_true_eq_false, not_false_eq_true, decide_true, true_or, or_true, or_self, Bool.false_eq_true]
  exact Iff.rfl
theorem pk_task {t : Int32} : ip_WP 6 0 [some (.ref 0), some (.int t)] [] (g0, fld X y, I, J) (1, 6) post px ↔ if outR t 7 then px IOOB (g0, fld X y, I, J) else post (some (.int (rget (I 21) 7 (-1) t))) (g0, fld X y, I, J) := by
  simp only [s6_0, s6_1, s6_3, s6_6, s6_7, s6_10, s6_13, s6_14, s6_17, f_0_0, f_0_1, f_0_2, f_0_3, f_0_4, f_0_5, f_0_6, f_5_0, f_5_1, f_5_2, f_5_3, f_5_4, f_5_5, f_5_6, f_5_7, f_5_8, f_5_9, f_5_10, f_5_11, f_5_12, f_5_13, u_5_13, f_5_14, u_5_14, f_20_0, f_20_1, o_0, o_5, o_20, bud18b, pk_mbi, rg_20, Option.toList_some, Option.toList_none, List.cons_append, List.nil_append, List.append_nil, ip_on_some, true_and, and_true, if_true, if_false, not_true_eq_false, not_false_eq_true, decide_true, true_or, or_true, or_self, Bool.false_eq_true]
theorem pk_path {k w : Int32} : ip_WP 7 0 [some (.ref 0), some (.int k), some (.int w)] [] (g0, fld X y, I, J) (2, 12) post px ↔ if outR k (X 5 13) then px IOOB (g0, fld X y, I, J) else if outR w 2 then px IOOB (g0, fld X y, I, J) else if w = 0 then post (some (.int (rget (I 23) 24 (-1) k))) (g0, fld X y, I, J) else post (some (.int (rget (I 25) 24 (-1) k))) (g0, fld X y, I, J) := by
  simp only [s7_0, s7_1, s7_2, s7_5, s7_8, s7_11, s7_12, s7_13, s7_16, s7_17, s7_20, s7_21, s7_24, s7_27, s7_28, s7_31, s7_34, s7_35, s7_38, s7_41, s7_42, s7_45, f_0_0, f_0_1, f_0_2, f_0_3, f_0_4, f_0_5, f_0_6, f_5_0, f_5_1, f_5_2, f_5_3, f_5_4, f_5_5, f_5_6, f_5_7, f_5_8, f_5_9, f_5_10, f_5_11, f_5_12, f_5_13, u_5_13, f_5_14, u_5_14, f_22_0, f_22_1, f_24_0, f_24_1, o_0, o_5, o_22, o_24, co_paths, bud18a, rst18a, bud18b, pk_mbi, rg_22, rg_24, Option.toList_some, Option.toList_none, List.cons_append, List.nil_append, List.append_nil, ip_on_some, true_and, and_true, if_true, if_false, not_true_eq_false, not_false_eq_true, decide_true, true_or, or_true, or_self, Bool.false_eq_true]
  by_cases h : w = 0
  · simp [h]
  · simp [h]
theorem pk_queue {k w : Int32} : ip_WP 8 0 [some (.ref 0), some (.int k), some (.int w)] [] (g0, fld X y, I, J) (2, 12) post px ↔ if outR k (X 10 1) then px IOOB (g0, fld X y, I, J) else if outR w 2 then px IOOB (g0, fld X y, I, J) else if w = 0 then post (some (.int (rget (I 27) 8 (-1) k))) (g0, fld X y, I, J) else post (some (.int (rget (I 29) 8 (-1) k))) (g0, fld X y, I, J) := by
  simp only [s8_0, s8_1, s8_2, s8_5, s8_8, s8_11, s8_14, s8_15, s8_16, s8_19, s8_20, s8_23, s8_24, s8_27, s8_30, s8_31, s8_34, s8_37, s8_38, s8_41, s8_44, s8_45, s8_48, f_0_0, f_0_1, f_0_2, f_0_3, f_0_4, f_0_5, f_0_6, f_5_0, f_5_1, f_5_2, f_5_3, f_5_4, f_5_5, f_5_6, f_5_7, f_5_8, f_5_9, f_5_10, f_5_11, f_5_12, f_5_13, u_5_13, f_5_14, u_5_14, f_10_0, f_10_1, u_10_1, f_26_0, f_26_1, f_28_0, f_28_1, o_0, o_5, o_10, o_26, o_28, ns_10, bud18a, rst18a, bud18b, pk_mbi, rg_26, rg_28, Option.toList_some, Option.toList_none, List.cons_append, List.nil_append, List.append_nil, ip_on_some, true_and, and_true, if_true, if_false, not_true_eq_false, not_false_eq_true, decide_true, true_or, or_true, or_self, Bool.false_eq_true]
  by_cases h : w = 0
  · simp [h]
  · simp [h]
theorem pk_port {k c : Int32} : ip_WP 9 0 [some (.ref 0), some (.int k), some (.int c)] [] (g0, fld X y, I, J) (2, 12) post px ↔ if outR k (X 12 1) then px IOOB (g0, fld X y, I, J) else if outR c (X 6 1) then px IOOB (g0, fld X y, I, J) else post (some (.int (bI (bitP (rget (I 31) 8 0 k) c)))) (g0, fld X y, I, J) := by
  simp only [s9_0, s9_1, s9_2, s9_5, s9_8, s9_11, s9_14, s9_15, s9_16, s9_19, s9_22, s9_25, s9_28, s9_29, s9_32, s9_33, s9_34, s9_37, f_0_0, f_0_1, f_0_2, f_0_3, f_0_4, f_0_5, f_0_6, f_5_0, f_5_1, f_5_2, f_5_3, f_5_4, f_5_5, f_5_6, f_5_7, f_5_8, f_5_9, f_5_10, f_5_11, f_5_12, f_5_13, u_5_13, f_5_14, u_5_14, f_6_0, f_6_1, u_6_1, f_12_0, f_12_1, u_12_1, o_0, o_5, o_6, o_12, ns_6, ns_12, bud18a, rst18a, bud18b, pk_mbi, co_pHas, Option.toList_some, Option.toList_none, List.cons_append, List.nil_append, List.append_nil, ip_on_some, true_and, and_true, if_true, if_false, not_true_eq_false, not_false_eq_true, decide_true, true_or, or_true, or_self, Bool.false_eq_true, bI_01]
theorem pk_errors : ip_WP 10 0 [some (.ref 0)] [] (g0, fld X y, I, J) b post px ↔ post (some (.int (X 37 2))) (g0, fld X y, I, J) := by
  simp only [s10_0, s10_1, s10_4, s10_7, f_0_0, f_0_1, f_0_2, f_0_3, f_0_4, f_0_5, f_0_6, f_37_0, f_37_1, f_37_2, u_37_2, o_0, o_37, fs_37, Option.toList_some, Option.toList_none, List.cons_append, List.nil_append, List.append_nil, ip_on_some, true_and, and_true, if_true, if_false, not_true_eq_false, not_false_eq_true, decide_true, true_or, or_true, or_self, Bool.false_eq_true]
theorem pk_error {k w : Int32} : ip_WP 11 0 [some (.ref 0), some (.int k), some (.int w)] [] (g0, fld X y, I, J) (2, 12) post px ↔ if outR k (X 37 2) then px IOOB (g0, fld X y, I, J) else if outR w 2 then px IOOB (g0, fld X y, I, J) else if w = 0 then post (some (.int (rget (I 39) 52 (-1) k))) (g0, fld X y, I, J) else post (some (.int (rget (I 41) 52 (-1) k))) (g0, fld X y, I, J) := by
  simp only [s11_0, s11_1, s11_4, s11_5, s11_6, s11_9, s17_0, s17_1, s17_2, s17_5, s17_8, s17_9, s17_10, s17_13, s17_14, s17_17, s17_18, s17_19, s17_22, s17_25, s17_26, s17_27, s17_30, f_0_0, f_0_1, f_0_2, f_0_3, f_0_4, f_0_5, f_0_6, f_37_0, f_37_1, f_37_2, u_37_2, o_0, o_37, fs_37, fn_37, ft_37, bud17, bud18a, rst18a, bud18b, pk_mbi, Option.toList_some, Option.toList_none, List.cons_append, List.nil_append, List.append_nil, ip_on_some, true_and, and_true, if_true, if_false, not_true_eq_false, not_false_eq_true, decide_true, true_or, or_true, or_self, Bool.false_eq_true]
  by_cases h : w = 0
  · simp [h]
  · simp [h]
theorem pk_remark {k w : Int32} : ip_WP 12 0 [some (.ref 0), some (.int k), some (.int w)] [] (g0, fld X y, I, J) (2, 12) post px ↔ if outR k (X 42 2) then px IOOB (g0, fld X y, I, J) else if outR w 2 then px IOOB (g0, fld X y, I, J) else if w = 0 then post (some (.int (rget (I 44) 68 (-1) k))) (g0, fld X y, I, J) else post (some (.int (rget (I 46) 68 (-1) k))) (g0, fld X y, I, J) := by
  simp only [s12_0, s12_1, s12_4, s12_5, s12_6, s12_9, s17_0, s17_1, s17_2, s17_5, s17_8, s17_9, s17_10, s17_13, s17_14, s17_17, s17_18, s17_19, s17_22, s17_25, s17_26, s17_27, s17_30, f_0_0, f_0_1, f_0_2, f_0_3, f_0_4, f_0_5, f_0_6, f_42_0, f_42_1, f_42_2, u_42_2, o_0, o_42, fs_42, fn_42, ft_42, bud17, bud18a, rst18a, bud18b, pk_mbi, Option.toList_some, Option.toList_none, List.cons_append, List.nil_append, List.append_nil, ip_on_some, true_and, and_true, if_true, if_false, not_true_eq_false, not_false_eq_true, decide_true, true_or, or_true, or_self, Bool.false_eq_true]
  by_cases h : w = 0
  · simp [h]
  · simp [h]
theorem pk_out {i : Int32} (a3 : 0 ≤ X 3 1) (b3 : X 3 1 ≤ 4160) : ip_WP 14 0 [some (.ref 0), some (.int i)] [] (g0, fld X y, I, J) (1, 6) post px ↔ if outR i (X 3 1) then px IOOB (g0, fld X y, I, J) else post (some (.int (bget (I 4) (X 3 1).toNatClampNeg i))) (g0, fld X y, I, J) := by
  simp only [s14_0, s14_1, s14_2, s14_5, s14_8, s14_11, s14_12, s14_15, s14_16, s14_19, f_0_0, f_0_1, f_0_2, f_0_3, f_0_4, f_0_5, f_0_6, f_3_0, f_3_1, u_3_1, o_0, o_3, bs_3, bt_3 a3 b3, bud18b, pk_mbi, Option.toList_some, Option.toList_none, List.cons_append, List.nil_append, List.append_nil, ip_on_some, true_and, and_true, if_true, if_false, not_true_eq_false, not_false_eq_true, decide_true, true_or, or_true, or_self, Bool.false_eq_true]
theorem pk_count {w : Int32} : ip_WP 16 0 [some (.ref 0), some (.int w)] [] (g0, fld X y, I, J) b post px ↔ post (some (.int (if w = 0 then X 1 1 else if w = 1 then X 6 1 else if w = 2 then X 8 1 else if w = 3 then X 5 13 else if w = 4 then X 10 1 else if w = 5 then X 12 1 else if w = 6 then X 5 14 else if w = 7 then X 42 2 else if w = 8 then X 3 1 else -1))) (g0, fld X y, I, J) := by
  simp only [s16_0, s16_1, s16_52, s16_53, s16_56, s16_59, s16_60, s16_61, s16_64, s16_67, s16_70, s16_71, s16_72, s16_75, s16_78, s16_81, s16_82, s16_83, s16_86, s16_89, s16_90, s16_91, s16_94, s16_97, s16_100, s16_101, s16_102, s16_105, s16_108, s16_111, s16_112, s16_113, s16_116, s16_119, s16_120, s16_121, s16_124, s16_127, s16_128, s16_129, s16_132, s16_135, s16_136, s16_137, f_0_0, f_0_1, f_0_2, f_0_3, f_0_4, f_0_5, f_0_6, f_1_0, f_1_1, u_1_1, f_3_0, f_3_1, u_3_1, f_5_0, f_5_1, f_5_2, f_5_3, f_5_4, f_5_5, f_5_6, f_5_7, f_5_8, f_5_9, f_5_10, f_5_11, f_5_12, f_5_13, u_5_13, f_5_14, u_5_14, f_6_0, f_6_1, u_6_1, f_8_0, f_8_1, u_8_1, f_10_0, f_10_1, u_10_1, f_12_0, f_12_1, u_12_1, f_42_0, f_42_1, f_42_2, u_42_2, o_0, o_1, o_3, o_5, o_6, o_8, o_10, o_12, o_42, bs_1, bs_3, ns_6, ns_8, ns_10, ns_12, co_paths, co_stmts, fs_42, Option.toList_some, Option.toList_none, List.cons_append, List.nil_append, List.append_nil, ip_on_some, true_and, and_true, if_true, if_false, not_true_eq_false, not_false_eq_true, decide_true, true_or, or_true, or_self, Bool.false_eq_true]
  (repeat' split) <;> first | rfl | contradiction
theorem pk_end {n : Int32} : ip_WP 2 0 [some (.ref 0), some (.int n)] [] (g0, fld X y, I, J) (2, 12) post px ↔ if n < 0 ∨ 16 < n then px "java/lang/IllegalArgumentException" (g0, fld X y, I, J) else if X 1 1 < 16 then px "java/lang/IllegalStateException" (g0, fld X y, I, J) else post (some (.int (if 0 ≤ 16 - n ∧ 16 - n ≤ X 1 1 then X 1 1 - (16 - n) else X 1 1))) (g0, fld (if 0 ≤ 16 - n ∧ 16 - n ≤ X 1 1 then ip_up X 1 1 (X 1 1 - (16 - n)) else X) y, I, J) := by
  simp only [s2_0, s2_1, s2_4, s2_5, s2_7, s2_10, s2_20, s2_21, s2_24, s2_27, s2_29, s2_32, s2_42, s2_43, s2_46, s2_48, s2_49, s2_50, s2_53, s2_54, s2_57, s2_60, s94_0, s94_1, s94_4, s94_5, s94_6, s94_9, s94_12, s94_13, s94_14, s94_17, s94_18, s94_19, s94_22, f_0_0, f_0_1, f_0_2, f_0_3, f_0_4, f_0_5, f_0_6, f_1_0, f_1_1, u_1_1, o_0, o_1, bs_1, Nat.reduceLeDiff, Nat.le_refl, and_self, up1, updF_ap, Option.toList_some, Option.toList_none, List.cons_append, List.nil_append, List.append_nil, ip_on_some, true_and, and_true, if_true, if_false, not_true_eq_false, not_false_eq_true, decide_true, true_or, or_true, or_self, Bool.false_eq_true]
  by_cases h1 : n < 0
  · simp [h1]
  · by_cases h2 : 16 < n
    · have h2' : ¬ n ≤ 16 := Int32.not_le.mpr h2
      simp [h1, h2, h2']
    · have h2' : n ≤ 16 := Int32.not_lt.mp h2
      by_cases h3 : X 1 1 < 16
      · have h3' : ¬ (16 : Int32) ≤ X 1 1 := Int32.not_le.mpr h3
        simp [h1, h2, h2', h3, h3']
      · have h3' : (16 : Int32) ≤ X 1 1 := Int32.not_lt.mp h3
        by_cases h4 : 16 - n < 0
        · have h4' : ¬ 0 ≤ 16 - n := Int32.not_le.mpr h4
          simp [h1, h2, h2', h3, h3', h4, h4']
        · have h4' : 0 ≤ 16 - n := Int32.not_lt.mp h4
          by_cases h5 : X 1 1 < 16 - n
          · have h5' : ¬ 16 - n ≤ X 1 1 := Int32.not_le.mpr h5
            simp [h1, h2, h2', h3, h3', h4, h4', h5, h5']
          · have h5' : 16 - n ≤ X 1 1 := Int32.not_lt.mp h5
            simp [h1, h2, h2', h3, h3', h4, h4', h5, h5', up1, updF_ap]
end
