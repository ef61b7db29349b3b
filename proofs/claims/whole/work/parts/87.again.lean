/-! end and again -/
section
variable {X X' : Nat → Nat → Int32} {y : Int64} {I I' : Nat → Nat → Int32} {J J' : Nat → Nat → Int64} {b : ip_B} {post : Option Value → ip_H → Prop} {px : String → ip_H → Prop} {n : Nat}
theorem end_v {N : Nat} {v : Int32} (h0 : ¬ v < 0) (h1 : ¬ 16 < v) (hN : ¬ nI N < 16) (hb : N ≤ 4160) : ∃ m, m ≤ 16 ∧ v = nI m ∧ 16 ≤ N ∧ nI N - (16 - v) = nI (N - (16 - m)) ∧ (0 ≤ 16 - v ∧ 16 - v ≤ nI N) := by
  have a := Int32.not_lt.mp h0
  have c := Int32.not_lt.mp h1
  have hm := cn_le (n := 16) a c (by decide)
  have e := cn_eq a
  generalize v.toNatClampNeg = m at hm e
  subst e
  have t16 : (16 : Int32).toInt = 16 := by decide
  have z0 : (0 : Int32).toInt = 0 := by decide
  have hN' : 16 ≤ N := by
    apply Nat.not_lt.mp
    intro z
    exact hN (Int32.not_le.mp (nI_ge (b := 16) z (by decide)))
  have s1 : ((16 : Int32) - nI m).toInt = 16 - (m : Int) := by rw [Kit.i32_sub (by rw [t16, nI_toInt (by omega)]; omega) (by rw [t16, nI_toInt (by omega)]; omega), t16, nI_toInt (by omega)]
  refine ⟨m, hm, rfl, hN', ?_, ?_, ?_⟩
  · apply Int32.toInt_inj.mp
    rw [Kit.i32_sub (by rw [s1, nI_toInt (by omega)]; omega) (by rw [s1, nI_toInt (by omega)]; omega), s1, nI_toInt (by omega), nI_toInt (by omega)]
    omega
  · rw [Int32.le_iff_toInt_le, s1, z0]; omega
  · rw [Int32.le_iff_toInt_le, s1, nI_toInt (by omega)]; omega
theorem kx_end (h : RL X I J) {v : Int32} (h1 : v < 0 ∨ 16 < v → px "java/lang/IllegalArgumentException" (g0, fld X y, I, J)) (h2 : ¬ (v < 0 ∨ 16 < v) → X 1 1 < 16 → px "java/lang/IllegalStateException" (g0, fld X y, I, J)) (h3 : ¬ (v < 0 ∨ 16 < v) → ¬ X 1 1 < 16 → post (some (.int (X 1 1 - (16 - v)))) (g0, fld (ip_up X 1 1 (X 1 1 - (16 - v))) y, I, J)) : ip_WP 2 0 [some (.ref 0), some (.int v)] [] (g0, fld X y, I, J) (2, 12) post px := by
  have hb := h.mn.bd
  rw [pk_end]
  by_cases c1 : v < 0 ∨ 16 < v
  · rw [if_pos c1]; exact h1 c1
  · rw [if_neg c1]
    by_cases c2 : X 1 1 < 16
    · rw [if_pos c2]; exact h2 c1 c2
    · rw [if_neg c2]
      have e := cn_eq hb.a1
      have hN := cn_le (n := 4160) hb.a1 hb.b1 (by decide)
      have c2' := c2
      rw [e] at c2'
      obtain ⟨m, _, _, _, _, c4⟩ := end_v (fun z => c1 (Or.inl z)) (fun z => c1 (Or.inr z)) c2' hN
      rw [← e] at c4
      rw [if_pos c4, if_pos c4]
      exact h3 c1 c2
theorem g_end1 (h : RL X I J) {v : Int32} (c : v < 0 ∨ 16 < v) (hk : ∀ X', Thr 1 X X' → post (some (.int 0)) (g0, fld X' y, I, J)) : ip_WP 24 0 [some (.ref 47), some (.int v)] [] (g0, fld X y, I, J) b post px := by
  have c' : ¬ (0 ≤ v ∧ v ≤ 16) := by
    rintro ⟨a, d⟩
    rcases c with c | c
    · exact Int32.not_le.mpr c a
    · exact Int32.not_le.mpr c d
  simp only [s24_0, s24_1, s24_2, s24_5, s24_6, s24_7, s24_9, s24_12, s24_15, s24_16, s24_17, s24_20, s24_21, s24_22, s24_25, s24_27, s24_30, s24_31, s24_32, s24_35, s24_36, s24_37, s24_38, s24_41, s24_43, s24_44, s24_45, s24_46, s24_49, s24_50, s24_53, f_47_0, f_47_1, u_47_1, f_47_2, u_47_2, f_47_3, f_47_4, u_47_4, f_47_5, f_47_6, u_47_6, f_47_7, u_47_7, f_47_8, u_47_8, f_47_9, u_47_9, f_47_10, u_47_10, f_47_11, f_47_12, f_47_13, f_47_14, f_47_15, f_47_16, f_47_17, f_47_18, f_47_19, f_47_20, f_47_21, f_47_22, f_47_23, u_47_23, f_47_24, f_47_25, f_47_26, f_47_27, f_47_28, f_47_29, u_47_29, f_47_30, u_47_30, f_47_31, f_47_32, f_47_33, f_47_34, f_47_35, u_47_35, f_47_36, u_47_36, f_47_37, u_47_37, f_47_38, u_47_38, o_47, md_within, md_fail, bI_0, c', Option.toList_some, Option.toList_none, List.cons_append, List.nil_append, List.append_nil, ip_on_some, true_and, and_true, if_true, if_false, not_true_eq_false, not_false_eq_true, decide_true, true_or, or_true, or_self, Bool.false_eq_true]
  exact hk _ thr2
theorem g_end2 (h : RL X I J) {v : Int32} (c : ¬ (v < 0 ∨ 16 < v)) (c2 : X 1 1 < 16) (hk : ∀ X', Thr 2 X X' → post (some (.int 0)) (g0, fld X' y, I, J)) : ip_WP 24 0 [some (.ref 47), some (.int v)] [] (g0, fld X y, I, J) b post px := by
  have c' : 0 ≤ v ∧ v ≤ 16 := ⟨Int32.not_lt.mp (fun z => c (Or.inl z)), Int32.not_lt.mp (fun z => c (Or.inr z))⟩
  have c2' : ¬ (16 : Int32) ≤ X 1 1 := Int32.not_le.mpr c2
  simp only [s24_0, s24_1, s24_2, s24_5, s24_6, s24_7, s24_9, s24_12, s24_15, s24_16, s24_17, s24_20, s24_21, s24_22, s24_25, s24_27, s24_30, s24_31, s24_32, s24_35, s24_36, s24_37, s24_38, s24_41, s24_43, s24_44, s24_45, s24_46, s24_49, s24_50, s24_53, f_47_0, f_47_1, u_47_1, f_47_2, u_47_2, f_47_3, f_47_4, u_47_4, f_47_5, f_47_6, u_47_6, f_47_7, u_47_7, f_47_8, u_47_8, f_47_9, u_47_9, f_47_10, u_47_10, f_47_11, f_47_12, f_47_13, f_47_14, f_47_15, f_47_16, f_47_17, f_47_18, f_47_19, f_47_20, f_47_21, f_47_22, f_47_23, u_47_23, f_47_24, f_47_25, f_47_26, f_47_27, f_47_28, f_47_29, u_47_29, f_47_30, u_47_30, f_47_31, f_47_32, f_47_33, f_47_34, f_47_35, u_47_35, f_47_36, u_47_36, f_47_37, u_47_37, f_47_38, u_47_38, o_47, md_within, md_fail, bI_0, c', up47, Nat.reduceEqDiff, h.ts, c2', Option.toList_some, Option.toList_none, List.cons_append, List.nil_append, List.append_nil, ip_on_some, true_and, and_true, if_true, if_false, not_true_eq_false, not_false_eq_true, decide_true, true_or, or_true, or_self, Bool.false_eq_true]
  exact hk _ thr2
theorem g_end3 (h : RL X I J) {v : Int32} (c : ¬ (v < 0 ∨ 16 < v)) (c2 : ¬ X 1 1 < 16) (hJ : ∀ a, a < 48 → J' a = J a) (hk : ∀ X', RL X' I J' → X' 47 1 = 0 → post (some (.int (X 1 1 - (16 - v)))) (g0, fld X' y, I, J')) : ip_WP 24 0 [some (.ref 47), some (.int v)] [] (g0, fld (ip_up X 1 1 (X 1 1 - (16 - v))) y, I, J') b post px := by
  have hb := h.mn.bd
  have e := cn_eq hb.a1
  have hN := cn_le (n := 4160) hb.a1 hb.b1 (by decide)
  have htx := h.tx
  have hts := h.ts
  have c' : 0 ≤ v ∧ v ≤ 16 := ⟨Int32.not_lt.mp (fun z => c (Or.inl z)), Int32.not_lt.mp (fun z => c (Or.inr z))⟩
  have c2' : (16 : Int32) ≤ X 1 1 := Int32.not_lt.mp c2
  have ts' : ip_up X 1 1 (X 1 1 - (16 - v)) 47 2 = X 1 1 := by rw [up1, if_neg (by decide)]; exact hts
  simp only [s24_0, s24_1, s24_2, s24_5, s24_6, s24_7, s24_9, s24_12, s24_15, s24_16, s24_17, s24_20, s24_21, s24_22, s24_25, s24_27, s24_30, s24_31, s24_32, s24_35, s24_36, s24_37, s24_38, s24_41, s24_43, s24_44, s24_45, s24_46, s24_49, s24_50, s24_53, f_47_0, f_47_1, u_47_1, f_47_2, u_47_2, f_47_3, f_47_4, u_47_4, f_47_5, f_47_6, u_47_6, f_47_7, u_47_7, f_47_8, u_47_8, f_47_9, u_47_9, f_47_10, u_47_10, f_47_11, f_47_12, f_47_13, f_47_14, f_47_15, f_47_16, f_47_17, f_47_18, f_47_19, f_47_20, f_47_21, f_47_22, f_47_23, u_47_23, f_47_24, f_47_25, f_47_26, f_47_27, f_47_28, f_47_29, u_47_29, f_47_30, u_47_30, f_47_31, f_47_32, f_47_33, f_47_34, f_47_35, u_47_35, f_47_36, u_47_36, f_47_37, u_47_37, f_47_38, u_47_38, o_47, md_within, md_fail, bI_0, c', up47, Nat.reduceEqDiff, ts', c2', Option.toList_some, Option.toList_none, List.cons_append, List.nil_append, List.append_nil, ip_on_some, true_and, and_true, if_true, if_false, not_true_eq_false, not_false_eq_true, decide_true, true_or, or_true, or_self, Bool.false_eq_true]
  refine hk _ ?_ (by rw [up47, if_neg (by decide), up47, if_pos rfl])
  generalize (X 1 1).toNatClampNeg = N at e hN htx
  have c3 := c2
  rw [e] at c3
  obtain ⟨m, hm, _, h16, ev, _⟩ := end_v (fun z => c (Or.inl z)) (fun z => c (Or.inr z)) c3 hN
  rw [← e] at ev
  rw [ev]
  have xc : ∀ c, c ≠ 1 → c ≠ 47 → ip_up (ip_up (ip_up X 1 1 (nI (N - (16 - m)))) 47 1 0) 47 2 (nI (N - (16 - m))) c = X c := fun c a1 a2 => by rw [up1, if_neg a2, up1, if_neg a2, up1, if_neg a1]
  have xm : ∀ j, j ≠ 1 → j ≠ 2 → ip_up (ip_up (ip_up X 1 1 (nI (N - (16 - m)))) 47 1 0) 47 2 (nI (N - (16 - m))) 47 j = X 47 j := fun j a1 a2 => by rw [up47, if_neg a2, up47, if_neg a1, up1, if_neg (by decide)]
  have x1 : ip_up (ip_up (ip_up X 1 1 (nI (N - (16 - m)))) 47 1 0) 47 2 (nI (N - (16 - m))) 1 1 = nI (N - (16 - m)) := by rw [up1, if_neg (by decide), up1, if_neg (by decide), up1, if_pos rfl, updF_ap, if_pos rfl]
  refine h.of (fun c a1 _ a47 => xc c a1 a47) (fun j a1 a2 _ => xm j a1 a2) (fun _ _ _ _ _ => rfl) hJ ?_ ?_ ?_ ?_ ?_ ?_ ?_ ?_ ?_
  · rw [x1]; exact nI_pos' (by omega)
  · rw [x1]; exact nI_le (b := 4160) (by omega) (by decide)
  · rw [xc 3 (by decide) (by decide)]; exact hb.a3
  · rw [xc 3 (by decide) (by decide)]; exact hb.b3
  · rw [x1, up47, if_pos rfl]
  · rw [x1, nI_clamp (by omega)]
    exact fun j hj => htx j (by omega)
  · rw [xm 4 (by decide) (by decide), xc 3 (by decide) (by decide)]; exact h.ps
  · rw [xc 3 (by decide) (by decide)]; exact h.px
  · rw [xc 3 (by decide) (by decide)]; exact h.pf
theorem kx_again (h : RL X I J) (hk : post (some (.int (X 3 1))) (g0, fld (ip_up X 1 1 (X 3 1)) y, ip_cpI I 4 0 2 0 (X 3 1), J)) : ip_WP 15 0 [some (.ref 0)] [] (g0, fld X y, I, J) b post px := by
  have hb := h.mn.bd
  have hn := cn_le (n := 4160) hb.a3 hb.b3 (by decide)
  have ok : ip_cpok g0 I 4 0 2 0 (X 3 1) := by
    refine ⟨⟨by decide, by decide, Int32.not_lt.mpr hb.a3⟩, ?_, ?_⟩
    · show (0 : Int32).toNatClampNeg + (X 3 1).toNatClampNeg ≤ 4160 ∧ (0 : Int32).toNatClampNeg + (X 3 1).toNatClampNeg ≤ 4160
      have z : (0 : Int32).toNatClampNeg = 0 := by decide
      rw [z]
      omega
    · intro i hi
      have z : (0 : Int32).toNatClampNeg = 0 := by decide
      rw [z, Nat.zero_add]
      exact h.pf i hi
  simp only [s15_0, s15_1, s15_4, s15_5, s15_8, s15_11, s15_12, s15_15, s15_18, s95_0, s95_1, s95_4, s95_5, s95_6, s95_9, s95_10, s95_11, s95_14, s95_17, s95_18, s95_19, s95_22, s95_25, f_0_0, f_0_1, f_0_2, f_0_3, f_0_4, f_0_5, f_0_6, f_1_0, f_1_1, u_1_1, f_3_0, f_3_1, u_3_1, o_0, o_1, o_3, bs_1, ok, up1, updF_ap, Option.toList_some, Option.toList_none, List.cons_append, List.nil_append, List.append_nil, ip_on_some, true_and, and_true, if_true, if_false, not_true_eq_false, not_false_eq_true, decide_true, true_or, or_true, or_self, Bool.false_eq_true]
  exact hk
theorem g_again (h : RL X I J) (hk : ∀ X2 I2, RL X2 I2 J → post (some (.int (X 3 1))) (g0, fld X2 y, I2, J)) : ip_WP 85 0 [some (.ref 47), none] [] (g0, fld (ip_up X 1 1 (X 3 1)) y, ip_cpI I 4 0 2 0 (X 3 1), J) b post px := by
  have hb := h.mn.bd
  have e := cn_eq hb.a3
  have hn := cn_le (n := 4160) hb.a3 hb.b3 (by decide)
  have hpx := h.px
  have i2 : ∀ j, j < (X 3 1).toNatClampNeg → ip_cpI I 4 0 2 0 (X 3 1) 2 j = I 4 j := by
    intro j hj
    unfold ip_cpI va_cpy
    have z : (0 : Int32).toNatClampNeg = 0 := by decide
    rw [if_pos rfl, z, if_pos (by omega)]
    congr 1
    omega
  have ia : ∀ a, a ≠ 2 → ip_cpI I 4 0 2 0 (X 3 1) a = I a := fun a ha => by
    funext j
    unfold ip_cpI
    rw [if_neg ha]
  have x4 : ip_up X 1 1 (X 3 1) 47 4 = X 3 1 := by rw [up1, if_neg (by decide)]; exact h.ps
  generalize ip_cpI I 4 0 2 0 (X 3 1) = I1 at i2 ia
  generalize hN : (X 3 1).toNatClampNeg = n at e hn hpx i2
  have xc : ∀ c, c ≠ 1 → c ≠ 47 → ip_up (ip_up (ip_up X 1 1 (X 3 1)) 47 1 0) 47 2 (X 3 1) c = X c := fun c a1 a2 => by rw [up1, if_neg a2, up1, if_neg a2, up1, if_neg a1]
  have xm : ∀ j, j ≠ 1 → j ≠ 2 → ip_up (ip_up (ip_up X 1 1 (X 3 1)) 47 1 0) 47 2 (X 3 1) 47 j = X 47 j := fun j a1 a2 => by rw [up47, if_neg a2, up47, if_neg a1, up1, if_neg (by decide)]
  have x1 : ip_up (ip_up (ip_up X 1 1 (X 3 1)) 47 1 0) 47 2 (X 3 1) 1 1 = X 3 1 := by rw [up1, if_neg (by decide), up1, if_neg (by decide), up1, if_pos rfl, updF_ap, if_pos rfl]
  have loop : ∀ m i, i + m = n → ∀ (I2 : Nat → Nat → Int32), (∀ j, j < i → I2 49 j = I 50 j) → (∀ a, a ≠ 49 → I2 a = I1 a) → ip_WP 85 15 [some (.ref 47), some (.int (nI i))] [] (g0, fld (ip_up (ip_up (ip_up X 1 1 (X 3 1)) 47 1 0) 47 2 (X 3 1)) y, I2, J) b post px := by
    intro m
    induction m with
    | zero =>
      intro i hi I2 g1 g3
      have ei : i = n := by omega
      subst ei
      have c2 : X 3 1 ≤ nI i := by rw [← e]; exact Int32.le_refl _
      have x4' : ip_up (ip_up (ip_up X 1 1 (X 3 1)) 47 1 0) 47 2 (X 3 1) 47 4 = X 3 1 := by rw [xm 4 (by decide) (by decide)]; exact h.ps
      have x2' : ip_up (ip_up (ip_up X 1 1 (X 3 1)) 47 1 0) 47 2 (X 3 1) 47 2 = X 3 1 := by rw [up47, if_pos rfl]
      rw [s85_15]
      simp only [s85_0, s85_1, s85_2, s85_5, s85_6, s85_7, s85_10, s85_13, s85_14, s85_16, s85_17, s85_20, s85_23, s85_24, s85_27, s85_28, s85_29, s85_32, s85_33, s85_34, s85_35, s85_38, s85_41, s85_42, s85_45, f_47_0, f_47_1, u_47_1, f_47_2, u_47_2, f_47_3, f_47_4, u_47_4, f_47_5, f_47_6, u_47_6, f_47_7, u_47_7, f_47_8, u_47_8, f_47_9, u_47_9, f_47_10, u_47_10, f_47_11, f_47_12, f_47_13, f_47_14, f_47_15, f_47_16, f_47_17, f_47_18, f_47_19, f_47_20, f_47_21, f_47_22, f_47_23, u_47_23, f_47_24, f_47_25, f_47_26, f_47_27, f_47_28, f_47_29, u_47_29, f_47_30, u_47_30, f_47_31, f_47_32, f_47_33, f_47_34, f_47_35, u_47_35, f_47_36, u_47_36, f_47_37, u_47_37, f_47_38, u_47_38, o_47, x4', x2', c2, Option.toList_some, Option.toList_none, List.cons_append, List.nil_append, List.append_nil, ip_on_some, true_and, and_true, if_true, if_false, not_true_eq_false, not_false_eq_true, decide_true, true_or, or_true, or_self, Bool.false_eq_true]
      refine hk _ _ ?_
      have iA : ∀ a, a ≠ 2 → a ≠ 49 → I2 a = I a := fun a a1 a2 => by rw [g3 a a2]; exact ia a a1
      refine h.of (fun c a1 _ a47 => xc c a1 a47) (fun j a1 a2 _ => xm j a1 a2) (fun a a2 _ a49 _ => iA a a2 a49) (fun _ _ => rfl) ?_ ?_ ?_ ?_ ?_ ?_ ?_ ?_ ?_
      · rw [x1]; exact hb.a3
      · rw [x1]; exact hb.b3
      · rw [xc 3 (by decide) (by decide)]; exact hb.a3
      · rw [xc 3 (by decide) (by decide)]; exact hb.b3
      · rw [x1]; exact x2'
      · rw [x1, hN]
        intro j hj
        unfold txt
        rw [g1 j hj, g3 2 (by decide), i2 j hj]
        exact hpx j hj
      · rw [xm 4 (by decide) (by decide), xc 3 (by decide) (by decide)]; exact h.ps
      · rw [xc 3 (by decide) (by decide), iA 50 (by decide) (by decide), iA 4 (by decide) (by decide)]; exact h.px
      · rw [xc 3 (by decide) (by decide), iA 4 (by decide) (by decide)]; exact h.pf
    | succ m ih =>
      intro i hi I2 g1 g3
      have c2 : ¬ X 3 1 ≤ nI i := by rw [e]; exact nI_ge (by omega) (by omega)
      have x4' : ip_up (ip_up (ip_up X 1 1 (X 3 1)) 47 1 0) 47 2 (X 3 1) 47 4 = X 3 1 := by rw [xm 4 (by decide) (by decide)]; exact h.ps
      have d1 : ¬ nI i < 0 := nI_pos (by omega)
      have d2 : ¬ 4400 ≤ i := by omega
      have ncl := nI_clamp (show i < 2 ^ 31 by omega)
      have e50 : I2 50 i = I 50 i := by rw [g3 50 (by decide), ia 50 (by decide)]
      rw [s85_15]
      simp only [s85_0, s85_1, s85_2, s85_5, s85_6, s85_7, s85_10, s85_13, s85_14, s85_16, s85_17, s85_20, s85_23, s85_24, s85_27, s85_28, s85_29, s85_32, s85_33, s85_34, s85_35, s85_38, s85_41, s85_42, s85_45, f_47_0, f_47_1, u_47_1, f_47_2, u_47_2, f_47_3, f_47_4, u_47_4, f_47_5, f_47_6, u_47_6, f_47_7, u_47_7, f_47_8, u_47_8, f_47_9, u_47_9, f_47_10, u_47_10, f_47_11, f_47_12, f_47_13, f_47_14, f_47_15, f_47_16, f_47_17, f_47_18, f_47_19, f_47_20, f_47_21, f_47_22, f_47_23, u_47_23, f_47_24, f_47_25, f_47_26, f_47_27, f_47_28, f_47_29, u_47_29, f_47_30, u_47_30, f_47_31, f_47_32, f_47_33, f_47_34, f_47_35, u_47_35, f_47_36, u_47_36, f_47_37, u_47_37, f_47_38, u_47_38, o_47, a_49, l_49, a_50, l_50, x4', c2, ncl, d1, d2, e50, nI_1, Option.toList_some, Option.toList_none, List.cons_append, List.nil_append, List.append_nil, ip_on_some, true_and, and_true, if_true, if_false, not_true_eq_false, not_false_eq_true, decide_true, true_or, or_true, or_self, Bool.false_eq_true]
      refine ih (i + 1) (by omega) _ ?_ ?_
      · intro j hj
        rw [up1, if_pos rfl, updF_ap]
        by_cases z : j = i
        · rw [if_pos z, z]
        · rw [if_neg z]; exact g1 j (by omega)
      · intro a ha
        rw [up1, if_neg ha]
        exact g3 a ha
  have h0 := loop n 0 (Nat.zero_add n) I1 (fun j hj => absurd hj (Nat.not_lt_zero j)) (fun _ _ => rfl)
  rw [nI_0] at h0
  simp only [s85_0, s85_1, s85_2, s85_5, s85_6, s85_7, s85_10, s85_13, s85_14, s85_16, s85_17, s85_20, s85_23, s85_24, s85_27, s85_28, s85_29, s85_32, s85_33, s85_34, s85_35, s85_38, s85_41, s85_42, s85_45, f_47_0, f_47_1, u_47_1, f_47_2, u_47_2, f_47_3, f_47_4, u_47_4, f_47_5, f_47_6, u_47_6, f_47_7, u_47_7, f_47_8, u_47_8, f_47_9, u_47_9, f_47_10, u_47_10, f_47_11, f_47_12, f_47_13, f_47_14, f_47_15, f_47_16, f_47_17, f_47_18, f_47_19, f_47_20, f_47_21, f_47_22, f_47_23, u_47_23, f_47_24, f_47_25, f_47_26, f_47_27, f_47_28, f_47_29, u_47_29, f_47_30, u_47_30, f_47_31, f_47_32, f_47_33, f_47_34, f_47_35, u_47_35, f_47_36, u_47_36, f_47_37, u_47_37, f_47_38, u_47_38, o_47, up47, Nat.reduceEqDiff, x4, Option.toList_some, Option.toList_none, List.cons_append, List.nil_append, List.append_nil, ip_on_some, true_and, and_true, if_true, if_false, not_true_eq_false, not_false_eq_true, decide_true, true_or, or_true, or_self, Bool.false_eq_true]
  exact h0
end
