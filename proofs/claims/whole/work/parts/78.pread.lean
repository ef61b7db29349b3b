/-! the class reads -/
section
variable {X X' : Nat → Nat → Int32} {I I' : Nat → Nat → Int32}
theorem errs_congr (h5 : X' 5 = X 5) (h6 : X' 6 = X 6) (h12 : X' 12 = X 12) (hI : ∀ a, 15 ≤ a → a ≤ 31 → I' a = I a) : errs X' I' = errs X I := by
  have e : ∀ num, errP X' I' num = errP X I num := fun num => by
    funext i
    unfold errP prtN hasP
    rw [h12, h5, hI 17 (by decide) (by decide), hI 21 (by decide) (by decide), hI 19 (by decide) (by decide), hI 31 (by decide) (by decide), hI 23 (by decide) (by decide), hI 25 (by decide) (by decide)]
  unfold errs er1
  rw [e 2, e 3, e 4, e 5, h6, hI 21 (by decide) (by decide)]
theorem rems_congr (h5 : X' 5 = X 5) (h6 : X' 6 = X 6) (h8 : X' 8 = X 8) (h10 : X' 10 = X 10) (hI : ∀ a, 15 ≤ a → a ≤ 31 → I' a = I a) : rems X' I' = rems X I := by
  unfold rems resA idle
  rw [h5, h6, h8, h10, hI 17 (by decide) (by decide), hI 21 (by decide) (by decide), hI 23 (by decide) (by decide), hI 25 (by decide) (by decide), hI 29 (by decide) (by decide)]
end
/-- behind the class's reading -/
abbrev RC (Out : SS) (X' I' : Nat → Nat → Int32) : Prop := (∀ k, k ≠ 1 → k ≠ 37 → k ≠ 42 → X' k = Out.1 k) ∧ (X' 1 1 = 0) ∧ (FL X' I' 37 2 39 41 (errs Out.1 Out.2.2.1)) ∧ (FL X' I' 42 2 44 46 (rems Out.1 Out.2.2.1)) ∧ (∀ a, a ≠ 39 → a ≠ 41 → a ≠ 44 → a ≠ 46 → I' a = Out.2.2.1 a)
theorem RC.c {Out : SS} {X' I' : Nat → Nat → Int32} (h : RC Out X' I') : ∀ k, k ≠ 1 → k ≠ 37 → k ≠ 42 → X' k = Out.1 k := h.1
theorem RC.c1 {Out : SS} {X' I' : Nat → Nat → Int32} (h : RC Out X' I') : X' 1 1 = 0 := h.2.1
theorem RC.e {Out : SS} {X' I' : Nat → Nat → Int32} (h : RC Out X' I') : FL X' I' 37 2 39 41 (errs Out.1 Out.2.2.1) := h.2.2.1
theorem RC.r {Out : SS} {X' I' : Nat → Nat → Int32} (h : RC Out X' I') : FL X' I' 42 2 44 46 (rems Out.1 Out.2.2.1) := h.2.2.2.1
theorem RC.a {Out : SS} {X' I' : Nat → Nat → Int32} (h : RC Out X' I') : ∀ a, a ≠ 39 → a ≠ 41 → a ≠ 44 → a ≠ 46 → I' a = Out.2.2.1 a := h.2.2.2.2
section
variable {X : Nat → Nat → Int32} {y : Int64} {I : Nat → Nat → Int32} {J : Nat → Nat → Int64} {post : Option Value → ip_H → Prop} {px : String → ip_H → Prop}
theorem pk_read {N : Nat} (hb : Bd X) (hl : N ≤ 4160) (hn : X 1 1 = nI N) (hk : ∀ X' I', RC (outS N (beg X I J)) X' I' → if (outS N (beg X I J)).1 32 3 = 0 then post (some (.int ((outS N (beg X I J)).1 5 14))) (g0, fld X' (outS N (beg X I J)).2.1, I', (outS N (beg X I J)).2.2.2) else px "java/lang/IllegalArgumentException" (g0, fld X' (outS N (beg X I J)).2.1, I', (outS N (beg X I J)).2.2.2)) : ip_WP 3 0 [some (.ref 0)] [] (g0, fld X y, I, J) (1, 6) post px := by
  have hobd : Bd (outS N (beg X I J)).1 := rn_bd _ _ (Rv.beg I J hb hl hn)
  simp only [s3_0, s3_1, s3_4, s3_7, s3_8, s3_11, s3_14, s3_15, s3_18, s3_19, s3_22, s3_25, s3_26, s3_29, s3_30, s3_33, s3_36, s3_37, s3_40, s3_43, s3_46, s3_56, s3_57, s3_60, s3_63, f_0_0, f_0_1, f_0_2, f_0_3, f_0_4, f_0_5, f_0_6, f_32_0, f_32_1, f_32_2, f_32_3, u_32_3, f_32_4, u_32_4, f_32_5, u_32_5, f_32_6, u_32_6, f_32_7, u_32_7, f_32_8, u_32_8, o_0, o_32, rd_read hb hl hn, Option.toList_some, Option.toList_none, List.cons_append, List.nil_append, List.append_nil, ip_on_some, true_and, and_true, if_true, if_false, not_true_eq_false, not_false_eq_true, decide_true, true_or, or_true, or_self, Bool.false_eq_true]
  show ip_WP _ _ _ _ (hpS (outS N (beg X I J))) _ _ _
  generalize outS N (beg X I J) = Out at hk hobd
  unfold hpS
  have hbd1 : Bd (ip_up Out.1 1 1 0) := by
    and_intros <;> simp only [up1, updF_ap, Nat.reduceEqDiff, if_false, if_true, hobd.a3, hobd.b3, hobd.a6, hobd.b6, hobd.a8, hobd.b8, hobd.a10, hobd.b10, hobd.a12, hobd.b12, hobd.ap, hobd.bp] <;> decide
  simp only [s3_0, s3_1, s3_4, s3_7, s3_8, s3_11, s3_14, s3_15, s3_18, s3_19, s3_22, s3_25, s3_26, s3_29, s3_30, s3_33, s3_36, s3_37, s3_40, s3_43, s3_46, s3_56, s3_57, s3_60, s3_63, f_0_0, f_0_1, f_0_2, f_0_3, f_0_4, f_0_5, f_0_6, f_1_0, f_1_1, u_1_1, o_0, o_1, bc_1, Option.toList_some, Option.toList_none, List.cons_append, List.nil_append, List.append_nil, ip_on_some, true_and, and_true, if_true, if_false, not_true_eq_false, not_false_eq_true, decide_true, true_or, or_true, or_self, Bool.false_eq_true]
  refine ck_errors hbd1 (fun h hC => ?_)
  obtain ⟨X2, I2, rfl, hF2, hX2, hI2⟩ := hC
  have hbd2 : Bd X2 := hbd1.of (fun k hk => hX2 k (by omega))
  simp only [s3_0, s3_1, s3_4, s3_7, s3_8, s3_11, s3_14, s3_15, s3_18, s3_19, s3_22, s3_25, s3_26, s3_29, s3_30, s3_33, s3_36, s3_37, s3_40, s3_43, s3_46, s3_56, s3_57, s3_60, s3_63, f_0_0, f_0_1, f_0_2, f_0_3, f_0_4, f_0_5, f_0_6, o_0, Option.toList_some, Option.toList_none, List.cons_append, List.nil_append, List.append_nil, ip_on_some, true_and, and_true, if_true, if_false, not_true_eq_false, not_false_eq_true, decide_true, true_or, or_true, or_self, Bool.false_eq_true]
  refine ck_remarks hbd2 (fun h hC => ?_)
  obtain ⟨X3, I3, rfl, hF3, hX3, hI3⟩ := hC
  have hc : ∀ k, k ≠ 1 → k ≠ 37 → k ≠ 42 → X3 k = Out.1 k := fun k h1 h2 h3 => by rw [hX3 k h3, hX2 k h2, up1, if_neg h1]
  have hc1 : X3 1 = ip_up Out.1 1 1 0 1 := by rw [hX3 1 (by decide), hX2 1 (by decide)]
  have ha : ∀ a, a ≠ 39 → a ≠ 41 → a ≠ 44 → a ≠ 46 → I3 a = Out.2.2.1 a := fun a h1 h2 h3 h4 => by rw [hI3 a h3 h4, hI2 a h1 h2]
  have ee : errs (ip_up Out.1 1 1 0) Out.2.2.1 = errs Out.1 Out.2.2.1 := errs_congr (by rw [up1, if_neg (by decide)]) (by rw [up1, if_neg (by decide)]) (by rw [up1, if_neg (by decide)]) (fun _ _ _ => rfl)
  have er : rems X2 I2 = rems Out.1 Out.2.2.1 := rems_congr (by rw [hX2 5 (by decide), up1, if_neg (by decide)]) (by rw [hX2 6 (by decide), up1, if_neg (by decide)]) (by rw [hX2 8 (by decide), up1, if_neg (by decide)]) (by rw [hX2 10 (by decide), up1, if_neg (by decide)]) (fun a h1 h2 => hI2 a (by omega) (by omega))
  rw [ee] at hF2
  rw [er] at hF3
  have hRC : RC Out X3 I3 := by
    refine ⟨hc, by rw [hc1, up1, if_pos rfl, updF_ap, if_pos rfl], ?_, hF3, ha⟩
    exact ⟨by rw [hX3 37 (by decide)]; exact hF2.s, by rw [hI3 39 (by decide) (by decide), hI3 41 (by decide) (by decide)]; exact hF2.g⟩
  have h := hk X3 I3 hRC
  have e3 : X3 32 3 = Out.1 32 3 := by rw [hc 32 (by decide) (by decide) (by decide)]
  have e14 : X3 5 14 = Out.1 5 14 := by rw [hc 5 (by decide) (by decide) (by decide)]
  by_cases q : Out.1 32 3 = 0
  · rw [if_pos q] at h
    simp only [s3_0, s3_1, s3_4, s3_7, s3_8, s3_11, s3_14, s3_15, s3_18, s3_19, s3_22, s3_25, s3_26, s3_29, s3_30, s3_33, s3_36, s3_37, s3_40, s3_43, s3_46, s3_56, s3_57, s3_60, s3_63, f_0_0, f_0_1, f_0_2, f_0_3, f_0_4, f_0_5, f_0_6, f_5_0, f_5_1, f_5_2, f_5_3, f_5_4, f_5_5, f_5_6, f_5_7, f_5_8, f_5_9, f_5_10, f_5_11, f_5_12, f_5_13, u_5_13, f_5_14, u_5_14, f_32_0, f_32_1, f_32_2, f_32_3, u_32_3, f_32_4, u_32_4, f_32_5, u_32_5, f_32_6, u_32_6, f_32_7, u_32_7, f_32_8, u_32_8, o_0, o_5, o_32, rd_fn, co_stmts, e3, e14, q, Option.toList_some, Option.toList_none, List.cons_append, List.nil_append, List.append_nil, ip_on_some, true_and, and_true, if_true, if_false, not_true_eq_false, not_false_eq_true, decide_true, true_or, or_true, or_self, Bool.false_eq_true]
    exact h
  · rw [if_neg q] at h
    simp only [s3_0, s3_1, s3_4, s3_7, s3_8, s3_11, s3_14, s3_15, s3_18, s3_19, s3_22, s3_25, s3_26, s3_29, s3_30, s3_33, s3_36, s3_37, s3_40, s3_43, s3_46, s3_56, s3_57, s3_60, s3_63, f_0_0, f_0_1, f_0_2, f_0_3, f_0_4, f_0_5, f_0_6, f_5_0, f_5_1, f_5_2, f_5_3, f_5_4, f_5_5, f_5_6, f_5_7, f_5_8, f_5_9, f_5_10, f_5_11, f_5_12, f_5_13, u_5_13, f_5_14, u_5_14, f_32_0, f_32_1, f_32_2, f_32_3, u_32_3, f_32_4, u_32_4, f_32_5, u_32_5, f_32_6, u_32_6, f_32_7, u_32_7, f_32_8, u_32_8, o_0, o_5, o_32, rd_fn, e3, q, Nat.reduceLeDiff, Nat.le_refl, and_self, Option.toList_some, Option.toList_none, List.cons_append, List.nil_append, List.append_nil, ip_on_some, true_and, and_true, if_true, if_false, not_true_eq_false, not_false_eq_true, decide_true, true_or, or_true, or_self, Bool.false_eq_true]
    exact h
end
