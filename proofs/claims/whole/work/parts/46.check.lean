/-! CoreText$Checker: the lists of errors and remarks -/
abbrev FD : Type := List (Int32 × Int32)
/-- Findings at k, arrays a0 and a1, hold the list l -/
abbrev FL (X : Nat → Nat → Int32) (I : Nat → Nat → Int32) (k j a0 a1 : Nat) (l : FD) : Prop := (X k j = nI l.length) ∧ (∀ i q, l[i]? = some q → I a0 i = q.1 ∧ I a1 i = q.2)
theorem FL.s {X : Nat → Nat → Int32} {I : Nat → Nat → Int32} {k j a0 a1 : Nat} {l : FD} (h : FL X I k j a0 a1 l) : X k j = nI l.length := h.1
theorem FL.g {X : Nat → Nat → Int32} {I : Nat → Nat → Int32} {k j a0 a1 : Nat} {l : FD} (h : FL X I k j a0 a1 l) : ∀ i q, l[i]? = some q → I a0 i = q.1 ∧ I a1 i = q.2 := h.2
def erK (p : Nat → Bool) (num : Int32) (n : Nat) : FD := ((List.range n).filter p).map (fun i => (num, nI i))
theorem erK_succ (p : Nat → Bool) (num : Int32) (n : Nat) : erK p num (n + 1) = if p n = true then erK p num n ++ [(num, nI n)] else erK p num n := by
  unfold erK
  rw [List.range_succ, List.filter_append, List.map_append]
  cases h : p n with
  | true => simp [h]
  | false => simp [h]
theorem erK_len (p : Nat → Bool) (num : Int32) (n : Nat) : (erK p num n).length ≤ n := by
  unfold erK
  rw [List.length_map]
  exact Nat.le_trans (List.length_filter_le _ _) (by rw [List.length_range]; exact Nat.le_refl n)
theorem erK_congr {p q : Nat → Bool} {num : Int32} {n : Nat} (h : ∀ i, i < n → p i = q i) : erK p num n = erK q num n := by
  unfold erK
  rw [List.filter_congr (fun i hi => h i (List.mem_range.mp hi))]
/-- a loop that lists -/
theorem lpF {mi pc : Nat} {L : Int32 → ip_Lo} {b : ip_B} {post : Option Value → ip_H → Prop} {px : String → ip_H → Prop} {C : FD → ip_H → Prop} {p : Nat → Bool} {num : Int32} {n cap : Nat} {L0 : FD} (hb : L0.length + n ≤ cap)
    (hs : ∀ i l h, i < n → l.length < cap → C l h → (∀ h', C (if p i = true then l ++ [(num, nI i)] else l) h' → ip_WP mi pc (L (nI (i + 1))) [] h' b post px) → ip_WP mi pc (L (nI i)) [] h b post px)
    (he : ∀ h, C (L0 ++ erK p num n) h → ip_WP mi pc (L (nI n)) [] h b post px) : ∀ h, C L0 h → ip_WP mi pc (L 0) [] h b post px := by
  intro h hC
  have := lp (σ := ip_H) (P := fun i h => C (L0 ++ erK p num i) h) (W := fun i h => ip_WP mi pc (L (nI i)) [] h b post px) n (fun i h hi hP hk => by
    refine hs i _ h hi ?_ hP (fun h' hC' => hk h' ?_)
    · rw [List.length_append]
      have := erK_len p num i
      omega
    · show C (L0 ++ erK p num (i + 1)) h'
      rw [erK_succ]
      cases q : p i with
      | true => rw [q] at hC'; rw [if_pos rfl] at hC' ⊢; rw [← List.append_assoc]; exact hC'
      | false => rw [q] at hC'; rw [if_neg (by decide)] at hC' ⊢; exact hC') he 0 h (Nat.zero_le n) (by
    show C (L0 ++ erK p num 0) h
    rw [show erK p num 0 = [] from rfl, List.append_nil]
    exact hC)
  rw [← nI_0]
  exact this
/-- the class's heap while it lists -/
def CF (k a0 a1 : Nat) (X : Nat → Nat → Int32) (y : Int64) (I : Nat → Nat → Int32) (J : Nat → Nat → Int64) (l : FD) (h : ip_H) : Prop := ∃ X' I', h = (g0, fld X' y, I', J) ∧ FL X' I' k 2 a0 a1 l ∧ (∀ c, c ≠ k → X' c = X c) ∧ (∀ a, a ≠ a0 → a ≠ a1 → I' a = I a)
theorem FL.add {X : Nat → Nat → Int32} {I : Nat → Nat → Int32} {k j a0 a1 n : Nat} {l : FD} {u v : Int32} (h : FL X I k j a0 a1 l) (hl : l.length < n) (hn : n < 2 ^ 31) (ha : a0 ≠ a1) : FL (ip_up X k j (X k j + 1)) (rset (rset I a0 n (X k j) u) a1 n (X k j) v) k j a0 a1 (l ++ [(u, v)]) := by
  and_intros
  · rw [up1, if_pos rfl, updF_ap, if_pos rfl, h.s, nI_1, List.length_append]
    rfl
  · intro i q hq
    rw [h.s, rset_nI hl hn, rset_nI hl hn]
    by_cases hi : i < l.length
    · rw [List.getElem?_append_left hi] at hq
      have hne : ¬ i = l.length := by omega
      rw [up1, if_neg ha, up1, if_pos rfl, updF_ap, if_neg hne, up1, if_pos rfl, updF_ap, if_neg hne, up1, if_neg (Ne.symm ha)]
      exact h.g i q hq
    · rw [List.getElem?_append_right (by omega)] at hq
      have hi2 : i = l.length := by
        have : i - l.length = 0 := by
          rcases hz : i - l.length with _ | z
          · rfl
          · rw [hz] at hq; simp at hq
        omega
      subst hi2
      rw [Nat.sub_self] at hq
      have hq : (u, v) = q := by simpa using hq
      subst hq
      rw [up1, if_neg ha, up1, if_pos rfl, updF_ap, if_pos rfl, up1, if_pos rfl, updF_ap, if_pos rfl]
      exact ⟨rfl, rfl⟩
theorem CF.add {k a0 a1 n : Nat} {X X' : Nat → Nat → Int32} {y : Int64} {I I' : Nat → Nat → Int32} {J : Nat → Nat → Int64} {l : FD} {u v : Int32} (hF : FL X' I' k 2 a0 a1 l) (hX : ∀ c, c ≠ k → X' c = X c) (hI : ∀ a, a ≠ a0 → a ≠ a1 → I' a = I a) (hl : l.length < n) (hn : n < 2 ^ 31) (ha : a0 ≠ a1) :
    CF k a0 a1 X y I J (l ++ [(u, v)]) (g0, fld (ip_up X' k 2 (X' k 2 + 1)) y, rset (rset I' a0 n (X' k 2) u) a1 n (X' k 2) v, J) :=
  ⟨_, _, rfl, hF.add hl hn ha, fun c hc => by rw [up1, if_neg hc]; exact hX c hc, fun a h0 h1 => by rw [rset_ne h1, rset_ne h0]; exact hI a h0 h1⟩
def errP (X : Nat → Nat → Int32) (I : Nat → Nat → Int32) (num i : Nat) : Bool := match num with
  | 2 => decide (I 17 i = -1)
  | 3 => decide (prtN X I (nI i) = 0)
  | 4 => decide (¬ I 17 i = -1 ∧ ¬ I 21 3 = -1 ∧ I 17 i < I 21 3)
  | _ => decide (¬ I 17 i = -1 ∧ I 19 i = 0 ∧ ¬ I 21 2 = -1 ∧ ¬ I 21 3 = -1 ∧ hasP I ((X 5 13).toNatClampNeg) (I 17 i) (I 21 3) = false)
def er1 (I : Nat → Nat → Int32) : FD := (([0, 2, 3, 6] : List Nat).filter (fun t => decide (I 21 t = -1))).map (fun t => ((1 : Int32), nI t))
def errs (X : Nat → Nat → Int32) (I : Nat → Nat → Int32) : FD := er1 I ++ erK (errP X I 2) 2 ((X 6 1).toNatClampNeg) ++ erK (errP X I 3) 3 ((X 6 1).toNatClampNeg) ++ erK (errP X I 4) 4 ((X 6 1).toNatClampNeg) ++ erK (errP X I 5) 5 ((X 6 1).toNatClampNeg)
def rems (X : Nat → Nat → Int32) (I : Nat → Nat → Int32) : FD := erK (fun i => decide (I 29 i = -1)) 1 ((X 10 1).toNatClampNeg) ++ erK (fun i => !resA X I (I 23 i)) 2 ((X 5 13).toNatClampNeg) ++ erK (fun i => idle X I (nI i)) 3 ((X 8 1).toNatClampNeg) ++ erK (fun i => decide (I 23 i < I 25 i)) 4 ((X 5 13).toNatClampNeg)
theorem errP_congr {X X' : Nat → Nat → Int32} {I I' : Nat → Nat → Int32} (hX : ∀ c, c ≠ 37 → X' c = X c) (hI : ∀ a, a ≠ 39 → a ≠ 41 → I' a = I a) (num i : Nat) : errP X' I' num i = errP X I num i := by
  unfold errP prtN hasP
  rw [hX 12 (by decide), hX 5 (by decide), hI 17 (by decide) (by decide), hI 21 (by decide) (by decide), hI 19 (by decide) (by decide), hI 31 (by decide) (by decide), hI 23 (by decide) (by decide), hI 25 (by decide) (by decide)]
section
variable {X : Nat → Nat → Int32} {y : Int64} {I : Nat → Nat → Int32} {J : Nat → Nat → Int64} {b : ip_B} {post : Option Value → ip_H → Prop} {px : String → ip_H → Prop}
theorem ck_err (hb : Bd X) {num i : Nat} (hi : i < 12) (h2 : 2 ≤ num) (h5 : num ≤ 5) : ip_WP 98 0 [some (.ref 5), some (.int (nI num)), some (.int (nI i))] [] (g0, fld X y, I, J) b post px ↔ post (some (.int (bI (errP X I num i = true)))) (g0, fld X y, I, J) := by
  have e17 : rget (I 17) 12 (-1) (nI i) = I 17 i := rget_nI hi (by decide)
  have e19 : rget (I 19) 12 0 (nI i) = I 19 i := rget_nI hi (by decide)
  have e212 : rget (I 21) 7 (-1) 2 = I 21 2 := rget_nI (i := 2) (by decide) (by decide)
  have e213 : rget (I 21) 7 (-1) 3 = I 21 3 := rget_nI (i := 3) (by decide) (by decide)
  have hp : ∀ k : Nat, (nI (prtN X I (nI i)) = 0) = (prtN X I (nI i) = 0) := fun _ => by
    have : prtN X I (nI i) ≤ (X 12 1).toNatClampNeg := cntF_le
    have := cn_le (n := 8) hb.a12 hb.b12 (by decide)
    rw [← nI_0]
    exact propext (nI_eq (by omega) (by decide))
  have hp := hp 0
  have hcase : num = 2 ∨ num = 3 ∨ num = 4 ∨ num = 5 := by omega
  have n2 : nI 2 = 2 := rfl
  have n3 : nI 3 = 3 := rfl
  have n4 : nI 4 = 4 := rfl
  have n5 : nI 5 = 5 := rfl
  rcases hcase with rfl | rfl | rfl | rfl
  · simp only [s98_0, s98_1, s98_28, s98_29, s98_32, s98_33, s98_36, s98_37, s98_40, s98_41, s98_44, s98_45, s98_46, s98_47, s98_48, s98_51, s98_54, s98_55, s98_58, s98_59, s98_60, s98_61, s98_62, s98_65, s98_66, s98_67, s98_68, s98_71, f_5_0, f_5_1, f_5_2, f_5_3, f_5_4, f_5_5, f_5_6, f_5_7, f_5_8, f_5_9, f_5_10, f_5_11, f_5_12, f_5_13, u_5_13, f_5_14, u_5_14, f_16_0, f_16_1, o_5, o_16, n2, rg_16, e17, Option.toList_some, Option.toList_none, List.cons_append, List.nil_append, List.append_nil, ip_on_some, true_and, and_true, if_true, if_false, not_true_eq_false, not_false_eq_true, decide_true, true_or, or_true, or_self, Bool.false_eq_true]
    by_cases q : I 17 i = -1
    · simp [q, errP, bI]
    · simp [q, errP, bI]
  · simp only [s98_0, s98_1, s98_28, s98_29, s98_32, s98_33, s98_36, s98_37, s98_40, s98_41, s98_44, s98_45, s98_46, s98_47, s98_48, s98_51, s98_54, s98_55, s98_58, s98_59, s98_60, s98_61, s98_62, s98_65, s98_66, s98_67, s98_68, s98_71, f_5_0, f_5_1, f_5_2, f_5_3, f_5_4, f_5_5, f_5_6, f_5_7, f_5_8, f_5_9, f_5_10, f_5_11, f_5_12, f_5_13, u_5_13, f_5_14, u_5_14, f_16_0, f_16_1, o_5, o_16, n3, co_ports hb.a12 hb.b12, hp, Option.toList_some, Option.toList_none, List.cons_append, List.nil_append, List.append_nil, ip_on_some, true_and, and_true, if_true, if_false, not_true_eq_false, not_false_eq_true, decide_true, true_or, or_true, or_self, Bool.false_eq_true, qe_m1_0, qe_m1_1, qe_m1_2, qe_m1_3, qe_m1_4, qe_m1_5, qe_m1_6, qe_m1_7, qe_m1_8, qe_0_m1, qe_0_1, qe_0_2, qe_0_3, qe_0_4, qe_0_5, qe_0_6, qe_0_7, qe_0_8, qe_1_m1, qe_1_0, qe_1_2, qe_1_3, qe_1_4, qe_1_5, qe_1_6, qe_1_7, qe_1_8, qe_2_m1, qe_2_0, qe_2_1, qe_2_3, qe_2_4, qe_2_5, qe_2_6, qe_2_7, qe_2_8, qe_3_m1, qe_3_0, qe_3_1, qe_3_2, qe_3_4, qe_3_5, qe_3_6, qe_3_7, qe_3_8, qe_4_m1, qe_4_0, qe_4_1, qe_4_2, qe_4_3, qe_4_5, qe_4_6, qe_4_7, qe_4_8, qe_5_m1, qe_5_0, qe_5_1, qe_5_2, qe_5_3, qe_5_4, qe_5_6, qe_5_7, qe_5_8, qe_6_m1, qe_6_0, qe_6_1, qe_6_2, qe_6_3, qe_6_4, qe_6_5, qe_6_7, qe_6_8, qe_7_m1, qe_7_0, qe_7_1, qe_7_2, qe_7_3, qe_7_4, qe_7_5, qe_7_6, qe_7_8, qe_8_m1, qe_8_0, qe_8_1, qe_8_2, qe_8_3, qe_8_4, qe_8_5, qe_8_6, qe_8_7]
    by_cases q : prtN X I (nI i) = 0
    · simp [q, errP, bI]
    · simp [q, errP, bI]
  · simp only [s98_0, s98_1, s98_28, s98_29, s98_32, s98_33, s98_36, s98_37, s98_40, s98_41, s98_44, s98_45, s98_46, s98_47, s98_48, s98_51, s98_54, s98_55, s98_58, s98_59, s98_60, s98_61, s98_62, s98_65, s98_66, s98_67, s98_68, s98_71, s99_0, s99_1, s99_4, s99_5, s99_8, s99_9, s99_10, s99_13, s99_14, s99_17, s99_18, s99_19, s99_20, s99_23, s99_24, s99_25, s99_28, s99_29, s99_30, s99_33, s99_34, s99_37, s99_38, f_5_0, f_5_1, f_5_2, f_5_3, f_5_4, f_5_5, f_5_6, f_5_7, f_5_8, f_5_9, f_5_10, f_5_11, f_5_12, f_5_13, u_5_13, f_5_14, u_5_14, f_16_0, f_16_1, f_20_0, f_20_1, o_5, o_16, o_20, n4, rg_16, rg_20, e17, e213, Option.toList_some, Option.toList_none, List.cons_append, List.nil_append, List.append_nil, ip_on_some, true_and, and_true, if_true, if_false, not_true_eq_false, not_false_eq_true, decide_true, true_or, or_true, or_self, Bool.false_eq_true, qe_m1_0, qe_m1_1, qe_m1_2, qe_m1_3, qe_m1_4, qe_m1_5, qe_m1_6, qe_m1_7, qe_m1_8, qe_0_m1, qe_0_1, qe_0_2, qe_0_3, qe_0_4, qe_0_5, qe_0_6, qe_0_7, qe_0_8, qe_1_m1, qe_1_0, qe_1_2, qe_1_3, qe_1_4, qe_1_5, qe_1_6, qe_1_7, qe_1_8, qe_2_m1, qe_2_0, qe_2_1, qe_2_3, qe_2_4, qe_2_5, qe_2_6, qe_2_7, qe_2_8, qe_3_m1, qe_3_0, qe_3_1, qe_3_2, qe_3_4, qe_3_5, qe_3_6, qe_3_7, qe_3_8, qe_4_m1, qe_4_0, qe_4_1, qe_4_2, qe_4_3, qe_4_5, qe_4_6, qe_4_7, qe_4_8, qe_5_m1, qe_5_0, qe_5_1, qe_5_2, qe_5_3, qe_5_4, qe_5_6, qe_5_7, qe_5_8, qe_6_m1, qe_6_0, qe_6_1, qe_6_2, qe_6_3, qe_6_4, qe_6_5, qe_6_7, qe_6_8, qe_7_m1, qe_7_0, qe_7_1, qe_7_2, qe_7_3, qe_7_4, qe_7_5, qe_7_6, qe_7_8, qe_8_m1, qe_8_0, qe_8_1, qe_8_2, qe_8_3, qe_8_4, qe_8_5, qe_8_6, qe_8_7]
    by_cases q1 : I 17 i = -1
    · simp [q1, errP, bI]
    · by_cases q2 : I 21 3 = -1
      · simp [q1, q2, errP, bI]
      · by_cases q3 : I 17 i < I 21 3
        · have q4 : ¬ I 21 3 ≤ I 17 i := Int32.not_le.mpr q3
          simp [q1, q2, q3, q4, errP, bI]
        · have q4 : I 21 3 ≤ I 17 i := Int32.not_lt.mp q3
          simp [q1, q2, q3, q4, errP, bI]
  · simp only [s98_0, s98_1, s98_28, s98_29, s98_32, s98_33, s98_36, s98_37, s98_40, s98_41, s98_44, s98_45, s98_46, s98_47, s98_48, s98_51, s98_54, s98_55, s98_58, s98_59, s98_60, s98_61, s98_62, s98_65, s98_66, s98_67, s98_68, s98_71, s100_0, s100_1, s100_4, s100_5, s100_8, s100_9, s100_10, s100_13, s100_14, s100_17, s100_18, s100_19, s100_22, s100_23, s100_26, s100_28, s100_29, s100_30, s100_33, s100_34, s100_35, s100_38, s100_41, s100_42, s100_43, s100_46, s100_48, s100_49, s100_52, s100_53, s100_54, s100_56, s100_59, s100_62, s100_63, s100_66, s100_67, f_5_0, f_5_1, f_5_2, f_5_3, f_5_4, f_5_5, f_5_6, f_5_7, f_5_8, f_5_9, f_5_10, f_5_11, f_5_12, f_5_13, u_5_13, f_5_14, u_5_14, f_16_0, f_16_1, f_20_0, f_20_1, o_5, o_16, o_20, n5, rg_16, rg_20, e17, e212, e213, co_stall, e19, co_hasP hb.ap hb.bp, bI_0, Option.toList_some, Option.toList_none, List.cons_append, List.nil_append, List.append_nil, ip_on_some, true_and, and_true, if_true, if_false, not_true_eq_false, not_false_eq_true, decide_true, true_or, or_true, or_self, Bool.false_eq_true, qe_m1_0, qe_m1_1, qe_m1_2, qe_m1_3, qe_m1_4, qe_m1_5, qe_m1_6, qe_m1_7, qe_m1_8, qe_0_m1, qe_0_1, qe_0_2, qe_0_3, qe_0_4, qe_0_5, qe_0_6, qe_0_7, qe_0_8, qe_1_m1, qe_1_0, qe_1_2, qe_1_3, qe_1_4, qe_1_5, qe_1_6, qe_1_7, qe_1_8, qe_2_m1, qe_2_0, qe_2_1, qe_2_3, qe_2_4, qe_2_5, qe_2_6, qe_2_7, qe_2_8, qe_3_m1, qe_3_0, qe_3_1, qe_3_2, qe_3_4, qe_3_5, qe_3_6, qe_3_7, qe_3_8, qe_4_m1, qe_4_0, qe_4_1, qe_4_2, qe_4_3, qe_4_5, qe_4_6, qe_4_7, qe_4_8, qe_5_m1, qe_5_0, qe_5_1, qe_5_2, qe_5_3, qe_5_4, qe_5_6, qe_5_7, qe_5_8, qe_6_m1, qe_6_0, qe_6_1, qe_6_2, qe_6_3, qe_6_4, qe_6_5, qe_6_7, qe_6_8, qe_7_m1, qe_7_0, qe_7_1, qe_7_2, qe_7_3, qe_7_4, qe_7_5, qe_7_6, qe_7_8, qe_8_m1, qe_8_0, qe_8_1, qe_8_2, qe_8_3, qe_8_4, qe_8_5, qe_8_6, qe_8_7]
    by_cases q1 : I 17 i = -1
    · simp [q1, errP, bI]
    · by_cases q2 : I 19 i = 0
      · by_cases q3 : I 21 2 = -1
        · simp [q1, q2, q3, errP, bI]
        · by_cases q4 : I 21 3 = -1
          · simp [q1, q2, q3, q4, errP, bI]
          · cases q5 : hasP I ((X 5 13).toNatClampNeg) (I 17 i) (I 21 3) with
            | true => simp [q1, q2, q3, q4, q5, errP, bI]
            | false => simp [q1, q2, q3, q4, q5, errP, bI]
      · simp [q1, q2, errP, bI]
theorem ck_inner (hb : Bd X) {num : Nat} (h2 : 2 ≤ num) (h5 : num ≤ 5) {L0 : FD} (hl : L0.length + 12 ≤ 52) (hk : ∀ h, CF 37 39 41 X y I J (L0 ++ erK (errP X I num) (nI num) ((X 6 1).toNatClampNeg)) h → ip_WP 96 70 [some (.ref 5), some (.ref 37), some (.int (nI num)), some (.int (nI ((X 6 1).toNatClampNeg)))] [] h b post px) :
    ∀ h, CF 37 39 41 X y I J L0 h → ip_WP 96 38 [some (.ref 5), some (.ref 37), some (.int (nI num)), some (.int 0)] [] h b post px := by
  have e := cn_eq hb.a6
  have hn := cn_le (n := 12) hb.a6 hb.b6 (by decide)
  refine lpF (L := fun x => [some (.ref 5), some (.ref 37), some (.int (nI num)), some (.int x)]) (C := CF 37 39 41 X y I J) (p := errP X I num) (num := nI num) (n := (X 6 1).toNatClampNeg) (cap := 52) (by omega) ?_ ?_
  · rintro i l h hi hc ⟨X', I', rfl, hF, hX, hI⟩ hk2
    have c1 : ¬ X 6 1 ≤ nI i := by rw [e]; exact nI_ge hi (by omega)
    have hb' : Bd X' := hb.of (fun k hk => hX k (by omega))
    have e6 : X' 6 1 = X 6 1 := by rw [hX 6 (by decide)]
    rw [s96_38]
    simp only [s96_0, s96_1, s96_4, s96_5, s96_6, s96_7, s96_10, s96_11, s96_12, s96_13, s96_16, s96_17, s96_18, s96_19, s96_22, s96_23, s96_24, s96_26, s96_29, s96_30, s96_32, s96_33, s96_36, s96_37, s96_39, s96_40, s96_43, s96_46, s96_49, s96_50, s96_51, s96_52, s96_55, s96_58, s96_59, s96_60, s96_61, s96_64, s96_67, s96_70, s96_73, s96_76, f_5_0, f_5_1, f_5_2, f_5_3, f_5_4, f_5_5, f_5_6, f_5_7, f_5_8, f_5_9, f_5_10, f_5_11, f_5_12, f_5_13, u_5_13, f_5_14, u_5_14, f_6_0, f_6_1, u_6_1, f_37_0, f_37_1, f_37_2, u_37_2, o_5, o_6, o_37, ns_6, e6, c1, ck_err hb' (show i < 12 by omega) h2 h5, errP_congr hX hI, fa_37, bI_0, nI_1, Option.toList_some, Option.toList_none, List.cons_append, List.nil_append, List.append_nil, ip_on_some, true_and, and_true, if_true, if_false, not_true_eq_false, not_false_eq_true, decide_true, true_or, or_true, or_self, Bool.false_eq_true]
    cases q : errP X I num i with
    | true =>
      rw [q] at hk2
      simp only [Option.toList_some, Option.toList_none, List.cons_append, List.nil_append, List.append_nil, ip_on_some, true_and, and_true, if_true, if_false, not_true_eq_false, not_false_eq_true, decide_true, true_or, or_true, or_self, Bool.false_eq_true]
      exact hk2 _ (by rw [if_pos rfl]; exact CF.add hF hX hI hc (by decide) (by decide))
    | false =>
      rw [q] at hk2
      simp only [Bool.false_eq_true, Option.toList_some, Option.toList_none, List.cons_append, List.nil_append, List.append_nil, ip_on_some, true_and, and_true, if_true, if_false, not_true_eq_false, not_false_eq_true, decide_true, true_or, or_true, or_self, Bool.false_eq_true]
      exact hk2 _ (by rw [if_neg (by decide)]; exact ⟨X', I', rfl, hF, hX, hI⟩)
  · rintro h ⟨X', I', rfl, hF, hX, hI⟩
    have c1 : X 6 1 ≤ nI ((X 6 1).toNatClampNeg) := by rw [← e]; exact Int32.le_refl _
    have e6 : X' 6 1 = X 6 1 := by rw [hX 6 (by decide)]
    show ip_WP _ _ _ _ _ _ _ _
    rw [s96_38]
    simp only [s96_0, s96_1, s96_4, s96_5, s96_6, s96_7, s96_10, s96_11, s96_12, s96_13, s96_16, s96_17, s96_18, s96_19, s96_22, s96_23, s96_24, s96_26, s96_29, s96_30, s96_32, s96_33, s96_36, s96_37, s96_39, s96_40, s96_43, s96_46, s96_49, s96_50, s96_51, s96_52, s96_55, s96_58, s96_59, s96_60, s96_61, s96_64, s96_67, s96_73, s96_76, f_5_0, f_5_1, f_5_2, f_5_3, f_5_4, f_5_5, f_5_6, f_5_7, f_5_8, f_5_9, f_5_10, f_5_11, f_5_12, f_5_13, u_5_13, f_5_14, u_5_14, f_6_0, f_6_1, u_6_1, f_37_0, f_37_1, f_37_2, u_37_2, o_5, o_6, o_37, ns_6, e6, c1, Option.toList_some, Option.toList_none, List.cons_append, List.nil_append, List.append_nil, ip_on_some, true_and, and_true, if_true, if_false, not_true_eq_false, not_false_eq_true, decide_true, true_or, or_true, or_self, Bool.false_eq_true]
    exact hk _ ⟨X', I', rfl, hF, hX, hI⟩
theorem ck_want {t : Nat} (ht : t < 7) {l : FD} (hl : l.length < 52) (hk : ∀ h, CF 37 39 41 X y I J (if I 21 t = -1 then l ++ [(1, nI t)] else l) h → post none h) : ∀ h, CF 37 39 41 X y I J l h → ip_WP 97 0 [some (.ref 5), some (.ref 37), some (.int (nI t))] [] h b post px := by
  rintro h ⟨X', I', rfl, hF, hX, hI⟩
  have e21 : rget (I' 21) 7 (-1) (nI t) = I 21 t := by rw [hI 21 (by decide) (by decide)]; exact rget_nI ht (by decide)
  simp only [s97_0, s97_1, s97_4, s97_5, s97_8, s97_9, s97_12, s97_13, s97_14, s97_15, s97_18, f_5_0, f_5_1, f_5_2, f_5_3, f_5_4, f_5_5, f_5_6, f_5_7, f_5_8, f_5_9, f_5_10, f_5_11, f_5_12, f_5_13, u_5_13, f_5_14, u_5_14, f_20_0, f_20_1, f_37_0, f_37_1, f_37_2, u_37_2, o_5, o_20, o_37, rg_20, e21, fa_37, Option.toList_some, Option.toList_none, List.cons_append, List.nil_append, List.append_nil, ip_on_some, true_and, and_true, if_true, if_false, not_true_eq_false, not_false_eq_true, decide_true, true_or, or_true, or_self, Bool.false_eq_true]
  by_cases q : I 21 t = -1
  · rw [if_pos q] at hk
    simp only [q, Option.toList_some, Option.toList_none, List.cons_append, List.nil_append, List.append_nil, ip_on_some, true_and, and_true, if_true, if_false, not_true_eq_false, not_false_eq_true, decide_true, true_or, or_true, or_self, Bool.false_eq_true]
    exact hk _ (CF.add hF hX hI hl (by decide) (by decide))
  · rw [if_neg q] at hk
    simp only [q, Option.toList_some, Option.toList_none, List.cons_append, List.nil_append, List.append_nil, ip_on_some, true_and, and_true, if_true, if_false, not_true_eq_false, not_false_eq_true, decide_true, true_or, or_true, or_self, Bool.false_eq_true]
    exact hk _ ⟨X', I', rfl, hF, hX, hI⟩
theorem er1_eq (I : Nat → Nat → Int32) : (let l1 : FD := if I 21 0 = -1 then [] ++ [(1, nI 0)] else []
    let l2 : FD := if I 21 2 = -1 then l1 ++ [(1, nI 2)] else l1
    let l3 : FD := if I 21 3 = -1 then l2 ++ [(1, nI 3)] else l2
    if I 21 6 = -1 then l3 ++ [(1, nI 6)] else l3) = er1 I := by
  unfold er1
  by_cases h0 : I 21 0 = -1 <;> by_cases h2 : I 21 2 = -1 <;> by_cases h3 : I 21 3 = -1 <;> by_cases h6 : I 21 6 = -1 <;> simp [h0, h2, h3, h6]
theorem er1_len (I : Nat → Nat → Int32) : (er1 I).length ≤ 4 := by
  unfold er1
  rw [List.length_map]
  exact List.length_filter_le _ _
theorem ck_errors (hb : Bd X) (hk : ∀ h, CF 37 39 41 X y I J (errs X I) h → post none h) : ip_WP 96 0 [some (.ref 5), some (.ref 37), none, none] [] (g0, fld X y, I, J) b post px := by
  have hn := cn_le (n := 12) hb.a6 hb.b6 (by decide)
  have l2 := erK_len (errP X I 2) 2 ((X 6 1).toNatClampNeg)
  have l3 := erK_len (errP X I 3) 3 ((X 6 1).toNatClampNeg)
  have l4 := erK_len (errP X I 4) 4 ((X 6 1).toNatClampNeg)
  have l1 := er1_len I
  have h5 : ∀ h, CF 37 39 41 X y I J (er1 I ++ erK (errP X I 2) 2 ((X 6 1).toNatClampNeg) ++ erK (errP X I 3) 3 ((X 6 1).toNatClampNeg) ++ erK (errP X I 4) 4 ((X 6 1).toNatClampNeg)) h → ip_WP 96 38 [some (.ref 5), some (.ref 37), some (.int (nI 5)), some (.int 0)] [] h b post px :=
    ck_inner hb (by decide) (by decide) (by simp only [List.length_append]; omega) (by
      rintro h hC
      obtain ⟨X', I', rfl, _, _, _⟩ := id hC
      simp only [s96_0, s96_1, s96_4, s96_5, s96_6, s96_7, s96_10, s96_11, s96_12, s96_13, s96_16, s96_17, s96_18, s96_19, s96_22, s96_23, s96_24, s96_26, s96_29, s96_30, s96_31, s96_32, s96_33, s96_36, s96_37, s96_39, s96_40, s96_43, s96_46, s96_49, s96_50, s96_51, s96_52, s96_55, s96_58, s96_59, s96_60, s96_61, s96_64, s96_67, s96_70, s96_73, s96_76, show nI 5 = 5 from rfl, Option.toList_some, Option.toList_none, List.cons_append, List.nil_append, List.append_nil, ip_on_some, true_and, and_true, if_true, if_false, not_true_eq_false, not_false_eq_true, decide_true, true_or, or_true, or_self, Bool.false_eq_true]
      exact hk _ hC)
  have h4 : ∀ h, CF 37 39 41 X y I J (er1 I ++ erK (errP X I 2) 2 ((X 6 1).toNatClampNeg) ++ erK (errP X I 3) 3 ((X 6 1).toNatClampNeg)) h → ip_WP 96 38 [some (.ref 5), some (.ref 37), some (.int (nI 4)), some (.int 0)] [] h b post px :=
    ck_inner hb (by decide) (by decide) (by simp only [List.length_append]; omega) (by
      rintro h hC
      obtain ⟨X', I', rfl, _, _, _⟩ := id hC
      simp only [s96_0, s96_1, s96_4, s96_5, s96_6, s96_7, s96_10, s96_11, s96_12, s96_13, s96_16, s96_17, s96_18, s96_19, s96_22, s96_23, s96_24, s96_26, s96_29, s96_30, s96_31, s96_32, s96_33, s96_36, s96_37, s96_39, s96_40, s96_43, s96_46, s96_49, s96_50, s96_51, s96_52, s96_55, s96_58, s96_59, s96_60, s96_61, s96_64, s96_67, s96_70, s96_73, s96_76, show nI 4 = 4 from rfl, Option.toList_some, Option.toList_none, List.cons_append, List.nil_append, List.append_nil, ip_on_some, true_and, and_true, if_true, if_false, not_true_eq_false, not_false_eq_true, decide_true, true_or, or_true, or_self, Bool.false_eq_true]
      exact h5 _ hC)
  have h3 : ∀ h, CF 37 39 41 X y I J (er1 I ++ erK (errP X I 2) 2 ((X 6 1).toNatClampNeg)) h → ip_WP 96 38 [some (.ref 5), some (.ref 37), some (.int (nI 3)), some (.int 0)] [] h b post px :=
    ck_inner hb (by decide) (by decide) (by simp only [List.length_append]; omega) (by
      rintro h hC
      obtain ⟨X', I', rfl, _, _, _⟩ := id hC
      simp only [s96_0, s96_1, s96_4, s96_5, s96_6, s96_7, s96_10, s96_11, s96_12, s96_13, s96_16, s96_17, s96_18, s96_19, s96_22, s96_23, s96_24, s96_26, s96_29, s96_30, s96_31, s96_32, s96_33, s96_36, s96_37, s96_39, s96_40, s96_43, s96_46, s96_49, s96_50, s96_51, s96_52, s96_55, s96_58, s96_59, s96_60, s96_61, s96_64, s96_67, s96_70, s96_73, s96_76, show nI 3 = 3 from rfl, Option.toList_some, Option.toList_none, List.cons_append, List.nil_append, List.append_nil, ip_on_some, true_and, and_true, if_true, if_false, not_true_eq_false, not_false_eq_true, decide_true, true_or, or_true, or_self, Bool.false_eq_true]
      exact h4 _ hC)
  have h2 : ∀ h, CF 37 39 41 X y I J (er1 I) h → ip_WP 96 38 [some (.ref 5), some (.ref 37), some (.int (nI 2)), some (.int 0)] [] h b post px :=
    ck_inner hb (by decide) (by decide) (by omega) (by
      rintro h hC
      obtain ⟨X', I', rfl, _, _, _⟩ := id hC
      simp only [s96_0, s96_1, s96_4, s96_5, s96_6, s96_7, s96_10, s96_11, s96_12, s96_13, s96_16, s96_17, s96_18, s96_19, s96_22, s96_23, s96_24, s96_26, s96_29, s96_30, s96_31, s96_32, s96_33, s96_36, s96_37, s96_39, s96_40, s96_43, s96_46, s96_49, s96_50, s96_51, s96_52, s96_55, s96_58, s96_59, s96_60, s96_61, s96_64, s96_67, s96_70, s96_73, s96_76, show nI 2 = 2 from rfl, Option.toList_some, Option.toList_none, List.cons_append, List.nil_append, List.append_nil, ip_on_some, true_and, and_true, if_true, if_false, not_true_eq_false, not_false_eq_true, decide_true, true_or, or_true, or_self, Bool.false_eq_true]
      exact h3 _ hC)
  have hC0 : CF 37 39 41 X y I J [] (g0, fld (ip_up X 37 2 0) y, I, J) := ⟨_, _, rfl, ⟨by simp [up1, updF_ap, nI_0], fun i q hq => by simp at hq⟩, fun c hc => by rw [up1, if_neg hc], fun _ _ _ => rfl⟩
  simp only [s96_0, s96_1, f_37_0, f_37_1, f_37_2, u_37_2, o_37, fc_37, s96_4, s96_5, s96_6, s96_7, Option.toList_some, Option.toList_none, List.cons_append, List.nil_append, List.append_nil, ip_on_some, true_and, and_true, if_true, if_false, not_true_eq_false, not_false_eq_true, decide_true, true_or, or_true, or_self, Bool.false_eq_true]
  refine ck_want (t := 0) (by decide) (by decide) (fun h hC => ?_) _ hC0
  generalize hL1 : (if I 21 0 = -1 then ([] : FD) ++ [(1, nI 0)] else []) = L1 at hC
  have hl1 : L1.length ≤ 1 := by rw [← hL1]; split <;> simp
  obtain ⟨X1, I1, rfl, _, _, _⟩ := id hC
  simp only [s96_10, s96_11, s96_12, s96_13, Option.toList_some, Option.toList_none, List.cons_append, List.nil_append, List.append_nil, ip_on_some, true_and, and_true, if_true, if_false, not_true_eq_false, not_false_eq_true, decide_true, true_or, or_true, or_self, Bool.false_eq_true]
  refine ck_want (t := 2) (by decide) (by omega) (fun h hC => ?_) _ hC
  generalize hL2 : (if I 21 2 = -1 then L1 ++ [(1, nI 2)] else L1) = L2 at hC
  have hl2 : L2.length ≤ 2 := by rw [← hL2]; split <;> (try simp only [List.length_append, List.length_cons, List.length_nil]) <;> omega
  obtain ⟨X2, I2, rfl, _, _, _⟩ := id hC
  simp only [s96_16, s96_17, s96_18, s96_19, Option.toList_some, Option.toList_none, List.cons_append, List.nil_append, List.append_nil, ip_on_some, true_and, and_true, if_true, if_false, not_true_eq_false, not_false_eq_true, decide_true, true_or, or_true, or_self, Bool.false_eq_true]
  refine ck_want (t := 3) (by decide) (by omega) (fun h hC => ?_) _ hC
  generalize hL3 : (if I 21 3 = -1 then L2 ++ [(1, nI 3)] else L2) = L3 at hC
  have hl3 : L3.length ≤ 3 := by rw [← hL3]; split <;> (try simp only [List.length_append, List.length_cons, List.length_nil]) <;> omega
  obtain ⟨X3, I3, rfl, _, _, _⟩ := id hC
  simp only [s96_22, s96_23, s96_24, s96_26, Option.toList_some, Option.toList_none, List.cons_append, List.nil_append, List.append_nil, ip_on_some, true_and, and_true, if_true, if_false, not_true_eq_false, not_false_eq_true, decide_true, true_or, or_true, or_self, Bool.false_eq_true]
  refine ck_want (t := 6) (by decide) (by omega) (fun h hC => ?_) _ hC
  have hE : (if I 21 6 = -1 then L3 ++ [(1, nI 6)] else L3) = er1 I := by
    rw [← hL3, ← hL2, ← hL1]
    exact er1_eq I
  rw [hE] at hC
  obtain ⟨X4, I4, rfl, _, _, _⟩ := id hC
  simp only [s96_29, s96_30, s96_31, s96_32, s96_33, s96_36, s96_37, Option.toList_some, Option.toList_none, List.cons_append, List.nil_append, List.append_nil, ip_on_some, true_and, and_true, if_true, if_false, not_true_eq_false, not_false_eq_true, decide_true, true_or, or_true, or_self, Bool.false_eq_true]
  exact h2 _ hC
theorem ck_remarks (hb : Bd X) (hk : ∀ h, CF 42 44 46 X y I J (rems X I) h → post none h) : ip_WP 101 0 [some (.ref 5), some (.ref 42), none] [] (g0, fld X y, I, J) b post px := by
  have hnq := cn_le (n := 8) hb.a10 hb.b10 (by decide)
  have hns := cn_le (n := 12) hb.a8 hb.b8 (by decide)
  have hnc := cn_le (n := 12) hb.a6 hb.b6 (by decide)
  have hnp := cn_le (n := 24) hb.ap hb.bp (by decide)
  have eq := cn_eq hb.a10
  have es := cn_eq hb.a8
  have ep := cn_eq hb.ap
  have l1 := erK_len (fun i => decide (I 29 i = -1)) 1 ((X 10 1).toNatClampNeg)
  have l2 := erK_len (fun i => !resA X I (I 23 i)) 2 ((X 5 13).toNatClampNeg)
  have l3 := erK_len (fun i => idle X I (nI i)) 3 ((X 8 1).toNatClampNeg)
  have h4 : ∀ h, CF 42 44 46 X y I J (erK (fun i => decide (I 29 i = -1)) 1 ((X 10 1).toNatClampNeg) ++ erK (fun i => !resA X I (I 23 i)) 2 ((X 5 13).toNatClampNeg) ++ erK (fun i => idle X I (nI i)) 3 ((X 8 1).toNatClampNeg)) h → ip_WP 101 113 [some (.ref 5), some (.ref 42), some (.int 0)] [] h b post px := by
    refine lpF (L := fun x => [some (.ref 5), some (.ref 42), some (.int x)]) (C := CF 42 44 46 X y I J) (p := fun i => decide (I 23 i < I 25 i)) (num := 4) (n := (X 5 13).toNatClampNeg) (cap := 68) (by simp only [List.length_append]; omega) ?_ ?_
    · rintro i l h hi hc ⟨X', I', rfl, hF, hX, hI⟩ hk2
      have c1 : ¬ X 5 13 ≤ nI i := by rw [ep]; exact nI_ge hi (by omega)
      have e5 : X' 5 13 = X 5 13 := by rw [hX 5 (by decide)]
      have e23 : rget (I' 23) 24 (-1) (nI i) = I 23 i := by rw [hI 23 (by decide) (by decide)]; exact rget_nI (by omega) (by decide)
      have e25 : rget (I' 25) 24 (-1) (nI i) = I 25 i := by rw [hI 25 (by decide) (by decide)]; exact rget_nI (by omega) (by decide)
      rw [s101_113]
      simp only [s101_0, s101_1, s101_4, s101_5, s101_7, s101_8, s101_11, s101_14, s101_17, s101_18, s101_21, s101_22, s101_25, s101_26, s101_29, s101_30, s101_31, s101_32, s101_35, s101_38, s101_41, s101_42, s101_44, s101_45, s101_48, s101_51, s101_52, s101_53, s101_56, s101_57, s101_60, s101_63, s101_66, s101_67, s101_68, s101_69, s101_72, s101_75, s101_78, s101_79, s101_81, s101_82, s101_85, s101_88, s101_91, s101_92, s101_93, s101_96, s101_99, s101_100, s101_101, s101_102, s101_105, s101_108, s101_111, s101_112, s101_114, s101_115, s101_118, s101_121, s101_122, s101_125, s101_126, s101_129, s101_130, s101_133, s101_134, s101_137, s101_140, s101_141, s101_142, s101_143, s101_146, s101_149, s101_152, f_5_0, f_5_1, f_5_2, f_5_3, f_5_4, f_5_5, f_5_6, f_5_7, f_5_8, f_5_9, f_5_10, f_5_11, f_5_12, f_5_13, u_5_13, f_5_14, u_5_14, f_22_0, f_22_1, f_24_0, f_24_1, f_42_0, f_42_1, f_42_2, u_42_2, o_5, o_22, o_24, o_42, co_paths, e5, c1, rg_22, rg_24, e23, e25, fa_42, nI_1, Option.toList_some, Option.toList_none, List.cons_append, List.nil_append, List.append_nil, ip_on_some, true_and, and_true, if_true, if_false, not_true_eq_false, not_false_eq_true, decide_true, true_or, or_true, or_self, Bool.false_eq_true]
      by_cases q : I 23 i < I 25 i
      · have q' : ¬ I 25 i ≤ I 23 i := Int32.not_le.mpr q
        simp only [q', Option.toList_some, Option.toList_none, List.cons_append, List.nil_append, List.append_nil, ip_on_some, true_and, and_true, if_true, if_false, not_true_eq_false, not_false_eq_true, decide_true, true_or, or_true, or_self, Bool.false_eq_true]
        exact hk2 _ (by rw [if_pos (by simpa using q)]; exact CF.add hF hX hI hc (by decide) (by decide))
      · have q' : I 25 i ≤ I 23 i := Int32.not_lt.mp q
        simp only [q', Option.toList_some, Option.toList_none, List.cons_append, List.nil_append, List.append_nil, ip_on_some, true_and, and_true, if_true, if_false, not_true_eq_false, not_false_eq_true, decide_true, true_or, or_true, or_self, Bool.false_eq_true]
        exact hk2 _ (by rw [if_neg (by simpa using q)]; exact ⟨X', I', rfl, hF, hX, hI⟩)
    · rintro h ⟨X', I', rfl, hF, hX, hI⟩
      have c1 : X 5 13 ≤ nI ((X 5 13).toNatClampNeg) := by rw [← ep]; exact Int32.le_refl _
      have e5 : X' 5 13 = X 5 13 := by rw [hX 5 (by decide)]
      show ip_WP _ _ _ _ _ _ _ _
      rw [s101_113]
      simp only [s101_0, s101_1, s101_4, s101_5, s101_7, s101_8, s101_11, s101_14, s101_17, s101_18, s101_21, s101_22, s101_25, s101_26, s101_29, s101_30, s101_31, s101_32, s101_35, s101_38, s101_41, s101_42, s101_44, s101_45, s101_48, s101_51, s101_52, s101_53, s101_56, s101_57, s101_60, s101_63, s101_66, s101_67, s101_68, s101_69, s101_72, s101_75, s101_78, s101_79, s101_81, s101_82, s101_85, s101_88, s101_91, s101_92, s101_93, s101_96, s101_99, s101_100, s101_101, s101_102, s101_105, s101_108, s101_111, s101_112, s101_114, s101_115, s101_118, s101_121, s101_122, s101_125, s101_126, s101_129, s101_130, s101_133, s101_134, s101_137, s101_140, s101_141, s101_142, s101_143, s101_146, s101_149, s101_152, f_5_0, f_5_1, f_5_2, f_5_3, f_5_4, f_5_5, f_5_6, f_5_7, f_5_8, f_5_9, f_5_10, f_5_11, f_5_12, f_5_13, u_5_13, f_5_14, u_5_14, f_42_0, f_42_1, f_42_2, u_42_2, o_5, o_42, co_paths, e5, c1, Option.toList_some, Option.toList_none, List.cons_append, List.nil_append, List.append_nil, ip_on_some, true_and, and_true, if_true, if_false, not_true_eq_false, not_false_eq_true, decide_true, true_or, or_true, or_self, Bool.false_eq_true]
      exact hk _ ⟨X', I', rfl, hF, hX, hI⟩
  have h3 : ∀ h, CF 42 44 46 X y I J (erK (fun i => decide (I 29 i = -1)) 1 ((X 10 1).toNatClampNeg) ++ erK (fun i => !resA X I (I 23 i)) 2 ((X 5 13).toNatClampNeg)) h → ip_WP 101 80 [some (.ref 5), some (.ref 42), some (.int 0)] [] h b post px := by
    refine lpF (L := fun x => [some (.ref 5), some (.ref 42), some (.int x)]) (C := CF 42 44 46 X y I J) (p := fun i => idle X I (nI i)) (num := 3) (n := (X 8 1).toNatClampNeg) (cap := 68) (by simp only [List.length_append]; omega) ?_ ?_
    · rintro i l h hi hc ⟨X', I', rfl, hF, hX, hI⟩ hk2
      have c1 : ¬ X 8 1 ≤ nI i := by rw [es]; exact nI_ge hi (by omega)
      have e8 : X' 8 1 = X 8 1 := by rw [hX 8 (by decide)]
      have hb' : Bd X' := hb.of (fun k hk => hX k (by omega))
      have ei : idle X' I' (nI i) = idle X I (nI i) := by
        unfold idle
        rw [hX 10 (by decide), hI 21 (by decide) (by decide), hI 29 (by decide) (by decide)]
      rw [s101_80]
      simp only [s101_0, s101_1, s101_4, s101_5, s101_7, s101_8, s101_11, s101_14, s101_17, s101_18, s101_21, s101_22, s101_25, s101_26, s101_29, s101_30, s101_31, s101_32, s101_35, s101_38, s101_41, s101_42, s101_44, s101_45, s101_48, s101_51, s101_52, s101_53, s101_56, s101_57, s101_60, s101_63, s101_66, s101_67, s101_68, s101_69, s101_72, s101_75, s101_78, s101_79, s101_81, s101_82, s101_85, s101_88, s101_91, s101_92, s101_93, s101_96, s101_99, s101_100, s101_101, s101_102, s101_105, s101_108, s101_111, s101_112, s101_114, s101_115, s101_118, s101_121, s101_122, s101_125, s101_126, s101_129, s101_130, s101_133, s101_134, s101_137, s101_140, s101_141, s101_142, s101_143, s101_146, s101_149, s101_152, f_5_0, f_5_1, f_5_2, f_5_3, f_5_4, f_5_5, f_5_6, f_5_7, f_5_8, f_5_9, f_5_10, f_5_11, f_5_12, f_5_13, u_5_13, f_5_14, u_5_14, f_8_0, f_8_1, u_8_1, f_42_0, f_42_1, f_42_2, u_42_2, o_5, o_8, o_42, ns_8, e8, c1, co_idle hb'.a10 hb'.b10, ei, bI_0, fa_42, nI_1, Option.toList_some, Option.toList_none, List.cons_append, List.nil_append, List.append_nil, ip_on_some, true_and, and_true, if_true, if_false, not_true_eq_false, not_false_eq_true, decide_true, true_or, or_true, or_self, Bool.false_eq_true]
      by_cases q : idle X I (nI i)
      · simp only [q, Option.toList_some, Option.toList_none, List.cons_append, List.nil_append, List.append_nil, ip_on_some, true_and, and_true, if_true, if_false, not_true_eq_false, not_false_eq_true, decide_true, true_or, or_true, or_self, Bool.false_eq_true]
        exact hk2 _ (by rw [if_pos (by simpa using q)]; exact CF.add hF hX hI hc (by decide) (by decide))
      · simp only [q, Option.toList_some, Option.toList_none, List.cons_append, List.nil_append, List.append_nil, ip_on_some, true_and, and_true, if_true, if_false, not_true_eq_false, not_false_eq_true, decide_true, true_or, or_true, or_self, Bool.false_eq_true]
        exact hk2 _ (by rw [if_neg (by simpa using q)]; exact ⟨X', I', rfl, hF, hX, hI⟩)
    · rintro h ⟨X', I', rfl, hF, hX, hI⟩
      have c1 : X 8 1 ≤ nI ((X 8 1).toNatClampNeg) := by rw [← es]; exact Int32.le_refl _
      have e8 : X' 8 1 = X 8 1 := by rw [hX 8 (by decide)]
      show ip_WP _ _ _ _ _ _ _ _
      rw [s101_80]
      simp only [s101_0, s101_1, s101_4, s101_5, s101_7, s101_8, s101_11, s101_14, s101_17, s101_18, s101_21, s101_22, s101_25, s101_26, s101_29, s101_30, s101_31, s101_32, s101_35, s101_38, s101_41, s101_42, s101_44, s101_45, s101_48, s101_51, s101_52, s101_53, s101_56, s101_57, s101_60, s101_63, s101_66, s101_67, s101_68, s101_69, s101_72, s101_75, s101_78, s101_79, s101_81, s101_82, s101_85, s101_88, s101_91, s101_92, s101_93, s101_96, s101_99, s101_100, s101_101, s101_102, s101_105, s101_108, s101_111, s101_112, s101_114, s101_115, s101_118, s101_121, s101_122, s101_125, s101_126, s101_129, s101_130, s101_133, s101_134, s101_137, s101_140, s101_141, s101_142, s101_143, s101_146, s101_149, s101_152, f_5_0, f_5_1, f_5_2, f_5_3, f_5_4, f_5_5, f_5_6, f_5_7, f_5_8, f_5_9, f_5_10, f_5_11, f_5_12, f_5_13, u_5_13, f_5_14, u_5_14, f_8_0, f_8_1, u_8_1, f_42_0, f_42_1, f_42_2, u_42_2, o_5, o_8, o_42, ns_8, e8, c1, Option.toList_some, Option.toList_none, List.cons_append, List.nil_append, List.append_nil, ip_on_some, true_and, and_true, if_true, if_false, not_true_eq_false, not_false_eq_true, decide_true, true_or, or_true, or_self, Bool.false_eq_true]
      exact h4 _ ⟨X', I', rfl, hF, hX, hI⟩
  have h2 : ∀ h, CF 42 44 46 X y I J (erK (fun i => decide (I 29 i = -1)) 1 ((X 10 1).toNatClampNeg)) h → ip_WP 101 43 [some (.ref 5), some (.ref 42), some (.int 0)] [] h b post px := by
    refine lpF (L := fun x => [some (.ref 5), some (.ref 42), some (.int x)]) (C := CF 42 44 46 X y I J) (p := fun i => !resA X I (I 23 i)) (num := 2) (n := (X 5 13).toNatClampNeg) (cap := 68) (by omega) ?_ ?_
    · rintro i l h hi hc ⟨X', I', rfl, hF, hX, hI⟩ hk2
      have c1 : ¬ X 5 13 ≤ nI i := by rw [ep]; exact nI_ge hi (by omega)
      have e5 : X' 5 13 = X 5 13 := by rw [hX 5 (by decide)]
      have e23 : rget (I' 23) 24 (-1) (nI i) = I 23 i := by rw [hI 23 (by decide) (by decide)]; exact rget_nI (by omega) (by decide)
      have hb' : Bd X' := hb.of (fun k hk => hX k (by omega))
      have er : resA X' I' (I 23 i) = resA X I (I 23 i) := by
        unfold resA
        rw [hX 6 (by decide), hI 17 (by decide) (by decide)]
      rw [s101_43]
      simp only [s101_0, s101_1, s101_4, s101_5, s101_7, s101_8, s101_11, s101_14, s101_17, s101_18, s101_21, s101_22, s101_25, s101_26, s101_29, s101_30, s101_31, s101_32, s101_35, s101_38, s101_41, s101_42, s101_44, s101_45, s101_48, s101_51, s101_52, s101_53, s101_56, s101_57, s101_60, s101_63, s101_66, s101_67, s101_68, s101_69, s101_72, s101_75, s101_78, s101_79, s101_81, s101_82, s101_85, s101_88, s101_91, s101_92, s101_93, s101_96, s101_99, s101_100, s101_101, s101_102, s101_105, s101_108, s101_111, s101_112, s101_114, s101_115, s101_118, s101_121, s101_122, s101_125, s101_126, s101_129, s101_130, s101_133, s101_134, s101_137, s101_140, s101_141, s101_142, s101_143, s101_146, s101_149, s101_152, f_5_0, f_5_1, f_5_2, f_5_3, f_5_4, f_5_5, f_5_6, f_5_7, f_5_8, f_5_9, f_5_10, f_5_11, f_5_12, f_5_13, u_5_13, f_5_14, u_5_14, f_22_0, f_22_1, f_42_0, f_42_1, f_42_2, u_42_2, o_5, o_22, o_42, co_paths, e5, c1, rg_22, e23, co_resA hb'.a6 hb'.b6, er, bI_0, fa_42, nI_1, Option.toList_some, Option.toList_none, List.cons_append, List.nil_append, List.append_nil, ip_on_some, true_and, and_true, if_true, if_false, not_true_eq_false, not_false_eq_true, decide_true, true_or, or_true, or_self, Bool.false_eq_true]
      cases q : resA X I (I 23 i) with
      | false =>
        simp only [Bool.false_eq_true, Option.toList_some, Option.toList_none, List.cons_append, List.nil_append, List.append_nil, ip_on_some, true_and, and_true, if_true, if_false, not_true_eq_false, not_false_eq_true, decide_true, true_or, or_true, or_self, Bool.false_eq_true]
        exact hk2 _ (by rw [if_pos (by simp [q])]; exact CF.add hF hX hI hc (by decide) (by decide))
      | true =>
        simp only [Option.toList_some, Option.toList_none, List.cons_append, List.nil_append, List.append_nil, ip_on_some, true_and, and_true, if_true, if_false, not_true_eq_false, not_false_eq_true, decide_true, true_or, or_true, or_self, Bool.false_eq_true]
        exact hk2 _ (by rw [if_neg (by simp [q])]; exact ⟨X', I', rfl, hF, hX, hI⟩)
    · rintro h ⟨X', I', rfl, hF, hX, hI⟩
      have c1 : X 5 13 ≤ nI ((X 5 13).toNatClampNeg) := by rw [← ep]; exact Int32.le_refl _
      have e5 : X' 5 13 = X 5 13 := by rw [hX 5 (by decide)]
      show ip_WP _ _ _ _ _ _ _ _
      rw [s101_43]
      simp only [s101_0, s101_1, s101_4, s101_5, s101_7, s101_8, s101_11, s101_14, s101_17, s101_18, s101_21, s101_22, s101_25, s101_26, s101_29, s101_30, s101_31, s101_32, s101_35, s101_38, s101_41, s101_42, s101_44, s101_45, s101_48, s101_51, s101_52, s101_53, s101_56, s101_57, s101_60, s101_63, s101_66, s101_67, s101_68, s101_69, s101_72, s101_75, s101_78, s101_79, s101_81, s101_82, s101_85, s101_88, s101_91, s101_92, s101_93, s101_96, s101_99, s101_100, s101_101, s101_102, s101_105, s101_108, s101_111, s101_112, s101_114, s101_115, s101_118, s101_121, s101_122, s101_125, s101_126, s101_129, s101_130, s101_133, s101_134, s101_137, s101_140, s101_141, s101_142, s101_143, s101_146, s101_149, s101_152, f_5_0, f_5_1, f_5_2, f_5_3, f_5_4, f_5_5, f_5_6, f_5_7, f_5_8, f_5_9, f_5_10, f_5_11, f_5_12, f_5_13, u_5_13, f_5_14, u_5_14, f_42_0, f_42_1, f_42_2, u_42_2, o_5, o_42, co_paths, e5, c1, Option.toList_some, Option.toList_none, List.cons_append, List.nil_append, List.append_nil, ip_on_some, true_and, and_true, if_true, if_false, not_true_eq_false, not_false_eq_true, decide_true, true_or, or_true, or_self, Bool.false_eq_true]
      exact h3 _ ⟨X', I', rfl, hF, hX, hI⟩
  have hC0 : CF 42 44 46 X y I J [] (g0, fld (ip_up X 42 2 0) y, I, J) := ⟨_, _, rfl, ⟨by simp [up1, updF_ap, nI_0], fun i q hq => by simp at hq⟩, fun c hc => by rw [up1, if_neg hc], fun _ _ _ => rfl⟩
  have h1 : ∀ h, CF 42 44 46 X y I J [] h → ip_WP 101 6 [some (.ref 5), some (.ref 42), some (.int 0)] [] h b post px := by
    refine lpF (L := fun x => [some (.ref 5), some (.ref 42), some (.int x)]) (C := CF 42 44 46 X y I J) (p := fun i => decide (I 29 i = -1)) (num := 1) (n := (X 10 1).toNatClampNeg) (cap := 68) (by simp only [List.length_nil]; omega) ?_ ?_
    · rintro i l h hi hc ⟨X', I', rfl, hF, hX, hI⟩ hk2
      have c1 : ¬ X 10 1 ≤ nI i := by rw [eq]; exact nI_ge hi (by omega)
      have e10 : X' 10 1 = X 10 1 := by rw [hX 10 (by decide)]
      have e29 : rget (I' 29) 8 (-1) (nI i) = I 29 i := by rw [hI 29 (by decide) (by decide)]; exact rget_nI (by omega) (by decide)
      rw [s101_6]
      simp only [s101_0, s101_1, s101_4, s101_5, s101_7, s101_8, s101_11, s101_14, s101_17, s101_18, s101_21, s101_22, s101_25, s101_26, s101_29, s101_30, s101_31, s101_32, s101_35, s101_38, s101_41, s101_42, s101_44, s101_45, s101_48, s101_51, s101_52, s101_53, s101_56, s101_57, s101_60, s101_63, s101_66, s101_67, s101_68, s101_69, s101_72, s101_75, s101_78, s101_79, s101_81, s101_82, s101_85, s101_88, s101_91, s101_92, s101_93, s101_96, s101_99, s101_100, s101_101, s101_102, s101_105, s101_108, s101_111, s101_112, s101_114, s101_115, s101_118, s101_121, s101_122, s101_125, s101_126, s101_129, s101_130, s101_133, s101_134, s101_137, s101_140, s101_141, s101_142, s101_143, s101_146, s101_149, s101_152, f_5_0, f_5_1, f_5_2, f_5_3, f_5_4, f_5_5, f_5_6, f_5_7, f_5_8, f_5_9, f_5_10, f_5_11, f_5_12, f_5_13, u_5_13, f_5_14, u_5_14, f_10_0, f_10_1, u_10_1, f_28_0, f_28_1, f_42_0, f_42_1, f_42_2, u_42_2, o_5, o_10, o_28, o_42, ns_10, e10, c1, rg_28, e29, fa_42, nI_1, Option.toList_some, Option.toList_none, List.cons_append, List.nil_append, List.append_nil, ip_on_some, true_and, and_true, if_true, if_false, not_true_eq_false, not_false_eq_true, decide_true, true_or, or_true, or_self, Bool.false_eq_true]
      by_cases q : I 29 i = -1
      · simp only [q, Option.toList_some, Option.toList_none, List.cons_append, List.nil_append, List.append_nil, ip_on_some, true_and, and_true, if_true, if_false, not_true_eq_false, not_false_eq_true, decide_true, true_or, or_true, or_self, Bool.false_eq_true]
        exact hk2 _ (by rw [if_pos (by simpa using q)]; exact CF.add hF hX hI hc (by decide) (by decide))
      · simp only [q, Option.toList_some, Option.toList_none, List.cons_append, List.nil_append, List.append_nil, ip_on_some, true_and, and_true, if_true, if_false, not_true_eq_false, not_false_eq_true, decide_true, true_or, or_true, or_self, Bool.false_eq_true]
        exact hk2 _ (by rw [if_neg (by simpa using q)]; exact ⟨X', I', rfl, hF, hX, hI⟩)
    · rintro h ⟨X', I', rfl, hF, hX, hI⟩
      have c1 : X 10 1 ≤ nI ((X 10 1).toNatClampNeg) := by rw [← eq]; exact Int32.le_refl _
      have e10 : X' 10 1 = X 10 1 := by rw [hX 10 (by decide)]
      show ip_WP _ _ _ _ _ _ _ _
      rw [s101_6]
      simp only [s101_0, s101_1, s101_4, s101_5, s101_7, s101_8, s101_11, s101_14, s101_17, s101_18, s101_21, s101_22, s101_25, s101_26, s101_29, s101_30, s101_31, s101_32, s101_35, s101_38, s101_41, s101_42, s101_44, s101_45, s101_48, s101_51, s101_52, s101_53, s101_56, s101_57, s101_60, s101_63, s101_66, s101_67, s101_68, s101_69, s101_72, s101_75, s101_78, s101_79, s101_81, s101_82, s101_85, s101_88, s101_91, s101_92, s101_93, s101_96, s101_99, s101_100, s101_101, s101_102, s101_105, s101_108, s101_111, s101_112, s101_114, s101_115, s101_118, s101_121, s101_122, s101_125, s101_126, s101_129, s101_130, s101_133, s101_134, s101_137, s101_140, s101_141, s101_142, s101_143, s101_146, s101_149, s101_152, f_5_0, f_5_1, f_5_2, f_5_3, f_5_4, f_5_5, f_5_6, f_5_7, f_5_8, f_5_9, f_5_10, f_5_11, f_5_12, f_5_13, u_5_13, f_5_14, u_5_14, f_10_0, f_10_1, u_10_1, f_42_0, f_42_1, f_42_2, u_42_2, o_5, o_10, o_42, ns_10, e10, c1, Option.toList_some, Option.toList_none, List.cons_append, List.nil_append, List.append_nil, ip_on_some, true_and, and_true, if_true, if_false, not_true_eq_false, not_false_eq_true, decide_true, true_or, or_true, or_self, Bool.false_eq_true]
      rw [List.nil_append] at *
      exact h2 _ ⟨X', I', rfl, hF, hX, hI⟩
  simp only [s101_0, s101_1, f_42_0, f_42_1, f_42_2, u_42_2, o_42, fc_42, s101_4, s101_5, Option.toList_some, Option.toList_none, List.cons_append, List.nil_append, List.append_nil, ip_on_some, true_and, and_true, if_true, if_false, not_true_eq_false, not_false_eq_true, decide_true, true_or, or_true, or_self, Bool.false_eq_true]
  exact h1 _ hC0
end
