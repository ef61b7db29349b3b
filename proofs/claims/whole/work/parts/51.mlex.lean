/-! CoreTextModel at its cells: small methods, the lexer -/
def tellX (X : Nat → Nat → Int32) (w p : Int32) : Nat → Nat → Int32 := if 0 < X 47 6 then X else ip_up (ip_up X 47 6 w) 47 7 p
section
variable {X : Nat → Nat → Int32} {y : Int64} {I : Nat → Nat → Int32} {J : Nat → Nat → Int64} {b : ip_B} {post : Option Value → ip_H → Prop} {px : String → ip_H → Prop}
theorem md_thrown : ip_WP 20 0 [some (.ref 47)] [] (g0, fld X y, I, J) b post px ↔ post (some (.int (X 47 1))) (g0, fld X y, I, J) := by
  simp only [s20_0, s20_1, s20_4, f_47_0, f_47_1, u_47_1, f_47_2, u_47_2, f_47_3, f_47_4, u_47_4, f_47_5, f_47_6, u_47_6, f_47_7, u_47_7, f_47_8, u_47_8, f_47_9, u_47_9, f_47_10, u_47_10, f_47_11, f_47_12, f_47_13, f_47_14, f_47_15, f_47_16, f_47_17, f_47_18, f_47_19, f_47_20, f_47_21, f_47_22, f_47_23, u_47_23, f_47_24, f_47_25, f_47_26, f_47_27, f_47_28, f_47_29, u_47_29, f_47_30, u_47_30, f_47_31, f_47_32, f_47_33, f_47_34, f_47_35, u_47_35, f_47_36, u_47_36, f_47_37, u_47_37, f_47_38, u_47_38, o_47, Option.toList_some, Option.toList_none, List.cons_append, List.nil_append, List.append_nil, ip_on_some, true_and, and_true, if_true, if_false, not_true_eq_false, not_false_eq_true, decide_true, true_or, or_true, or_self, Bool.false_eq_true]
theorem md_fail {c : Int32} : ip_WP 21 0 [some (.ref 47), some (.int c)] [] (g0, fld X y, I, J) b post px ↔ post (some (.int 0)) (g0, fld (ip_up X 47 1 c) y, I, J) := by
  simp only [s21_0, s21_1, s21_2, s21_5, s21_6, f_47_0, f_47_1, u_47_1, f_47_2, u_47_2, f_47_3, f_47_4, u_47_4, f_47_5, f_47_6, u_47_6, f_47_7, u_47_7, f_47_8, u_47_8, f_47_9, u_47_9, f_47_10, u_47_10, f_47_11, f_47_12, f_47_13, f_47_14, f_47_15, f_47_16, f_47_17, f_47_18, f_47_19, f_47_20, f_47_21, f_47_22, f_47_23, u_47_23, f_47_24, f_47_25, f_47_26, f_47_27, f_47_28, f_47_29, u_47_29, f_47_30, u_47_30, f_47_31, f_47_32, f_47_33, f_47_34, f_47_35, u_47_35, f_47_36, u_47_36, f_47_37, u_47_37, f_47_38, u_47_38, o_47, Option.toList_some, Option.toList_none, List.cons_append, List.nil_append, List.append_nil, ip_on_some, true_and, and_true, if_true, if_false, not_true_eq_false, not_false_eq_true, decide_true, true_or, or_true, or_self, Bool.false_eq_true]
theorem md_within {v lo hi : Int32} : ip_WP 22 0 [some (.int v), some (.int lo), some (.int hi)] [] (g0, fld X y, I, J) b post px ↔ post (some (.int (bI (lo ≤ v ∧ v ≤ hi)))) (g0, fld X y, I, J) := by
  simp only [s22_0, s22_1, s22_2, s22_5, s22_6, s22_7, s22_10, s22_11, s22_14, s22_15]
  by_cases h1 : v < lo
  · have h : ¬ (lo ≤ v ∧ v ≤ hi) := fun q => Int32.not_le.mpr h1 q.1
    rw [if_pos h1, bI_f h]; simp
  · rw [if_neg h1]
    by_cases h2 : hi < v
    · have h : ¬ (lo ≤ v ∧ v ≤ hi) := fun q => Int32.not_le.mpr h2 q.2
      rw [if_pos h2, bI_f h]; simp
    · have h : lo ≤ v ∧ v ≤ hi := ⟨Int32.not_lt.mp h1, Int32.not_lt.mp h2⟩
      rw [if_neg h2, bI_t h]; simp
theorem md_tell {w p : Int32} : ip_WP 25 0 [some (.ref 47), some (.int w), some (.int p)] [] (g0, fld X y, I, J) b post px ↔ post none (g0, fld (tellX X w p) y, I, J) := by
  simp only [s25_0, s25_1, s25_4, s25_7, s25_8, s25_9, s25_10, s25_13, s25_14, s25_15, s25_18, f_47_0, f_47_1, u_47_1, f_47_2, u_47_2, f_47_3, f_47_4, u_47_4, f_47_5, f_47_6, u_47_6, f_47_7, u_47_7, f_47_8, u_47_8, f_47_9, u_47_9, f_47_10, u_47_10, f_47_11, f_47_12, f_47_13, f_47_14, f_47_15, f_47_16, f_47_17, f_47_18, f_47_19, f_47_20, f_47_21, f_47_22, f_47_23, u_47_23, f_47_24, f_47_25, f_47_26, f_47_27, f_47_28, f_47_29, u_47_29, f_47_30, u_47_30, f_47_31, f_47_32, f_47_33, f_47_34, f_47_35, u_47_35, f_47_36, u_47_36, f_47_37, u_47_37, f_47_38, u_47_38, o_47, Option.toList_some, Option.toList_none, List.cons_append, List.nil_append, List.append_nil, ip_on_some, true_and, and_true, if_true, if_false, not_true_eq_false, not_false_eq_true, decide_true, true_or, or_true, or_self, Bool.false_eq_true]
  unfold tellX
  by_cases h : 0 < X 47 6
  · have h' : ¬ X 47 6 ≤ 0 := Int32.not_le.mpr h
    simp [h, h']
  · have h' : X 47 6 ≤ 0 := Int32.not_lt.mp h
    simp [h, h']
theorem bI_ext {p q : Prop} [Decidable p] [Decidable q] (h : p ↔ q) : bI p = bI q := by
  unfold bI
  by_cases hq : q
  · rw [if_pos hq, if_pos (h.mpr hq)]
  · rw [if_neg hq, if_neg (fun z => hq (h.mp z))]
theorem bI_sm {c : Int32} : bI ((97 : Int32) ≤ c ∧ c ≤ 122) = bI (isSm c = true) := bI_ext isSm_iff.symm
theorem bI_dg {c : Int32} : bI ((48 : Int32) ≤ c ∧ c ≤ 57) = bI (isDg c = true) := bI_ext isDg_iff.symm
theorem bI_01 {c : Prop} [Decidable c] : (bI c = 0 ∨ bI c = 1) = True := by
  unfold bI
  by_cases h : c
  · rw [if_pos h]; simp
  · rw [if_neg h]; simp
theorem md_isSm {c : Int32} : ip_WP 26 0 [some (.int c)] [] (g0, fld X y, I, J) b post px ↔ post (some (.int (bI (isSm c)))) (g0, fld X y, I, J) := by
  rw [s26_0, s26_1, s26_3, s26_5, md_within]
  simp only [s26_8, bI_sm, Option.toList_some, List.cons_append, List.nil_append]
  rw [bI_01, true_and]
theorem md_isDg {c : Int32} : ip_WP 27 0 [some (.int c)] [] (g0, fld X y, I, J) b post px ↔ post (some (.int (bI (isDg c)))) (g0, fld X y, I, J) := by
  rw [s27_0, s27_1, s27_3, s27_5, md_within]
  simp only [s27_8, bI_dg, Option.toList_some, List.cons_append, List.nil_append]
  rw [bI_01, true_and]
theorem md_isWh {c : Int32} : ip_WP 28 0 [some (.int c)] [] (g0, fld X y, I, J) b post px ↔ post (some (.int (bI (isBl c)))) (g0, fld X y, I, J) := by
  simp only [s28_0, s28_1, s28_3, s28_6, s28_7, s28_9, s28_12, s28_13, s28_15, s28_18, s28_19, s28_21, s28_24, s28_25, s28_28, s28_29]
  by_cases h1 : c = 9
  · rw [if_pos h1, bI_t (show isBl c = true from isBl_iff.mpr (Or.inl h1))]; simp
  · rw [if_neg h1]
    by_cases h2 : c = 10
    · rw [if_pos h2, bI_t (show isBl c = true from isBl_iff.mpr (Or.inr (Or.inl h2)))]; simp
    · rw [if_neg h2]
      by_cases h3 : c = 13
      · rw [if_pos h3, bI_t (show isBl c = true from isBl_iff.mpr (Or.inr (Or.inr (Or.inl h3))))]; simp
      · rw [if_neg h3]
        by_cases h4 : c = 32
        · rw [if_neg (fun q => q h4), bI_t (show isBl c = true from isBl_iff.mpr (Or.inr (Or.inr (Or.inr h4))))]; simp
        · rw [if_pos h4, bI_f (show ¬ isBl c = true from fun q => by rcases isBl_iff.mp q with q | q | q | q <;> contradiction)]; simp
theorem md_isSign {c : Int32} : ip_WP 32 0 [some (.ref 47), some (.int c)] [] (g0, fld X y, I, J) b post px ↔ post (some (.int (bI (X 47 6 = 0 ∧ X 47 35 = 3 ∧ X 47 38 = c)))) (g0, fld X y, I, J) := by
  simp only [s32_0, s32_1, s32_4, s32_7, s32_8, s32_11, s32_12, s32_15, s32_16, s32_19, s32_20, s32_23, s32_24, s32_27, s32_28, f_47_0, f_47_1, u_47_1, f_47_2, u_47_2, f_47_3, f_47_4, u_47_4, f_47_5, f_47_6, u_47_6, f_47_7, u_47_7, f_47_8, u_47_8, f_47_9, u_47_9, f_47_10, u_47_10, f_47_11, f_47_12, f_47_13, f_47_14, f_47_15, f_47_16, f_47_17, f_47_18, f_47_19, f_47_20, f_47_21, f_47_22, f_47_23, u_47_23, f_47_24, f_47_25, f_47_26, f_47_27, f_47_28, f_47_29, u_47_29, f_47_30, u_47_30, f_47_31, f_47_32, f_47_33, f_47_34, f_47_35, u_47_35, f_47_36, u_47_36, f_47_37, u_47_37, f_47_38, u_47_38, o_47, Option.toList_some, Option.toList_none, List.cons_append, List.nil_append, List.append_nil, ip_on_some, true_and, and_true, if_true, if_false, not_true_eq_false, not_false_eq_true, decide_true, true_or, or_true, or_self, Bool.false_eq_true]
  by_cases h1 : X 47 6 = 0 <;> by_cases h2 : X 47 35 = 3 <;> by_cases h3 : X 47 38 = c <;> simp [h1, h2, h3, bI]
theorem md_isWord {c : Int32} : ip_WP 33 0 [some (.ref 47), some (.int c)] [] (g0, fld X y, I, J) b post px ↔ post (some (.int (bI (X 47 6 = 0 ∧ X 47 35 = 4 ∧ X 47 38 = c)))) (g0, fld X y, I, J) := by
  simp only [s33_0, s33_1, s33_4, s33_7, s33_8, s33_11, s33_12, s33_15, s33_16, s33_19, s33_20, s33_23, s33_24, s33_27, s33_28, f_47_0, f_47_1, u_47_1, f_47_2, u_47_2, f_47_3, f_47_4, u_47_4, f_47_5, f_47_6, u_47_6, f_47_7, u_47_7, f_47_8, u_47_8, f_47_9, u_47_9, f_47_10, u_47_10, f_47_11, f_47_12, f_47_13, f_47_14, f_47_15, f_47_16, f_47_17, f_47_18, f_47_19, f_47_20, f_47_21, f_47_22, f_47_23, u_47_23, f_47_24, f_47_25, f_47_26, f_47_27, f_47_28, f_47_29, u_47_29, f_47_30, u_47_30, f_47_31, f_47_32, f_47_33, f_47_34, f_47_35, u_47_35, f_47_36, u_47_36, f_47_37, u_47_37, f_47_38, u_47_38, o_47, Option.toList_some, Option.toList_none, List.cons_append, List.nil_append, List.append_nil, ip_on_some, true_and, and_true, if_true, if_false, not_true_eq_false, not_false_eq_true, decide_true, true_or, or_true, or_self, Bool.false_eq_true]
  by_cases h1 : X 47 6 = 0 <;> by_cases h2 : X 47 35 = 4 <;> by_cases h3 : X 47 38 = c <;> simp [h1, h2, h3, bI]
theorem md_most {s : Int32} : ip_WP 39 0 [some (.int s)] [] (g0, fld X y, I, J) b post px ↔ post (some (.int (if s < 2 then 12 else 8))) (g0, fld X y, I, J) := by
  simp only [s39_0, s39_1, s39_2, s39_5, s39_7, s39_10, s39_12]
  by_cases h : s < 2
  · have h' : ¬ (2 : Int32) ≤ s := Int32.not_le.mpr h
    simp [h, h']
  · have h' : (2 : Int32) ≤ s := Int32.not_lt.mp h
    simp [h, h']
end
/-! white -/
def wsk (T : Nat → Int32) : Nat → Nat → Nat
  | 0, p => p
  | m + 1, p => if isBl (T p) then wsk T m (p + 1) else p
def csk (T : Nat → Int32) : Nat → Nat → Nat
  | 0, p => p
  | m + 1, p => if T p = 10 then p else csk T m (p + 1)
theorem bl_ne35 {c : Int32} (h : isBl c = true) : ¬ c = 35 := by
  rintro rfl
  rcases isBl_iff.mp h with h | h | h | h <;> exact absurd h (by decide)
theorem wsk_ge (T : Nat → Int32) : ∀ m p, p ≤ wsk T m p ∧ wsk T m p ≤ p + m ∧ (wsk T m p < p + m → ¬ isBl (T (wsk T m p)) = true) := by
  intro m
  induction m with
  | zero => intro p; exact ⟨Nat.le_refl p, Nat.le_refl p, fun h => absurd h (by unfold wsk; omega)⟩
  | succ m ih =>
    intro p
    rw [wsk]
    by_cases q : isBl (T p)
    · rw [if_pos q]
      have := ih (p + 1)
      exact ⟨by omega, by omega, fun h => this.2.2 (by omega)⟩
    · rw [if_neg q]
      exact ⟨Nat.le_refl p, by omega, fun _ => q⟩
theorem csk_ge (T : Nat → Int32) : ∀ m p, p ≤ csk T m p ∧ csk T m p ≤ p + m := by
  intro m
  induction m with
  | zero => intro p; exact ⟨Nat.le_refl p, Nat.le_refl p⟩
  | succ m ih =>
    intro p
    rw [csk]
    by_cases q : T p = 10
    · rw [if_pos q]; exact ⟨Nat.le_refl p, by omega⟩
    · rw [if_neg q]
      have := ih (p + 1)
      omega
theorem sw_wsk (T : Nat → Int32) : ∀ m p, swT T m p false = swT T (p + m - wsk T m p) (wsk T m p) false := by
  intro m
  induction m with
  | zero => intro p; rw [wsk, Nat.add_zero, Nat.sub_self]
  | succ m ih =>
    intro p
    rw [wsk]
    by_cases q : isBl (T p)
    · rw [if_pos q, swT, if_neg (bl_ne35 q)]
      have e := ih (p + 1)
      rw [show p + 1 + m = p + (m + 1) from by omega] at e
      by_cases q2 : T p = 10
      · rw [if_pos q2]; exact e
      · rw [if_neg q2, if_neg (by decide), if_pos q]; exact e
    · rw [if_neg q, show p + (m + 1) - p = m + 1 from by omega]
theorem sw_csk (T : Nat → Int32) : ∀ m p, swT T m p true = swT T (p + m - csk T m p) (csk T m p) false := by
  intro m
  induction m with
  | zero => intro p; rw [csk, Nat.add_zero, Nat.sub_self]; rfl
  | succ m ih =>
    intro p
    rw [csk]
    by_cases q : T p = 10
    · rw [if_pos q, show p + (m + 1) - p = m + 1 from by omega, swT, swT, if_neg (by rw [q]; decide), if_pos q, if_neg (by rw [q]; decide), if_pos q]
    · have e := ih (p + 1)
      rw [show p + 1 + m = p + (m + 1) from by omega] at e
      rw [if_neg q, swT]
      by_cases q2 : T p = 35
      · rw [if_pos q2]; exact e
      · rw [if_neg q2, if_neg q, if_pos rfl]; exact e
section
variable {X : Nat → Nat → Int32} {y : Int64} {I : Nat → Nat → Int32} {J : Nat → Nat → Int64} {b : ip_B} {post : Option Value → ip_H → Prop} {px : String → ip_H → Prop}
theorem mp_A {N : Nat} (hN : N ≤ 4160) (hL : X 47 8 = nI N) {v : Int32} : ∀ m p, p + m = N → (ip_WP 29 6 [some (.ref 47), some (.int v)] [] (g0, fld (ip_up X 47 37 (nI p)) y, I, J) b post px ↔ ip_WP 29 45 [some (.ref 47), some (.int v)] [] (g0, fld (ip_up X 47 37 (nI (wsk (I 51) m p))) y, I, J) b post px) := by
  intro m
  induction m with
  | zero =>
    intro p hp
    have c1 : nI N ≤ nI p := nI_le (by omega) (by omega)
    rw [s29_6]
    simp only [s29_0, s29_1, s29_3, s29_7, s29_10, s29_11, s29_14, s29_17, s29_18, s29_21, s29_22, s29_25, s29_26, s29_29, s29_32, s29_33, s29_34, s29_37, s29_38, s29_39, s29_42, s29_46, s29_49, s29_50, s29_53, s29_56, s29_57, s29_60, s29_61, s29_64, s29_65, s29_67, s29_70, s29_71, s29_74, s29_75, s29_77, s29_80, s29_81, s29_84, s29_85, s29_88, s29_91, s29_92, s29_95, s29_96, s29_99, s29_100, s29_102, s29_105, s29_106, s29_107, s29_110, s29_111, s29_112, s29_115, s29_118, f_47_0, f_47_1, u_47_1, f_47_2, u_47_2, f_47_3, f_47_4, u_47_4, f_47_5, f_47_6, u_47_6, f_47_7, u_47_7, f_47_8, u_47_8, f_47_9, u_47_9, f_47_10, u_47_10, f_47_11, f_47_12, f_47_13, f_47_14, f_47_15, f_47_16, f_47_17, f_47_18, f_47_19, f_47_20, f_47_21, f_47_22, f_47_23, u_47_23, f_47_24, f_47_25, f_47_26, f_47_27, f_47_28, f_47_29, u_47_29, f_47_30, u_47_30, f_47_31, f_47_32, f_47_33, f_47_34, f_47_35, u_47_35, f_47_36, u_47_36, f_47_37, u_47_37, f_47_38, u_47_38, o_47, a_51, l_51, up1, updF_ap, Nat.reduceEqDiff, hL, c1, wsk, Option.toList_some, Option.toList_none, List.cons_append, List.nil_append, List.append_nil, ip_on_some, true_and, and_true, if_true, if_false, not_true_eq_false, not_false_eq_true, decide_true, true_or, or_true, or_self, Bool.false_eq_true]
  | succ m ih =>
    intro p hp
    have c1 : ¬ nI N ≤ nI p := nI_ge (by omega) (by omega)
    have c2 : ¬ nI p < 0 := nI_pos (by omega)
    have c3 : ¬ 4400 ≤ p := by omega
    have ih' := ih (p + 1) (by omega)
    rw [s29_6]
    simp only [s29_0, s29_1, s29_3, s29_7, s29_10, s29_11, s29_14, s29_17, s29_18, s29_21, s29_22, s29_25, s29_26, s29_29, s29_32, s29_33, s29_34, s29_37, s29_38, s29_39, s29_42, s29_46, s29_49, s29_50, s29_53, s29_56, s29_57, s29_60, s29_61, s29_64, s29_65, s29_67, s29_70, s29_71, s29_74, s29_75, s29_77, s29_80, s29_81, s29_84, s29_85, s29_88, s29_91, s29_92, s29_95, s29_96, s29_99, s29_100, s29_102, s29_105, s29_106, s29_107, s29_110, s29_111, s29_112, s29_115, s29_118, f_47_0, f_47_1, u_47_1, f_47_2, u_47_2, f_47_3, f_47_4, u_47_4, f_47_5, f_47_6, u_47_6, f_47_7, u_47_7, f_47_8, u_47_8, f_47_9, u_47_9, f_47_10, u_47_10, f_47_11, f_47_12, f_47_13, f_47_14, f_47_15, f_47_16, f_47_17, f_47_18, f_47_19, f_47_20, f_47_21, f_47_22, f_47_23, u_47_23, f_47_24, f_47_25, f_47_26, f_47_27, f_47_28, f_47_29, u_47_29, f_47_30, u_47_30, f_47_31, f_47_32, f_47_33, f_47_34, f_47_35, u_47_35, f_47_36, u_47_36, f_47_37, u_47_37, f_47_38, u_47_38, o_47, a_51, l_51, up1, updF_ap, up_up, Nat.reduceEqDiff, hL, c1, nI_clamp (show p < 2 ^ 31 by omega), c2, c3, md_isWh, bI_0, nI_1, ih', wsk, Option.toList_some, Option.toList_none, List.cons_append, List.nil_append, List.append_nil, ip_on_some, true_and, and_true, if_true, if_false, not_true_eq_false, not_false_eq_true, decide_true, true_or, or_true, or_self, Bool.false_eq_true]
    by_cases q : isBl (I 51 p)
    · simp only [q, Option.toList_some, Option.toList_none, List.cons_append, List.nil_append, List.append_nil, ip_on_some, true_and, and_true, if_true, if_false, not_true_eq_false, not_false_eq_true, decide_true, true_or, or_true, or_self, Bool.false_eq_true]
    · simp only [q, Option.toList_some, Option.toList_none, List.cons_append, List.nil_append, List.append_nil, ip_on_some, true_and, and_true, if_true, if_false, not_true_eq_false, not_false_eq_true, decide_true, true_or, or_true, or_self, Bool.false_eq_true]
theorem mp_B {N : Nat} (hN : N ≤ 4160) (hL : X 47 8 = nI N) : ∀ m p, p + m = N → (ip_WP 29 76 [some (.ref 47), some (.int 1)] [] (g0, fld (ip_up X 47 37 (nI p)) y, I, J) b post px ↔ ip_WP 29 2 [some (.ref 47), some (.int 1)] [] (g0, fld (ip_up X 47 37 (nI (csk (I 51) m p))) y, I, J) b post px) := by
  intro m
  induction m with
  | zero =>
    intro p hp
    have c1 : nI N ≤ nI p := nI_le (by omega) (by omega)
    rw [s29_76]
    simp only [s29_0, s29_1, s29_3, s29_7, s29_10, s29_11, s29_14, s29_17, s29_18, s29_21, s29_22, s29_25, s29_26, s29_29, s29_32, s29_33, s29_34, s29_37, s29_38, s29_39, s29_42, s29_46, s29_49, s29_50, s29_53, s29_56, s29_57, s29_60, s29_61, s29_64, s29_65, s29_67, s29_70, s29_71, s29_74, s29_75, s29_77, s29_80, s29_81, s29_84, s29_85, s29_88, s29_91, s29_92, s29_95, s29_96, s29_99, s29_100, s29_102, s29_105, s29_106, s29_107, s29_110, s29_111, s29_112, s29_115, s29_118, f_47_0, f_47_1, u_47_1, f_47_2, u_47_2, f_47_3, f_47_4, u_47_4, f_47_5, f_47_6, u_47_6, f_47_7, u_47_7, f_47_8, u_47_8, f_47_9, u_47_9, f_47_10, u_47_10, f_47_11, f_47_12, f_47_13, f_47_14, f_47_15, f_47_16, f_47_17, f_47_18, f_47_19, f_47_20, f_47_21, f_47_22, f_47_23, u_47_23, f_47_24, f_47_25, f_47_26, f_47_27, f_47_28, f_47_29, u_47_29, f_47_30, u_47_30, f_47_31, f_47_32, f_47_33, f_47_34, f_47_35, u_47_35, f_47_36, u_47_36, f_47_37, u_47_37, f_47_38, u_47_38, o_47, a_51, l_51, up1, updF_ap, Nat.reduceEqDiff, qe_m1_0, qe_m1_1, qe_m1_2, qe_m1_3, qe_m1_4, qe_m1_5, qe_m1_6, qe_m1_7, qe_m1_8, qe_0_m1, qe_0_1, qe_0_2, qe_0_3, qe_0_4, qe_0_5, qe_0_6, qe_0_7, qe_0_8, qe_1_m1, qe_1_0, qe_1_2, qe_1_3, qe_1_4, qe_1_5, qe_1_6, qe_1_7, qe_1_8, qe_2_m1, qe_2_0, qe_2_1, qe_2_3, qe_2_4, qe_2_5, qe_2_6, qe_2_7, qe_2_8, qe_3_m1, qe_3_0, qe_3_1, qe_3_2, qe_3_4, qe_3_5, qe_3_6, qe_3_7, qe_3_8, qe_4_m1, qe_4_0, qe_4_1, qe_4_2, qe_4_3, qe_4_5, qe_4_6, qe_4_7, qe_4_8, qe_5_m1, qe_5_0, qe_5_1, qe_5_2, qe_5_3, qe_5_4, qe_5_6, qe_5_7, qe_5_8, qe_6_m1, qe_6_0, qe_6_1, qe_6_2, qe_6_3, qe_6_4, qe_6_5, qe_6_7, qe_6_8, qe_7_m1, qe_7_0, qe_7_1, qe_7_2, qe_7_3, qe_7_4, qe_7_5, qe_7_6, qe_7_8, qe_8_m1, qe_8_0, qe_8_1, qe_8_2, qe_8_3, qe_8_4, qe_8_5, qe_8_6, qe_8_7, hL, c1, csk, Option.toList_some, Option.toList_none, List.cons_append, List.nil_append, List.append_nil, ip_on_some, true_and, and_true, if_true, if_false, not_true_eq_false, not_false_eq_true, decide_true, true_or, or_true, or_self, Bool.false_eq_true]
  | succ m ih =>
    intro p hp
    have c1 : ¬ nI N ≤ nI p := nI_ge (by omega) (by omega)
    have c2 : ¬ nI p < 0 := nI_pos (by omega)
    have c3 : ¬ 4400 ≤ p := by omega
    have ih' := ih (p + 1) (by omega)
    rw [s29_76]
    simp only [s29_0, s29_1, s29_3, s29_7, s29_10, s29_11, s29_14, s29_17, s29_18, s29_21, s29_22, s29_25, s29_26, s29_29, s29_32, s29_33, s29_34, s29_37, s29_38, s29_39, s29_42, s29_46, s29_49, s29_50, s29_53, s29_56, s29_57, s29_60, s29_61, s29_64, s29_65, s29_67, s29_70, s29_71, s29_74, s29_75, s29_77, s29_80, s29_81, s29_84, s29_85, s29_88, s29_91, s29_92, s29_95, s29_96, s29_99, s29_100, s29_102, s29_105, s29_106, s29_107, s29_110, s29_111, s29_112, s29_115, s29_118, f_47_0, f_47_1, u_47_1, f_47_2, u_47_2, f_47_3, f_47_4, u_47_4, f_47_5, f_47_6, u_47_6, f_47_7, u_47_7, f_47_8, u_47_8, f_47_9, u_47_9, f_47_10, u_47_10, f_47_11, f_47_12, f_47_13, f_47_14, f_47_15, f_47_16, f_47_17, f_47_18, f_47_19, f_47_20, f_47_21, f_47_22, f_47_23, u_47_23, f_47_24, f_47_25, f_47_26, f_47_27, f_47_28, f_47_29, u_47_29, f_47_30, u_47_30, f_47_31, f_47_32, f_47_33, f_47_34, f_47_35, u_47_35, f_47_36, u_47_36, f_47_37, u_47_37, f_47_38, u_47_38, o_47, a_51, l_51, up1, updF_ap, up_up, Nat.reduceEqDiff, qe_m1_0, qe_m1_1, qe_m1_2, qe_m1_3, qe_m1_4, qe_m1_5, qe_m1_6, qe_m1_7, qe_m1_8, qe_0_m1, qe_0_1, qe_0_2, qe_0_3, qe_0_4, qe_0_5, qe_0_6, qe_0_7, qe_0_8, qe_1_m1, qe_1_0, qe_1_2, qe_1_3, qe_1_4, qe_1_5, qe_1_6, qe_1_7, qe_1_8, qe_2_m1, qe_2_0, qe_2_1, qe_2_3, qe_2_4, qe_2_5, qe_2_6, qe_2_7, qe_2_8, qe_3_m1, qe_3_0, qe_3_1, qe_3_2, qe_3_4, qe_3_5, qe_3_6, qe_3_7, qe_3_8, qe_4_m1, qe_4_0, qe_4_1, qe_4_2, qe_4_3, qe_4_5, qe_4_6, qe_4_7, qe_4_8, qe_5_m1, qe_5_0, qe_5_1, qe_5_2, qe_5_3, qe_5_4, qe_5_6, qe_5_7, qe_5_8, qe_6_m1, qe_6_0, qe_6_1, qe_6_2, qe_6_3, qe_6_4, qe_6_5, qe_6_7, qe_6_8, qe_7_m1, qe_7_0, qe_7_1, qe_7_2, qe_7_3, qe_7_4, qe_7_5, qe_7_6, qe_7_8, qe_8_m1, qe_8_0, qe_8_1, qe_8_2, qe_8_3, qe_8_4, qe_8_5, qe_8_6, qe_8_7, hL, c1, nI_clamp (show p < 2 ^ 31 by omega), c2, c3, nI_1, ih', csk, Option.toList_some, Option.toList_none, List.cons_append, List.nil_append, List.append_nil, ip_on_some, true_and, and_true, if_true, if_false, not_true_eq_false, not_false_eq_true, decide_true, true_or, or_true, or_self, Bool.false_eq_true]
    by_cases q : I 51 p = 10
    · simp only [q, Option.toList_some, Option.toList_none, List.cons_append, List.nil_append, List.append_nil, ip_on_some, true_and, and_true, if_true, if_false, not_true_eq_false, not_false_eq_true, decide_true, true_or, or_true, or_self, Bool.false_eq_true]
    · simp only [q, Option.toList_some, Option.toList_none, List.cons_append, List.nil_append, List.append_nil, ip_on_some, true_and, and_true, if_true, if_false, not_true_eq_false, not_false_eq_true, decide_true, true_or, or_true, or_self, Bool.false_eq_true]
theorem mp_O {N : Nat} (hN : N ≤ 4160) (hL : X 47 8 = nI N) : ∀ k p, N - p ≤ k → p ≤ N → (ip_WP 29 2 [some (.ref 47), some (.int 1)] [] (g0, fld (ip_up X 47 37 (nI p)) y, I, J) b post px ↔ post none (g0, fld (ip_up X 47 37 (nI (swT (I 51) (N - p) p false))) y, I, J)) := by
  intro k
  induction k with
  | zero =>
    intro p hk hp
    have e : p = N := by omega
    subst e
    have c1 : nI p ≤ nI p := Int32.le_refl _
    rw [s29_2]
    simp only [s29_0, s29_1, s29_3, s29_7, s29_10, s29_11, s29_14, s29_17, s29_18, s29_21, s29_22, s29_25, s29_26, s29_29, s29_32, s29_33, s29_34, s29_37, s29_38, s29_39, s29_42, s29_46, s29_49, s29_50, s29_53, s29_56, s29_57, s29_60, s29_61, s29_64, s29_65, s29_67, s29_70, s29_71, s29_74, s29_75, s29_77, s29_80, s29_81, s29_84, s29_85, s29_88, s29_91, s29_92, s29_95, s29_96, s29_99, s29_100, s29_102, s29_105, s29_106, s29_107, s29_110, s29_111, s29_112, s29_115, s29_118, qe_m1_0, qe_m1_1, qe_m1_2, qe_m1_3, qe_m1_4, qe_m1_5, qe_m1_6, qe_m1_7, qe_m1_8, qe_0_m1, qe_0_1, qe_0_2, qe_0_3, qe_0_4, qe_0_5, qe_0_6, qe_0_7, qe_0_8, qe_1_m1, qe_1_0, qe_1_2, qe_1_3, qe_1_4, qe_1_5, qe_1_6, qe_1_7, qe_1_8, qe_2_m1, qe_2_0, qe_2_1, qe_2_3, qe_2_4, qe_2_5, qe_2_6, qe_2_7, qe_2_8, qe_3_m1, qe_3_0, qe_3_1, qe_3_2, qe_3_4, qe_3_5, qe_3_6, qe_3_7, qe_3_8, qe_4_m1, qe_4_0, qe_4_1, qe_4_2, qe_4_3, qe_4_5, qe_4_6, qe_4_7, qe_4_8, qe_5_m1, qe_5_0, qe_5_1, qe_5_2, qe_5_3, qe_5_4, qe_5_6, qe_5_7, qe_5_8, qe_6_m1, qe_6_0, qe_6_1, qe_6_2, qe_6_3, qe_6_4, qe_6_5, qe_6_7, qe_6_8, qe_7_m1, qe_7_0, qe_7_1, qe_7_2, qe_7_3, qe_7_4, qe_7_5, qe_7_6, qe_7_8, qe_8_m1, qe_8_0, qe_8_1, qe_8_2, qe_8_3, qe_8_4, qe_8_5, qe_8_6, qe_8_7, Option.toList_some, Option.toList_none, List.cons_append, List.nil_append, List.append_nil, ip_on_some, true_and, and_true, if_true, if_false, not_true_eq_false, not_false_eq_true, decide_true, true_or, or_true, or_self, Bool.false_eq_true]
    rw [mp_A hN hL 0 p rfl, wsk, Nat.sub_self, swT, s29_45]
    simp only [s29_0, s29_1, s29_3, s29_7, s29_10, s29_11, s29_14, s29_17, s29_18, s29_21, s29_22, s29_25, s29_26, s29_29, s29_32, s29_33, s29_34, s29_37, s29_38, s29_39, s29_42, s29_46, s29_49, s29_50, s29_53, s29_56, s29_57, s29_60, s29_61, s29_64, s29_65, s29_67, s29_70, s29_71, s29_74, s29_75, s29_77, s29_80, s29_81, s29_84, s29_85, s29_88, s29_91, s29_92, s29_95, s29_96, s29_99, s29_100, s29_102, s29_105, s29_106, s29_107, s29_110, s29_111, s29_112, s29_115, s29_118, f_47_0, f_47_1, u_47_1, f_47_2, u_47_2, f_47_3, f_47_4, u_47_4, f_47_5, f_47_6, u_47_6, f_47_7, u_47_7, f_47_8, u_47_8, f_47_9, u_47_9, f_47_10, u_47_10, f_47_11, f_47_12, f_47_13, f_47_14, f_47_15, f_47_16, f_47_17, f_47_18, f_47_19, f_47_20, f_47_21, f_47_22, f_47_23, u_47_23, f_47_24, f_47_25, f_47_26, f_47_27, f_47_28, f_47_29, u_47_29, f_47_30, u_47_30, f_47_31, f_47_32, f_47_33, f_47_34, f_47_35, u_47_35, f_47_36, u_47_36, f_47_37, u_47_37, f_47_38, u_47_38, o_47, a_51, l_51, up1, updF_ap, Nat.reduceEqDiff, hL, c1, Option.toList_some, Option.toList_none, List.cons_append, List.nil_append, List.append_nil, ip_on_some, true_and, and_true, if_true, if_false, not_true_eq_false, not_false_eq_true, decide_true, true_or, or_true, or_self, Bool.false_eq_true]
    rw [s29_76]
    simp only [s29_0, s29_1, s29_3, s29_7, s29_10, s29_11, s29_14, s29_17, s29_18, s29_21, s29_22, s29_25, s29_26, s29_29, s29_32, s29_33, s29_34, s29_37, s29_38, s29_39, s29_42, s29_46, s29_49, s29_50, s29_53, s29_56, s29_57, s29_60, s29_61, s29_64, s29_65, s29_67, s29_70, s29_71, s29_74, s29_75, s29_77, s29_80, s29_81, s29_84, s29_85, s29_88, s29_91, s29_92, s29_95, s29_96, s29_99, s29_100, s29_102, s29_105, s29_106, s29_107, s29_110, s29_111, s29_112, s29_115, s29_118, Option.toList_some, Option.toList_none, List.cons_append, List.nil_append, List.append_nil, ip_on_some, true_and, and_true, if_true, if_false, not_true_eq_false, not_false_eq_true, decide_true, true_or, or_true, or_self, Bool.false_eq_true]
    rw [s29_2]
    simp only [s29_0, s29_1, s29_3, s29_7, s29_10, s29_11, s29_14, s29_17, s29_18, s29_21, s29_22, s29_25, s29_26, s29_29, s29_32, s29_33, s29_34, s29_37, s29_38, s29_39, s29_42, s29_46, s29_49, s29_50, s29_53, s29_56, s29_57, s29_60, s29_61, s29_64, s29_65, s29_67, s29_70, s29_71, s29_74, s29_75, s29_77, s29_80, s29_81, s29_84, s29_85, s29_88, s29_91, s29_92, s29_95, s29_96, s29_99, s29_100, s29_102, s29_105, s29_106, s29_107, s29_110, s29_111, s29_112, s29_115, s29_118, Option.toList_some, Option.toList_none, List.cons_append, List.nil_append, List.append_nil, ip_on_some, true_and, and_true, if_true, if_false, not_true_eq_false, not_false_eq_true, decide_true, true_or, or_true, or_self, Bool.false_eq_true]
  | succ k ih =>
    intro p hk hp
    have hw := wsk_ge (I 51) (N - p) p
    have e1 := sw_wsk (I 51) (N - p) p
    rw [show p + (N - p) = N from by omega] at hw e1
    rw [s29_2]
    simp only [s29_0, s29_1, s29_3, s29_7, s29_10, s29_11, s29_14, s29_17, s29_18, s29_21, s29_22, s29_25, s29_26, s29_29, s29_32, s29_33, s29_34, s29_37, s29_38, s29_39, s29_42, s29_46, s29_49, s29_50, s29_53, s29_56, s29_57, s29_60, s29_61, s29_64, s29_65, s29_67, s29_70, s29_71, s29_74, s29_75, s29_77, s29_80, s29_81, s29_84, s29_85, s29_88, s29_91, s29_92, s29_95, s29_96, s29_99, s29_100, s29_102, s29_105, s29_106, s29_107, s29_110, s29_111, s29_112, s29_115, s29_118, qe_m1_0, qe_m1_1, qe_m1_2, qe_m1_3, qe_m1_4, qe_m1_5, qe_m1_6, qe_m1_7, qe_m1_8, qe_0_m1, qe_0_1, qe_0_2, qe_0_3, qe_0_4, qe_0_5, qe_0_6, qe_0_7, qe_0_8, qe_1_m1, qe_1_0, qe_1_2, qe_1_3, qe_1_4, qe_1_5, qe_1_6, qe_1_7, qe_1_8, qe_2_m1, qe_2_0, qe_2_1, qe_2_3, qe_2_4, qe_2_5, qe_2_6, qe_2_7, qe_2_8, qe_3_m1, qe_3_0, qe_3_1, qe_3_2, qe_3_4, qe_3_5, qe_3_6, qe_3_7, qe_3_8, qe_4_m1, qe_4_0, qe_4_1, qe_4_2, qe_4_3, qe_4_5, qe_4_6, qe_4_7, qe_4_8, qe_5_m1, qe_5_0, qe_5_1, qe_5_2, qe_5_3, qe_5_4, qe_5_6, qe_5_7, qe_5_8, qe_6_m1, qe_6_0, qe_6_1, qe_6_2, qe_6_3, qe_6_4, qe_6_5, qe_6_7, qe_6_8, qe_7_m1, qe_7_0, qe_7_1, qe_7_2, qe_7_3, qe_7_4, qe_7_5, qe_7_6, qe_7_8, qe_8_m1, qe_8_0, qe_8_1, qe_8_2, qe_8_3, qe_8_4, qe_8_5, qe_8_6, qe_8_7, Option.toList_some, Option.toList_none, List.cons_append, List.nil_append, List.append_nil, ip_on_some, true_and, and_true, if_true, if_false, not_true_eq_false, not_false_eq_true, decide_true, true_or, or_true, or_self, Bool.false_eq_true]
    rw [mp_A hN hL (N - p) p (by omega), e1, s29_45]
    generalize wsk (I 51) (N - p) p = p1 at hw
    by_cases c : N ≤ p1
    · have e : p1 = N := by omega
      subst e
      have c1 : nI p1 ≤ nI p1 := Int32.le_refl _
      simp only [s29_0, s29_1, s29_3, s29_7, s29_10, s29_11, s29_14, s29_17, s29_18, s29_21, s29_22, s29_25, s29_26, s29_29, s29_32, s29_33, s29_34, s29_37, s29_38, s29_39, s29_42, s29_46, s29_49, s29_50, s29_53, s29_56, s29_57, s29_60, s29_61, s29_64, s29_65, s29_67, s29_70, s29_71, s29_74, s29_75, s29_77, s29_80, s29_81, s29_84, s29_85, s29_88, s29_91, s29_92, s29_95, s29_96, s29_99, s29_100, s29_102, s29_105, s29_106, s29_107, s29_110, s29_111, s29_112, s29_115, s29_118, f_47_0, f_47_1, u_47_1, f_47_2, u_47_2, f_47_3, f_47_4, u_47_4, f_47_5, f_47_6, u_47_6, f_47_7, u_47_7, f_47_8, u_47_8, f_47_9, u_47_9, f_47_10, u_47_10, f_47_11, f_47_12, f_47_13, f_47_14, f_47_15, f_47_16, f_47_17, f_47_18, f_47_19, f_47_20, f_47_21, f_47_22, f_47_23, u_47_23, f_47_24, f_47_25, f_47_26, f_47_27, f_47_28, f_47_29, u_47_29, f_47_30, u_47_30, f_47_31, f_47_32, f_47_33, f_47_34, f_47_35, u_47_35, f_47_36, u_47_36, f_47_37, u_47_37, f_47_38, u_47_38, o_47, a_51, l_51, up1, updF_ap, Nat.reduceEqDiff, hL, c1, Option.toList_some, Option.toList_none, List.cons_append, List.nil_append, List.append_nil, ip_on_some, true_and, and_true, if_true, if_false, not_true_eq_false, not_false_eq_true, decide_true, true_or, or_true, or_self, Bool.false_eq_true]
      rw [s29_76]
      simp only [s29_0, s29_1, s29_3, s29_7, s29_10, s29_11, s29_14, s29_17, s29_18, s29_21, s29_22, s29_25, s29_26, s29_29, s29_32, s29_33, s29_34, s29_37, s29_38, s29_39, s29_42, s29_46, s29_49, s29_50, s29_53, s29_56, s29_57, s29_60, s29_61, s29_64, s29_65, s29_67, s29_70, s29_71, s29_74, s29_75, s29_77, s29_80, s29_81, s29_84, s29_85, s29_88, s29_91, s29_92, s29_95, s29_96, s29_99, s29_100, s29_102, s29_105, s29_106, s29_107, s29_110, s29_111, s29_112, s29_115, s29_118, Option.toList_some, Option.toList_none, List.cons_append, List.nil_append, List.append_nil, ip_on_some, true_and, and_true, if_true, if_false, not_true_eq_false, not_false_eq_true, decide_true, true_or, or_true, or_self, Bool.false_eq_true]
      rw [s29_2, Nat.sub_self, swT]
      simp only [s29_0, s29_1, s29_3, s29_7, s29_10, s29_11, s29_14, s29_17, s29_18, s29_21, s29_22, s29_25, s29_26, s29_29, s29_32, s29_33, s29_34, s29_37, s29_38, s29_39, s29_42, s29_46, s29_49, s29_50, s29_53, s29_56, s29_57, s29_60, s29_61, s29_64, s29_65, s29_67, s29_70, s29_71, s29_74, s29_75, s29_77, s29_80, s29_81, s29_84, s29_85, s29_88, s29_91, s29_92, s29_95, s29_96, s29_99, s29_100, s29_102, s29_105, s29_106, s29_107, s29_110, s29_111, s29_112, s29_115, s29_118, Option.toList_some, Option.toList_none, List.cons_append, List.nil_append, List.append_nil, ip_on_some, true_and, and_true, if_true, if_false, not_true_eq_false, not_false_eq_true, decide_true, true_or, or_true, or_self, Bool.false_eq_true]
    · have c1 : ¬ nI N ≤ nI p1 := nI_ge (by omega) (by omega)
      have c2 : ¬ nI p1 < 0 := nI_pos (by omega)
      have c3 : ¬ 4400 ≤ p1 := by omega
      have hbl := hw.2.2 (by omega)
      simp only [s29_0, s29_1, s29_3, s29_7, s29_10, s29_11, s29_14, s29_17, s29_18, s29_21, s29_22, s29_25, s29_26, s29_29, s29_32, s29_33, s29_34, s29_37, s29_38, s29_39, s29_42, s29_46, s29_49, s29_50, s29_53, s29_56, s29_57, s29_60, s29_61, s29_64, s29_65, s29_67, s29_70, s29_71, s29_74, s29_75, s29_77, s29_80, s29_81, s29_84, s29_85, s29_88, s29_91, s29_92, s29_95, s29_96, s29_99, s29_100, s29_102, s29_105, s29_106, s29_107, s29_110, s29_111, s29_112, s29_115, s29_118, f_47_0, f_47_1, u_47_1, f_47_2, u_47_2, f_47_3, f_47_4, u_47_4, f_47_5, f_47_6, u_47_6, f_47_7, u_47_7, f_47_8, u_47_8, f_47_9, u_47_9, f_47_10, u_47_10, f_47_11, f_47_12, f_47_13, f_47_14, f_47_15, f_47_16, f_47_17, f_47_18, f_47_19, f_47_20, f_47_21, f_47_22, f_47_23, u_47_23, f_47_24, f_47_25, f_47_26, f_47_27, f_47_28, f_47_29, u_47_29, f_47_30, u_47_30, f_47_31, f_47_32, f_47_33, f_47_34, f_47_35, u_47_35, f_47_36, u_47_36, f_47_37, u_47_37, f_47_38, u_47_38, o_47, a_51, l_51, up1, updF_ap, Nat.reduceEqDiff, hL, c1, nI_clamp (show p1 < 2 ^ 31 by omega), c2, c3, Option.toList_some, Option.toList_none, List.cons_append, List.nil_append, List.append_nil, ip_on_some, true_and, and_true, if_true, if_false, not_true_eq_false, not_false_eq_true, decide_true, true_or, or_true, or_self, Bool.false_eq_true]
      obtain ⟨m, hm⟩ : ∃ m, N - p1 = m + 1 := ⟨N - p1 - 1, by omega⟩
      by_cases q : I 51 p1 = 35
      · simp only [q, Option.toList_some, Option.toList_none, List.cons_append, List.nil_append, List.append_nil, ip_on_some, true_and, and_true, if_true, if_false, not_true_eq_false, not_false_eq_true, decide_true, true_or, or_true, or_self, Bool.false_eq_true]
        rw [mp_B hN hL (N - p1) p1 (by omega)]
        have hg := csk_ge (I 51) m (p1 + 1)
        have e2 := sw_csk (I 51) m (p1 + 1)
        have e3 : csk (I 51) (N - p1) p1 = csk (I 51) m (p1 + 1) := by rw [hm, csk, if_neg (by rw [q]; decide)]
        rw [e3, ih _ (by omega) (by omega), hm, swT, if_pos q, e2]
        rw [show p1 + 1 + m - csk (I 51) m (p1 + 1) = N - csk (I 51) m (p1 + 1) from by omega]
      · simp only [q, Option.toList_some, Option.toList_none, List.cons_append, List.nil_append, List.append_nil, ip_on_some, true_and, and_true, if_true, if_false, not_true_eq_false, not_false_eq_true, decide_true, true_or, or_true, or_self, Bool.false_eq_true]
        rw [s29_76]
        simp only [s29_0, s29_1, s29_3, s29_7, s29_10, s29_11, s29_14, s29_17, s29_18, s29_21, s29_22, s29_25, s29_26, s29_29, s29_32, s29_33, s29_34, s29_37, s29_38, s29_39, s29_42, s29_46, s29_49, s29_50, s29_53, s29_56, s29_57, s29_60, s29_61, s29_64, s29_65, s29_67, s29_70, s29_71, s29_74, s29_75, s29_77, s29_80, s29_81, s29_84, s29_85, s29_88, s29_91, s29_92, s29_95, s29_96, s29_99, s29_100, s29_102, s29_105, s29_106, s29_107, s29_110, s29_111, s29_112, s29_115, s29_118, Option.toList_some, Option.toList_none, List.cons_append, List.nil_append, List.append_nil, ip_on_some, true_and, and_true, if_true, if_false, not_true_eq_false, not_false_eq_true, decide_true, true_or, or_true, or_self, Bool.false_eq_true]
        rw [s29_2]
        simp only [s29_0, s29_1, s29_3, s29_7, s29_10, s29_11, s29_14, s29_17, s29_18, s29_21, s29_22, s29_25, s29_26, s29_29, s29_32, s29_33, s29_34, s29_37, s29_38, s29_39, s29_42, s29_46, s29_49, s29_50, s29_53, s29_56, s29_57, s29_60, s29_61, s29_64, s29_65, s29_67, s29_70, s29_71, s29_74, s29_75, s29_77, s29_80, s29_81, s29_84, s29_85, s29_88, s29_91, s29_92, s29_95, s29_96, s29_99, s29_100, s29_102, s29_105, s29_106, s29_107, s29_110, s29_111, s29_112, s29_115, s29_118, Option.toList_some, Option.toList_none, List.cons_append, List.nil_append, List.append_nil, ip_on_some, true_and, and_true, if_true, if_false, not_true_eq_false, not_false_eq_true, decide_true, true_or, or_true, or_self, Bool.false_eq_true]
        rw [hm, swT, if_neg q, if_neg (fun e => hbl (isBl_iff.mpr (Or.inr (Or.inl e)))), if_neg (by decide), if_neg hbl]
theorem md_pass {N p : Nat} (hN : N ≤ 4160) (hL : X 47 8 = nI N) (hp : X 47 37 = nI p) (hpN : p ≤ N) : ip_WP 29 0 [some (.ref 47), none] [] (g0, fld X y, I, J) b post px ↔ post none (g0, fld (ip_up X 47 37 (nI (swT (I 51) (N - p) p false))) y, I, J) := by
  have h := mp_O (y := y) (I := I) (J := J) (b := b) (post := post) (px := px) hN hL N p (by omega) hpN
  rw [up_self hp] at h
  rw [s29_0, s29_1]
  exact h
end
