/-! constructors: words, lexer, reader, and the class itself -/
def JW (sc : Nat → Int64) (i : Nat) : Nat → Nat → Int64 := fun a j => if a = 35 ∧ i ≤ j then 0 else Jf sc a j
theorem JW_0 {sc : Nat → Int64} : (fun a j => if a = 35 then (0 : Int64) else Jf sc a j) = JW sc 0 := by
  funext a j
  unfold JW
  by_cases q : a = 35
  · rw [if_pos q, if_pos ⟨q, Nat.zero_le _⟩]
  · rw [if_neg q, if_neg (fun z => q z.1)]
theorem JW_s {sc : Nat → Int64} {i : Nat} : ip_up (JW sc i) 35 i (kfL.getD i 0) = JW sc (i + 1) := by
  funext a j
  unfold ip_up JW
  by_cases q : a = 35
  · subst q
    by_cases z : j = i
    · subst z
      rw [if_pos ⟨rfl, rfl⟩, if_neg (fun w => by have := w.2; omega)]
      rfl
    · rw [if_neg (fun w => z w.2)]
      by_cases w : i ≤ j
      · rw [if_pos ⟨rfl, w⟩, if_pos ⟨rfl, by omega⟩]
      · rw [if_neg (fun u => w u.2), if_neg (fun u => w (by have := u.2; omega))]
  · rw [if_neg (fun w => q w.1), if_neg (fun w => q w.1), if_neg (fun w => q w.1)]
theorem JW_17 {sc : Nat → Int64} : JW sc 17 = Jf sc := by
  funext a j
  unfold JW
  by_cases q : a = 35 ∧ 17 ≤ j
  · rw [if_pos q, q.1]
    show (0 : Int64) = kfL.getD j 0
    rw [List.getD_eq_getElem?_getD, List.getElem?_eq_none (show kfL.length ≤ j from q.2)]
    rfl
  · rw [if_neg q]
theorem rs_193_1_17 : ip_rst 193 (1, 17) = (0, 0) := by decide +kernel
theorem rs_125_2_18 : ip_rst 125 (2, 18) = (0, 0) := by decide +kernel
theorem rs_87_45_9345 : ip_rst 87 (45, 9345) = (44, 5185) := by decide +kernel
theorem rs_87_43_5183 : ip_rst 87 (43, 5183) = (42, 1023) := by decide +kernel
theorem rs_102_41_1008 : ip_rst 102 (41, 1008) = (15, 322) := by decide +kernel
theorem rs_160_14_313 : ip_rst 160 (14, 313) = (11, 288) := by decide +kernel
theorem rs_119_9_283 : ip_rst 119 (9, 283) = (5, 143) := by decide +kernel
theorem rs_119_4_140 : ip_rst 119 (4, 140) = (0, 0) := by decide +kernel
section
variable {F : Nat → Nat → Value} {I : Nat → Nat → Int32} {J : Nat → Nat → Int64} {b : ip_B} {post : Option Value → ip_H → Prop} {px : String → ip_H → Prop} {sc : Nat → Int64}
theorem cc_words (hF : ∀ a, 34 ≤ a → F a = fld Xf 0 a) (hp : post none (gT 36, F, If, Jf sc)) : ip_WP 193 0 [some (.ref 34), none] [] (gT 35, fr 34 10 F, If, Jf sc) (1, 17) post px := by
  have e : ip_up (fr 34 10 F) 34 0 (.ref 35) = F := by
    funext a i
    by_cases q : a = 34
    · subst q
      rw [hF 34 (Nat.le_refl _)]
      match i with
      | 0 => rfl
      | i + 1 => rfl
    · simp [ip_up, fr, q]
  have f34 : F 34 0 = .ref 35 := congrFun (hF 34 (Nat.le_refl _)) 0
  have o34 : ip_isO (gT 36) 34 10 = true := rfl
  have c17 : (17 : Int32).toNatClampNeg = 17 := by decide
  have loop : ∀ m i, i + m = 17 → ∀ b, ip_WP 193 14 [some (.ref 34), some (.int (nI i))] [] (gT 36, F, If, JW sc i) b post px := by
    intro m
    induction m with
    | zero =>
      intro i hi b
      have ei : i = 17 := by omega
      subst ei
      have c1 : (17 : Int32) ≤ nI 17 := by decide
      rw [s193_14]
      simp only [s193_0, s193_1, s193_4, s193_5, s193_7, s193_9, s193_12, s193_13, s193_15, s193_17, s193_20, s193_21, s193_24, s193_25, s193_28, s193_29, s193_30, s193_33, s193_36, s193_37, s193_40, s193_43, c1, JW_17, Option.toList_some, Option.toList_none, List.cons_append, List.nil_append, List.append_nil, ip_on_some, true_and, and_true, if_true, if_false, not_true_eq_false, not_false_eq_true, decide_true, true_or, or_true, or_self, Bool.false_eq_true]
      exact hp
    | succ m ih =>
      intro i hi b
      have hi' : i < 17 := by omega
      have c1 : ¬ (17 : Int32) ≤ nI i := nI_ge (b := 17) hi' (by decide)
      have a35 : ip_inA (gT 36) 35 2 (nI i) = true := by
        rw [ip_inA_eq (n := 17) rfl, nI_clamp (by omega)]
        have d1 : ¬ nI i < 0 := nI_pos (by omega)
        have d2 : ¬ 17 ≤ i := by omega
        simp [d1, d2]
      rw [s193_14]
      simp only [s193_0, s193_1, s193_4, s193_5, s193_7, s193_9, s193_12, s193_13, s193_15, s193_17, s193_20, s193_21, s193_24, s193_25, s193_28, s193_29, s193_30, s193_33, s193_36, s193_37, s193_40, s193_43, c1, o34, f34, Option.toList_some, Option.toList_none, List.cons_append, List.nil_append, List.append_nil, ip_on_some, true_and, and_true, if_true, if_false, not_true_eq_false, not_false_eq_true, decide_true, true_or, or_true, or_self, Bool.false_eq_true]
      refine cx_text hi' ?_
      simp only [s193_0, s193_1, s193_4, s193_5, s193_7, s193_9, s193_12, s193_13, s193_15, s193_17, s193_20, s193_21, s193_24, s193_25, s193_28, s193_29, s193_30, s193_33, s193_36, s193_37, s193_40, s193_43, Option.toList_some, Option.toList_none, List.cons_append, List.nil_append, List.append_nil, ip_on_some, true_and, and_true, if_true, if_false, not_true_eq_false, not_false_eq_true, decide_true, true_or, or_true, or_self, Bool.false_eq_true]
      refine cx_key (k := 21 + i) (by omega) ?_
      simp only [s193_0, s193_1, s193_4, s193_5, s193_7, s193_9, s193_12, s193_13, s193_15, s193_17, s193_20, s193_21, s193_24, s193_25, s193_28, s193_29, s193_30, s193_33, s193_36, s193_37, s193_40, s193_43, a35, key_f i hi', nI_clamp (show i < 2 ^ 31 by omega), JW_s, nI_1, Option.toList_some, Option.toList_none, List.cons_append, List.nil_append, List.append_nil, ip_on_some, true_and, and_true, if_true, if_false, not_true_eq_false, not_false_eq_true, decide_true, true_or, or_true, or_self, Bool.false_eq_true]
      exact ih (i + 1) (by omega) b
  rw [s193_0, s193_1, s193_4, s193_5, s193_7, gl_35, c17, gx_35, JW_0, zeroI (show ∀ j, If 35 j = 0 from fun _ => rfl)]
  refine ⟨by decide, by decide, ?_⟩
  rw [s193_9]
  refine ⟨o34, by decide, ?_⟩
  rw [e, s193_12, s193_13]
  exact loop 17 0 rfl _
theorem cc_lexer {F : Nat → Nat → Value} (hF : ∀ a, 33 ≤ a → F a = fld Xf 0 a) (hp : post none (gT 36, F, If, Jf sc)) : ip_WP 125 0 [some (.ref 33), some (.ref 1)] [] (gT 34, fr 33 5 F, If, Jf sc) (2, 18) post px := by
  rw [s125_0, s125_1, s125_4, s125_5]
  rw [s125_6]
  refine ⟨by decide, by decide, ?_⟩
  rw [s125_9]
  rw [s125_10, gl_34, gx_34]
  refine ⟨by decide, by decide, ?_⟩
  show ip_WP 125 13 [some (.ref 33), some (.ref 1)] [.ref 34, .ref 33] (gT 35, fr 34 10 (ip_up (fr 33 5 F) 33 0 (.ref 1)), If, Jf sc) (1, 17) post px
  rw [s125_13]
  rw [s125_14]
  refine ⟨by decide, by decide, ?_⟩
  refine cc_words (F := ip_up (fr 33 5 F) 33 0 (.ref 1)) (fun a ha => (show (ip_up (fr 33 5 F) 33 0 (.ref 1)) a = F a from (by have q : a ≠ 33 := (by omega); funext i; simp [ip_up, fr, q])).trans (hF a (by omega))) ?_
  show ip_WP 125 17 [some (.ref 33), some (.ref 1)] [.ref 34, .ref 33] (gT 36, ip_up (fr 33 5 F) 33 0 (.ref 1), If, Jf sc) (ip_rst 193 (1, 17)) post px
  rw [rs_193_1_17]
  rw [s125_17]
  refine ⟨by decide, by decide, ?_⟩
  rw [s125_20]
  rw [s125_21]
  refine ⟨by decide, ?_⟩
  simp only [s126_0, s126_1, s126_2, s126_5, s126_6, s126_7, s126_10, s126_11, s126_12, s126_15, s126_16, s126_17, s126_20, s126_21, s126_22, s126_25, show ip_isO (gT 36) 33 5 = true from rfl, Option.toList_some, Option.toList_none, List.cons_append, List.nil_append, List.append_nil, ip_on_some, true_and, and_true, if_true, if_false, not_true_eq_false, not_false_eq_true, decide_true, true_or, or_true, or_self, Bool.false_eq_true]
  show ip_WP 125 24 [some (.ref 33), some (.ref 1)] [] (gT 36, ip_up (ip_up (ip_up (ip_up (ip_up (ip_up (ip_up (fr 33 5 F) 33 0 (.ref 1)) 33 1 (.ref 34)) 33 2 (.int 0)) 33 4 (.int 0)) 33 3 (.int 0)) 33 5 (.long 0)) 33 6 (.int 0), If, Jf sc) (0, 0) post px
  rw [s125_24]
  have e : ip_up (ip_up (ip_up (ip_up (ip_up (ip_up (ip_up (fr 33 5 F) 33 0 (.ref 1)) 33 1 (.ref 34)) 33 2 (.int 0)) 33 4 (.int 0)) 33 3 (.int 0)) 33 5 (.long 0)) 33 6 (.int 0) = F := by
    funext a i
    by_cases q : a = 33
    · subst q
      rw [hF 33 (Nat.le_refl _)]
      match i with
      | 0 => rfl
      | 1 => rfl
      | 2 => rfl
      | 3 => rfl
      | 4 => rfl
      | 5 => rfl
      | 6 => rfl
      | i + 7 => rfl
    · simp [ip_up, fr, q]
  rw [e]
  exact hp
theorem cc_reader {F : Nat → Nat → Value} (hF : ∀ a, 32 ≤ a → F a = fld Xf 0 a) (hp : post none (gT 36, F, If, Jf sc)) : ip_WP 160 0 [some (.ref 32), some (.ref 1), some (.ref 5)] [] (gT 33, fr 32 8 F, If, Jf sc) (3, 25) post px := by
  rw [s160_0, s160_1, s160_4, s160_5]
  rw [s160_6]
  refine ⟨by decide, by decide, ?_⟩
  rw [s160_9, s160_10]
  rw [s160_11]
  refine ⟨by decide, by decide, ?_⟩
  rw [s160_14]
  rw [s160_15, gl_33, gx_33]
  refine ⟨by decide, by decide, ?_⟩
  show ip_WP 160 18 [some (.ref 32), some (.ref 1), some (.ref 5)] [.ref 33, .ref 32] (gT 34, fr 33 5 (ip_up (ip_up (fr 32 8 F) 32 0 (.ref 1)) 32 1 (.ref 5)), If, Jf sc) (2, 18) post px
  rw [s160_18, s160_19]
  rw [s160_20]
  refine ⟨by decide, by decide, ?_⟩
  refine cc_lexer (F := ip_up (ip_up (fr 32 8 F) 32 0 (.ref 1)) 32 1 (.ref 5)) (fun a ha => (show (ip_up (ip_up (fr 32 8 F) 32 0 (.ref 1)) 32 1 (.ref 5)) a = F a from (by have q : a ≠ 32 := (by omega); funext i; simp [ip_up, fr, q])).trans (hF a (by omega))) ?_
  show ip_WP 160 23 [some (.ref 32), some (.ref 1), some (.ref 5)] [.ref 33, .ref 32] (gT 36, ip_up (ip_up (fr 32 8 F) 32 0 (.ref 1)) 32 1 (.ref 5), If, Jf sc) (ip_rst 125 (2, 18)) post px
  rw [rs_125_2_18]
  rw [s160_23]
  refine ⟨by decide, by decide, ?_⟩
  rw [s160_26]
  rw [s160_27]
  refine ⟨by decide, ?_⟩
  simp only [s164_0, s164_1, s164_4, s164_7, s164_8, s164_9, s164_12, s164_13, s164_14, s164_17, s164_18, s164_19, s164_22, s164_23, s164_24, s164_27, s164_28, s164_29, s164_32, s164_33, s164_34, s164_37, s126_0, s126_1, s126_2, s126_5, s126_6, s126_7, s126_10, s126_11, s126_12, s126_15, s126_16, s126_17, s126_20, s126_21, s126_22, s126_25, show ip_isO (gT 36) 33 5 = true from rfl, show ip_isO (gT 36) 32 8 = true from rfl, show (ip_up (ip_up (ip_up (fr 32 8 F) 32 0 (.ref 1)) 32 1 (.ref 5)) 32 2 (.ref 33)) 32 2 = .ref 33 from rfl, show ip_up (ip_up (ip_up (ip_up (fr 32 8 F) 32 0 (.ref 1)) 32 1 (.ref 5)) 32 2 (.ref 33)) 33 2 (.int 0) = ip_up (ip_up (ip_up (fr 32 8 F) 32 0 (.ref 1)) 32 1 (.ref 5)) 32 2 (.ref 33) from up_self (show (ip_up (ip_up (ip_up (fr 32 8 F) 32 0 (.ref 1)) 32 1 (.ref 5)) 32 2 (.ref 33)) 33 2 = .int 0 from congrFun (hF 33 (by decide)) 2), show ip_up (ip_up (ip_up (ip_up (fr 32 8 F) 32 0 (.ref 1)) 32 1 (.ref 5)) 32 2 (.ref 33)) 33 4 (.int 0) = ip_up (ip_up (ip_up (fr 32 8 F) 32 0 (.ref 1)) 32 1 (.ref 5)) 32 2 (.ref 33) from up_self (show (ip_up (ip_up (ip_up (fr 32 8 F) 32 0 (.ref 1)) 32 1 (.ref 5)) 32 2 (.ref 33)) 33 4 = .int 0 from congrFun (hF 33 (by decide)) 4), show ip_up (ip_up (ip_up (ip_up (fr 32 8 F) 32 0 (.ref 1)) 32 1 (.ref 5)) 32 2 (.ref 33)) 33 3 (.int 0) = ip_up (ip_up (ip_up (fr 32 8 F) 32 0 (.ref 1)) 32 1 (.ref 5)) 32 2 (.ref 33) from up_self (show (ip_up (ip_up (ip_up (fr 32 8 F) 32 0 (.ref 1)) 32 1 (.ref 5)) 32 2 (.ref 33)) 33 3 = .int 0 from congrFun (hF 33 (by decide)) 3), show ip_up (ip_up (ip_up (ip_up (fr 32 8 F) 32 0 (.ref 1)) 32 1 (.ref 5)) 32 2 (.ref 33)) 33 5 (.long 0) = ip_up (ip_up (ip_up (fr 32 8 F) 32 0 (.ref 1)) 32 1 (.ref 5)) 32 2 (.ref 33) from up_self (show (ip_up (ip_up (ip_up (fr 32 8 F) 32 0 (.ref 1)) 32 1 (.ref 5)) 32 2 (.ref 33)) 33 5 = .long 0 from congrFun (hF 33 (by decide)) 5), show ip_up (ip_up (ip_up (ip_up (fr 32 8 F) 32 0 (.ref 1)) 32 1 (.ref 5)) 32 2 (.ref 33)) 33 6 (.int 0) = ip_up (ip_up (ip_up (fr 32 8 F) 32 0 (.ref 1)) 32 1 (.ref 5)) 32 2 (.ref 33) from up_self (show (ip_up (ip_up (ip_up (fr 32 8 F) 32 0 (.ref 1)) 32 1 (.ref 5)) 32 2 (.ref 33)) 33 6 = .int 0 from congrFun (hF 33 (by decide)) 6), Option.toList_some, Option.toList_none, List.cons_append, List.nil_append, List.append_nil, ip_on_some, true_and, and_true, if_true, if_false, not_true_eq_false, not_false_eq_true, decide_true, true_or, or_true, or_self, Bool.false_eq_true]
  rw [s160_30]
  have e : ip_up (ip_up (ip_up (ip_up (ip_up (ip_up (ip_up (ip_up (ip_up (fr 32 8 F) 32 0 (.ref 1)) 32 1 (.ref 5)) 32 2 (.ref 33)) 32 3 (.int 0)) 32 4 (.int 0)) 32 5 (.int (-1))) 32 6 (.int 0)) 32 7 (.int (-1))) 32 8 (.int (-1)) = F := by
    funext a i
    by_cases q : a = 32
    · subst q
      rw [hF 32 (Nat.le_refl _)]
      match i with
      | 0 => rfl
      | 1 => rfl
      | 2 => rfl
      | 3 => rfl
      | 4 => rfl
      | 5 => rfl
      | 6 => rfl
      | 7 => rfl
      | 8 => rfl
      | i + 9 => rfl
    · simp [ip_up, fr, q]
  rw [e]
  exact hp
theorem ck_init (hp : ∀ X1 I1, FL X1 I1 37 2 39 41 (errs Xf If) → (∀ c, c ≠ 37 → X1 c = Xf c) → (∀ a, a ≠ 39 → a ≠ 41 → I1 a = If a) → post none (gT 47, fld X1 0, I1, J)) : ip_WP 96 0 [some (.ref 5), some (.ref 37), none, none] [] (gT 47, fld Xf 0, If, J) b post px := by
  have hFi : ∀ X : Nat → Nat → Int32, cFi (gT 47) (fld X 0) 37 38 39 40 41 52 := fun X => ⟨rfl, rfl, rfl, ⟨rfl, rfl, rfl, rfl, by decide⟩, ⟨rfl, rfl, rfl, rfl, by decide⟩⟩
  have hR : ∀ X : Nat → Nat → Int32, cRow (gT 47) (fld X 0) 20 21 7 (-1) := fun X => ⟨rfl, rfl, rfl, rfl, by decide⟩
  have hN : ∀ X : Nat → Nat → Int32, cNm (gT 47) (fld X 0) 6 7 12 := fun X => ⟨rfl, rfl, rfl, by decide⟩
  have o5 : ip_isO (gT 47) 5 3 = true := rfl
  have o37 : ip_isO (gT 47) 37 4 = true := rfl
  have o20 : ip_isO (gT 47) 20 9 = true := rfl
  have o6 : ip_isO (gT 47) 6 6 = true := rfl
  have want : ∀ (t : Nat) (b : ip_B) (post : Option Value → ip_H → Prop) (px : String → ip_H → Prop) (l : FD) (X1 I1 : Nat → Nat → Int32), t < 7 → l.length < 52 → FL X1 I1 37 2 39 41 l → (∀ c, c ≠ 37 → X1 c = Xf c) → (∀ a, a ≠ 39 → a ≠ 41 → I1 a = If a) → (∀ X2 I2, FL X2 I2 37 2 39 41 (l ++ [(1, nI t)]) → (∀ c, c ≠ 37 → X2 c = Xf c) → (∀ a, a ≠ 39 → a ≠ 41 → I2 a = If a) → post none (gT 47, fld X2 0, I2, J)) → ip_WP 97 0 [some (.ref 5), some (.ref 37), some (.int (nI t))] [] (gT 47, fld X1 0, I1, J) b post px := by
    intro t b post px l X1 I1 ht hl h1 h2 h3 hk
    have e21 : rget (I1 21) 7 (-1) (nI t) = -1 := by
      rw [h3 21 (by decide) (by decide), rget_nI ht (by decide)]
      show (if t < 7 then (-1 : Int32) else 0) = -1
      rw [if_pos ht]
    simp only [s97_0, s97_1, s97_4, s97_5, s97_8, s97_9, s97_12, s97_13, s97_14, s97_15, s97_18, f_5_7, o5, o20, o37, ct_Row_get (hR _), e21, ct_Fi_add (hFi _) f_37_2, u_37_2, Option.toList_some, Option.toList_none, List.cons_append, List.nil_append, List.append_nil, ip_on_some, true_and, and_true, if_true, if_false, not_true_eq_false, not_false_eq_true, decide_true, true_or, or_true, or_self, Bool.false_eq_true]
    exact hk _ _ (h1.add hl (by decide) (by decide)) (fun c hc => by rw [up1, if_neg hc]; exact h2 c hc) (fun a a0 a1 => by rw [rset_ne a1, rset_ne a0]; exact h3 a a0 a1)
  have ee : errs Xf If = [] ++ [((1 : Int32), nI 0)] ++ [((1 : Int32), nI 2)] ++ [((1 : Int32), nI 3)] ++ [((1 : Int32), nI 6)] := by decide +kernel
  simp only [s96_0, s96_1, s96_4, s96_5, s96_6, s96_7, s96_10, s96_11, s96_12, s96_13, s96_16, s96_17, s96_18, s96_19, s96_22, s96_23, s96_24, s96_26, s96_29, s96_30, s96_32, s96_33, s96_36, s96_37, s96_38, s96_39, s96_40, s96_43, s96_46, s96_49, s96_50, s96_51, s96_52, s96_55, s96_58, s96_59, s96_60, s96_61, s96_64, s96_67, s96_70, s96_73, s96_76, o37, ct_Fi_clear (hFi _), u_37_2, Option.toList_some, Option.toList_none, List.cons_append, List.nil_append, List.append_nil, ip_on_some, true_and, and_true, if_true, if_false, not_true_eq_false, not_false_eq_true, decide_true, true_or, or_true, or_self, Bool.false_eq_true]
  refine want 0 _ _ _ [] _ _ (by decide) (by decide) ⟨by rw [up1, if_pos rfl, updF_ap, if_pos rfl]; rfl, fun i q hq => by simp at hq⟩ (fun c hc => by rw [up1, if_neg hc]) (fun _ _ _ => rfl) (fun X2 I2 h1 h2 h3 => ?_)
  simp only [s96_0, s96_1, s96_4, s96_5, s96_6, s96_7, s96_10, s96_11, s96_12, s96_13, s96_16, s96_17, s96_18, s96_19, s96_22, s96_23, s96_24, s96_26, s96_29, s96_30, s96_32, s96_33, s96_36, s96_37, s96_38, s96_39, s96_40, s96_43, s96_46, s96_49, s96_50, s96_51, s96_52, s96_55, s96_58, s96_59, s96_60, s96_61, s96_64, s96_67, s96_70, s96_73, s96_76, Option.toList_some, Option.toList_none, List.cons_append, List.nil_append, List.append_nil, ip_on_some, true_and, and_true, if_true, if_false, not_true_eq_false, not_false_eq_true, decide_true, true_or, or_true, or_self, Bool.false_eq_true]
  refine want 2 _ _ _ _ _ _ (by decide) (by decide) h1 h2 h3 (fun X2 I2 h1 h2 h3 => ?_)
  simp only [s96_0, s96_1, s96_4, s96_5, s96_6, s96_7, s96_10, s96_11, s96_12, s96_13, s96_16, s96_17, s96_18, s96_19, s96_22, s96_23, s96_24, s96_26, s96_29, s96_30, s96_32, s96_33, s96_36, s96_37, s96_38, s96_39, s96_40, s96_43, s96_46, s96_49, s96_50, s96_51, s96_52, s96_55, s96_58, s96_59, s96_60, s96_61, s96_64, s96_67, s96_70, s96_73, s96_76, Option.toList_some, Option.toList_none, List.cons_append, List.nil_append, List.append_nil, ip_on_some, true_and, and_true, if_true, if_false, not_true_eq_false, not_false_eq_true, decide_true, true_or, or_true, or_self, Bool.false_eq_true]
  refine want 3 _ _ _ _ _ _ (by decide) (by decide) h1 h2 h3 (fun X2 I2 h1 h2 h3 => ?_)
  simp only [s96_0, s96_1, s96_4, s96_5, s96_6, s96_7, s96_10, s96_11, s96_12, s96_13, s96_16, s96_17, s96_18, s96_19, s96_22, s96_23, s96_24, s96_26, s96_29, s96_30, s96_32, s96_33, s96_36, s96_37, s96_38, s96_39, s96_40, s96_43, s96_46, s96_49, s96_50, s96_51, s96_52, s96_55, s96_58, s96_59, s96_60, s96_61, s96_64, s96_67, s96_70, s96_73, s96_76, Option.toList_some, Option.toList_none, List.cons_append, List.nil_append, List.append_nil, ip_on_some, true_and, and_true, if_true, if_false, not_true_eq_false, not_false_eq_true, decide_true, true_or, or_true, or_self, Bool.false_eq_true]
  refine want 6 _ _ _ _ _ _ (by decide) (by decide) h1 h2 h3 (fun X2 I2 h1 h2 h3 => ?_)
  have x6 : X2 6 1 = 0 := by rw [h2 6 (by decide)]; rfl
  rw [← ee] at h1
  have stp : ∀ (v : Int32) (x : Option Value) (b : ip_B) (px : String → ip_H → Prop), ¬ 5 < v → (∀ x', ip_WP 96 31 [some (.ref 5), some (.ref 37), some (.int (v + 1)), x'] [] (gT 47, fld X2 0, I2, J) b post px) → ip_WP 96 31 [some (.ref 5), some (.ref 37), some (.int v), x] [] (gT 47, fld X2 0, I2, J) b post px := by
    intro v x b px c h
    rw [s96_31]
    simp only [s96_0, s96_1, s96_4, s96_5, s96_6, s96_7, s96_10, s96_11, s96_12, s96_13, s96_16, s96_17, s96_18, s96_19, s96_22, s96_23, s96_24, s96_26, s96_29, s96_30, s96_32, s96_33, s96_36, s96_37, s96_38, s96_39, s96_40, s96_43, s96_46, s96_49, s96_50, s96_51, s96_52, s96_55, s96_58, s96_59, s96_60, s96_61, s96_64, s96_67, s96_70, s96_73, s96_76, f_5_0, o5, o6, ct_Nm_size (hN _) f_6_1, x6, c, Int32.reduceLE, Option.toList_some, Option.toList_none, List.cons_append, List.nil_append, List.append_nil, ip_on_some, true_and, and_true, if_true, if_false, not_true_eq_false, not_false_eq_true, decide_true, true_or, or_true, or_self, Bool.false_eq_true]
    exact h _
  simp only [s96_0, s96_1, s96_4, s96_5, s96_6, s96_7, s96_10, s96_11, s96_12, s96_13, s96_16, s96_17, s96_18, s96_19, s96_22, s96_23, s96_24, s96_26, s96_29, s96_30, s96_32, s96_33, s96_36, s96_37, s96_38, s96_39, s96_40, s96_43, s96_46, s96_49, s96_50, s96_51, s96_52, s96_55, s96_58, s96_59, s96_60, s96_61, s96_64, s96_67, s96_70, s96_73, s96_76, Option.toList_some, Option.toList_none, List.cons_append, List.nil_append, List.append_nil, ip_on_some, true_and, and_true, if_true, if_false, not_true_eq_false, not_false_eq_true, decide_true, true_or, or_true, or_self, Bool.false_eq_true]
  refine stp 2 _ _ _ (by decide) (fun x => ?_)
  rw [show (2 : Int32) + 1 = 3 from by decide]
  refine stp 3 _ _ _ (by decide) (fun x => ?_)
  rw [show (3 : Int32) + 1 = 4 from by decide]
  refine stp 4 _ _ _ (by decide) (fun x => ?_)
  rw [show (4 : Int32) + 1 = 5 from by decide]
  refine stp 5 _ _ _ (by decide) (fun x => ?_)
  rw [show (5 : Int32) + 1 = 6 from by decide, s96_31]
  simp only [s96_0, s96_1, s96_4, s96_5, s96_6, s96_7, s96_10, s96_11, s96_12, s96_13, s96_16, s96_17, s96_18, s96_19, s96_22, s96_23, s96_24, s96_26, s96_29, s96_30, s96_32, s96_33, s96_36, s96_37, s96_38, s96_39, s96_40, s96_43, s96_46, s96_49, s96_50, s96_51, s96_52, s96_55, s96_58, s96_59, s96_60, s96_61, s96_64, s96_67, s96_70, s96_73, s96_76, show (5 : Int32) < 6 from by decide, Option.toList_some, Option.toList_none, List.cons_append, List.nil_append, List.append_nil, ip_on_some, true_and, and_true, if_true, if_false, not_true_eq_false, not_false_eq_true, decide_true, true_or, or_true, or_self, Bool.false_eq_true]
  exact hp _ _ h1 h2 h3
theorem cc_class {F : Nat → Nat → Value} (hF : ∀ a, 0 ≤ a → F a = fld Xf 0 a) (hp : ∀ X1 I1, FL X1 I1 37 2 39 41 (errs Xf If) → (∀ c, c ≠ 37 → X1 c = Xf c) → (∀ a, a ≠ 39 → a ≠ 41 → I1 a = If a) → post none (gT 47, fld X1 0, I1, Jf sc)) : ip_WP 0 0 [some (.ref 0)] [] (gT 1, fr 0 0 F, If, Jf sc) (46, 9347) post px := by
  rw [s0_0, s0_1, s0_4]
  rw [s0_5, gl_1, gx_1]
  refine ⟨by decide, by decide, ?_⟩
  show ip_WP 0 8 [some (.ref 0)] [.ref 1, .ref 0] (gT 2, fr 1 2 (fr 0 0 F), If, Jf sc) (45, 9345) post px
  rw [s0_8]
  rw [s0_9]
  refine ⟨by decide, by decide, ?_⟩
  refine d_by (m := 2) (F := fr 0 0 F) rfl rfl (by decide) (by decide) (by decide) (fun j => rfl) (fun j => rfl) (fun i => (congrFun (show (fr 0 0 F) 1 = fld Xf 0 1 from hF 1 (by decide)) i).trans (pre_1 i)) ?_
  show ip_WP 0 12 [some (.ref 0)] [.ref 1, .ref 0] (gT 2 ++ [.inl (1, 4160)], fr 0 0 F, If, Jf sc) (ip_rst 87 (45, 9345)) post px
  rw [gx_2, rs_87_45_9345]
  rw [s0_12]
  refine ⟨by decide, by decide, ?_⟩
  rw [s0_15]
  rw [s0_16, gl_3, gx_3]
  refine ⟨by decide, by decide, ?_⟩
  show ip_WP 0 19 [some (.ref 0)] [.ref 3, .ref 0] (gT 4, fr 3 2 (ip_up (fr 0 0 F) 0 0 (.ref 1)), If, Jf sc) (43, 5183) post px
  rw [s0_19]
  rw [s0_20]
  refine ⟨by decide, by decide, ?_⟩
  refine d_by (m := 4) (F := ip_up (fr 0 0 F) 0 0 (.ref 1)) rfl rfl (by decide) (by decide) (by decide) (fun j => rfl) (fun j => rfl) (fun i => (congrFun (show (ip_up (fr 0 0 F) 0 0 (.ref 1)) 3 = fld Xf 0 3 from hF 3 (by decide)) i).trans (pre_3 i)) ?_
  show ip_WP 0 23 [some (.ref 0)] [.ref 3, .ref 0] (gT 4 ++ [.inl (1, 4160)], ip_up (fr 0 0 F) 0 0 (.ref 1), If, Jf sc) (ip_rst 87 (43, 5183)) post px
  rw [gx_4, rs_87_43_5183]
  rw [s0_23]
  refine ⟨by decide, by decide, ?_⟩
  rw [s0_26]
  rw [s0_27, gl_5, gx_5]
  refine ⟨by decide, by decide, ?_⟩
  show ip_WP 0 30 [some (.ref 0)] [.ref 5, .ref 0] (gT 6, fr 5 3 (ip_up (ip_up (fr 0 0 F) 0 0 (.ref 1)) 0 1 (.ref 3)), If, Jf sc) (41, 1008) post px
  rw [s0_30]
  rw [s0_31]
  refine ⟨by decide, by decide, ?_⟩
  refine cc_core (F := ip_up (ip_up (fr 0 0 F) 0 0 (.ref 1)) 0 1 (.ref 3)) (fun a ha => (show (ip_up (ip_up (fr 0 0 F) 0 0 (.ref 1)) 0 1 (.ref 3)) a = F a from (by have q : a ≠ 0 := (by omega); funext i; simp [ip_up, fr, q])).trans (hF a (by omega))) ?_
  show ip_WP 0 34 [some (.ref 0)] [.ref 5, .ref 0] (gT 32, ip_up (ip_up (fr 0 0 F) 0 0 (.ref 1)) 0 1 (.ref 3), If, Jf sc) (ip_rst 102 (41, 1008)) post px
  rw [rs_102_41_1008]
  rw [s0_34]
  refine ⟨by decide, by decide, ?_⟩
  rw [s0_37]
  rw [s0_38, gl_32, gx_32]
  refine ⟨by decide, by decide, ?_⟩
  show ip_WP 0 41 [some (.ref 0)] [.ref 32, .ref 0] (gT 33, fr 32 8 (ip_up (ip_up (ip_up (fr 0 0 F) 0 0 (.ref 1)) 0 1 (.ref 3)) 0 2 (.ref 5)), If, Jf sc) (14, 313) post px
  rw [s0_41, s0_42]
  rw [s0_43]
  refine ⟨by decide, ?_⟩
  show ip_WP 0 46 [some (.ref 0)] [.ref 1, .ref 32, .ref 32, .ref 0] (gT 33, fr 32 8 (ip_up (ip_up (ip_up (fr 0 0 F) 0 0 (.ref 1)) 0 1 (.ref 3)) 0 2 (.ref 5)), If, Jf sc) (14, 313) post px
  rw [s0_46]
  rw [s0_47]
  refine ⟨by decide, ?_⟩
  show ip_WP 0 50 [some (.ref 0)] [.ref 5, .ref 1, .ref 32, .ref 32, .ref 0] (gT 33, fr 32 8 (ip_up (ip_up (ip_up (fr 0 0 F) 0 0 (.ref 1)) 0 1 (.ref 3)) 0 2 (.ref 5)), If, Jf sc) (14, 313) post px
  rw [s0_50]
  refine ⟨by decide, by decide, ?_⟩
  refine cc_reader (F := ip_up (ip_up (ip_up (fr 0 0 F) 0 0 (.ref 1)) 0 1 (.ref 3)) 0 2 (.ref 5)) (fun a ha => (show (ip_up (ip_up (ip_up (fr 0 0 F) 0 0 (.ref 1)) 0 1 (.ref 3)) 0 2 (.ref 5)) a = F a from (by have q : a ≠ 0 := (by omega); funext i; simp [ip_up, fr, q])).trans (hF a (by omega))) ?_
  show ip_WP 0 53 [some (.ref 0)] [.ref 32, .ref 0] (gT 36, ip_up (ip_up (ip_up (fr 0 0 F) 0 0 (.ref 1)) 0 1 (.ref 3)) 0 2 (.ref 5), If, Jf sc) (ip_rst 160 (14, 313)) post px
  rw [rs_160_14_313]
  rw [s0_53]
  refine ⟨by decide, by decide, ?_⟩
  rw [s0_56]
  rw [s0_57, gl_36, gx_36]
  refine ⟨by decide, by decide, ?_⟩
  show ip_WP 0 60 [some (.ref 0)] [.ref 36, .ref 0] (gT 37, fr 36 7 (ip_up (ip_up (ip_up (ip_up (fr 0 0 F) 0 0 (.ref 1)) 0 1 (.ref 3)) 0 2 (.ref 5)) 0 3 (.ref 32)), If, Jf sc) (10, 286) post px
  rw [s0_60, s0_61]
  rw [s0_62]
  refine ⟨by decide, ?_⟩
  show ip_WP 0 65 [some (.ref 0)] [.ref 5, .ref 36, .ref 36, .ref 0] (gT 37, fr 36 7 (ip_up (ip_up (ip_up (ip_up (fr 0 0 F) 0 0 (.ref 1)) 0 1 (.ref 3)) 0 2 (.ref 5)) 0 3 (.ref 32)), If, Jf sc) (10, 286) post px
  rw [s0_65]
  rw [s0_66]
  refine ⟨by decide, ?_⟩
  show ip_WP 0 69 [some (.ref 0)] [.ref 3, .ref 5, .ref 36, .ref 36, .ref 0] (gT 37, fr 36 7 (ip_up (ip_up (ip_up (ip_up (fr 0 0 F) 0 0 (.ref 1)) 0 1 (.ref 3)) 0 2 (.ref 5)) 0 3 (.ref 32)), If, Jf sc) (10, 286) post px
  rw [s0_69]
  refine cc_printer (F := ip_up (ip_up (ip_up (ip_up (fr 0 0 F) 0 0 (.ref 1)) 0 1 (.ref 3)) 0 2 (.ref 5)) 0 3 (.ref 32)) (fun a ha => (show (ip_up (ip_up (ip_up (ip_up (fr 0 0 F) 0 0 (.ref 1)) 0 1 (.ref 3)) 0 2 (.ref 5)) 0 3 (.ref 32)) a = F a from (by have q : a ≠ 0 := (by omega); funext i; simp [ip_up, fr, q])).trans (hF a (by omega))) ?_
  show ip_WP 0 72 [some (.ref 0)] [.ref 36, .ref 0] (gT 37, ip_up (ip_up (ip_up (ip_up (fr 0 0 F) 0 0 (.ref 1)) 0 1 (.ref 3)) 0 2 (.ref 5)) 0 3 (.ref 32), If, Jf sc) (10, 286) post px
  rw [s0_72]
  refine ⟨by decide, by decide, ?_⟩
  rw [s0_75]
  rw [s0_76, gl_37, gx_37]
  refine ⟨by decide, by decide, ?_⟩
  show ip_WP 0 79 [some (.ref 0)] [.ref 37, .ref 0] (gT 38, fr 37 4 (ip_up (ip_up (ip_up (ip_up (ip_up (fr 0 0 F) 0 0 (.ref 1)) 0 1 (.ref 3)) 0 2 (.ref 5)) 0 3 (.ref 32)) 0 4 (.ref 36)), If, Jf sc) (9, 283) post px
  rw [s0_79, s0_80]
  rw [s0_82]
  refine ⟨by decide, by decide, ?_⟩
  refine cc_find37 (F := ip_up (ip_up (ip_up (ip_up (ip_up (fr 0 0 F) 0 0 (.ref 1)) 0 1 (.ref 3)) 0 2 (.ref 5)) 0 3 (.ref 32)) 0 4 (.ref 36)) (fun a ha => (show (ip_up (ip_up (ip_up (ip_up (ip_up (fr 0 0 F) 0 0 (.ref 1)) 0 1 (.ref 3)) 0 2 (.ref 5)) 0 3 (.ref 32)) 0 4 (.ref 36)) a = F a from (by have q : a ≠ 0 := (by omega); funext i; simp [ip_up, fr, q])).trans (hF a (by omega))) ?_
  show ip_WP 0 85 [some (.ref 0)] [.ref 37, .ref 0] (gT 42, ip_up (ip_up (ip_up (ip_up (ip_up (fr 0 0 F) 0 0 (.ref 1)) 0 1 (.ref 3)) 0 2 (.ref 5)) 0 3 (.ref 32)) 0 4 (.ref 36), If, Jf sc) (ip_rst 119 (9, 283)) post px
  rw [rs_119_9_283]
  rw [s0_85]
  refine ⟨by decide, by decide, ?_⟩
  rw [s0_88]
  rw [s0_89, gl_42, gx_42]
  refine ⟨by decide, by decide, ?_⟩
  show ip_WP 0 92 [some (.ref 0)] [.ref 42, .ref 0] (gT 43, fr 42 4 (ip_up (ip_up (ip_up (ip_up (ip_up (ip_up (fr 0 0 F) 0 0 (.ref 1)) 0 1 (.ref 3)) 0 2 (.ref 5)) 0 3 (.ref 32)) 0 4 (.ref 36)) 0 5 (.ref 37)), If, Jf sc) (4, 140) post px
  rw [s0_92, s0_93]
  rw [s0_95]
  refine ⟨by decide, by decide, ?_⟩
  refine cc_find42 (F := ip_up (ip_up (ip_up (ip_up (ip_up (ip_up (fr 0 0 F) 0 0 (.ref 1)) 0 1 (.ref 3)) 0 2 (.ref 5)) 0 3 (.ref 32)) 0 4 (.ref 36)) 0 5 (.ref 37)) (fun a ha => (show (ip_up (ip_up (ip_up (ip_up (ip_up (ip_up (fr 0 0 F) 0 0 (.ref 1)) 0 1 (.ref 3)) 0 2 (.ref 5)) 0 3 (.ref 32)) 0 4 (.ref 36)) 0 5 (.ref 37)) a = F a from (by have q : a ≠ 0 := (by omega); funext i; simp [ip_up, fr, q])).trans (hF a (by omega))) ?_
  show ip_WP 0 98 [some (.ref 0)] [.ref 42, .ref 0] (gT 47, ip_up (ip_up (ip_up (ip_up (ip_up (ip_up (fr 0 0 F) 0 0 (.ref 1)) 0 1 (.ref 3)) 0 2 (.ref 5)) 0 3 (.ref 32)) 0 4 (.ref 36)) 0 5 (.ref 37), If, Jf sc) (ip_rst 119 (4, 140)) post px
  rw [rs_119_4_140]
  rw [s0_98]
  refine ⟨by decide, by decide, ?_⟩
  have e : ip_up (ip_up (ip_up (ip_up (ip_up (ip_up (ip_up (fr 0 0 F) 0 0 (.ref 1)) 0 1 (.ref 3)) 0 2 (.ref 5)) 0 3 (.ref 32)) 0 4 (.ref 36)) 0 5 (.ref 37)) 0 6 (.ref 42) = F := by
    funext a i
    by_cases q : a = 0
    · subst q
      rw [hF 0 (Nat.le_refl _)]
      match i with
      | 0 => rfl
      | 1 => rfl
      | 2 => rfl
      | 3 => rfl
      | 4 => rfl
      | 5 => rfl
      | 6 => rfl
      | i + 7 => rfl
    · simp [ip_up, fr, q]
  have eF : F = fld Xf 0 := funext (fun a => hF a (Nat.zero_le a))
  rw [e, eF]
  simp only [s0_0, s0_1, s0_4, s0_5, s0_8, s0_9, s0_12, s0_15, s0_16, s0_19, s0_20, s0_23, s0_26, s0_27, s0_30, s0_31, s0_34, s0_37, s0_38, s0_41, s0_42, s0_43, s0_46, s0_47, s0_50, s0_53, s0_56, s0_57, s0_60, s0_61, s0_62, s0_65, s0_66, s0_69, s0_72, s0_75, s0_76, s0_79, s0_80, s0_82, s0_85, s0_88, s0_89, s0_92, s0_93, s0_95, s0_98, s0_101, s0_102, s0_105, s0_106, s0_109, s0_112, show ip_isO (gT 47) 0 0 = true from rfl, f_0_2, f_0_5, Option.toList_some, Option.toList_none, List.cons_append, List.nil_append, List.append_nil, ip_on_some, true_and, and_true, if_true, if_false, not_true_eq_false, not_false_eq_true, decide_true, true_or, or_true, or_self, Bool.false_eq_true]
  refine ck_init (fun X1 I1 h1 h2 h3 => ?_)
  simp only [s0_0, s0_1, s0_4, s0_5, s0_8, s0_9, s0_12, s0_15, s0_16, s0_19, s0_20, s0_23, s0_26, s0_27, s0_30, s0_31, s0_34, s0_37, s0_38, s0_41, s0_42, s0_43, s0_46, s0_47, s0_50, s0_53, s0_56, s0_57, s0_60, s0_61, s0_62, s0_65, s0_66, s0_69, s0_72, s0_75, s0_76, s0_79, s0_80, s0_82, s0_85, s0_88, s0_89, s0_92, s0_93, s0_95, s0_98, s0_101, s0_102, s0_105, s0_106, s0_109, s0_112, Option.toList_some, Option.toList_none, List.cons_append, List.nil_append, List.append_nil, ip_on_some, true_and, and_true, if_true, if_false, not_true_eq_false, not_false_eq_true, decide_true, true_or, or_true, or_self, Bool.false_eq_true]
  exact hp X1 I1 h1 h2 h3
end
