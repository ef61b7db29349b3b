/-! CoreTextModel: words, and advance -/
def wcL : List Nat := [99, 108, 97, 115, 115, 0, 115, 116, 97, 103, 101, 0, 100, 111, 101, 115, 0, 108, 97, 116, 101, 110, 99, 121, 0, 114, 101, 115, 117, 108, 116, 0, 112, 97, 116, 104, 0, 115, 116, 97, 108, 108, 0, 113, 117, 101, 117, 101, 0, 105, 110, 0, 112, 111, 114, 116, 0, 102, 101, 116, 99, 104, 0, 100, 101, 99, 111, 100, 101, 0, 114, 101, 97, 100, 0, 101, 120, 101, 99, 117, 116, 101, 0, 109, 101, 109, 111, 114, 121, 0, 119, 114, 105, 116, 101, 0, 99, 111, 109, 109, 105, 116, 0]
def offW (w : Nat) : Nat := [0, 6, 12, 17, 25, 32, 37, 43, 49, 52, 57, 63, 70, 75, 83, 90, 96, 103].getD w 0
/-- word number w -/
def wrd (w : Nat) : BL := str (21 + w)
def WC (I : Nat → Nat → Int32) : Prop := ∀ j, j < 103 → I 48 j = nI (wcL.getD j 0)
def WK (W : Nat → Int64) : Prop := ∀ w, w < 17 → NmR (W w) (wrd w)
theorem wt_len : ∀ w, w < 17 → offW (w + 1) = offW w + (wrd w).length + 1 ∧ 1 ≤ (wrd w).length ∧ (wrd w).length ≤ 12 ∧ offW w + (wrd w).length < 103 := by decide +kernel
theorem wt_ch : ∀ w, w < 17 → ∀ k, k < (wrd w).length → (wrd w)[k]? = some (nI (wcL.getD (offW w + k) 0)) ∧ ¬ nI (wcL.getD (offW w + k) 0) = 0 := by decide +kernel
theorem wt_end : ∀ w, w < 17 → nI (wcL.getD (offW w + (wrd w).length) 0) = 0 := by decide +kernel
def wix (l : BL) : Nat → Nat → Int32
  | 0, _ => -1
  | m + 1, i => if l = wrd i then nI i else wix l m (i + 1)
theorem slc_get (T : Nat → Int32) {p q k : Nat} (h : k < q - p) : (slc T p q)[k]? = some (T (p + k)) := by
  unfold slc
  rw [List.getElem?_map, List.getElem?_range h]
  rfl
section
variable {X : Nat → Nat → Int32} {y : Int64} {I : Nat → Nat → Int32} {J : Nat → Nat → Int64} {b : ip_B} {post : Option Value → ip_H → Prop} {px : String → ip_H → Prop}
theorem mw_in {p q w : Nat} (hw : w < 17) (hW : WC I) (hf : X 47 36 = nI p) (ht : X 47 37 = nI q) (hpq : p ≤ q) (hq : q ≤ 4160)
    (hyes : slc (I 51) p q = wrd w → post (some (.int (nI w))) (g0, fld X y, I, J)) (hno : slc (I 51) p q ≠ wrd w → ∀ k', ip_WP 30 90 [some (.ref 47), some (.int (nI (offW w))), some (.int (nI w)), some (.int k')] [] (g0, fld X y, I, J) b post px) :
    ∀ m k, k + m = (wrd w).length → k ≤ q - p → (wrd w).take k = (slc (I 51) p q).take k → ip_WP 30 12 [some (.ref 47), some (.int (nI (offW w))), some (.int (nI w)), some (.int (nI k))] [] (g0, fld X y, I, J) b post px := by
  have hL := wt_len w hw
  intro m
  induction m with
  | zero =>
    intro k hk hkq hag
    have e1 : k = (wrd w).length := by omega
    have i1 : ¬ nI (offW w + k) < 0 := nI_pos (by omega)
    have i2 : ¬ 103 ≤ offW w + k := by omega
    have i3 : I 48 (offW w + k) = 0 := by rw [hW _ (by omega), e1]; exact wt_end w hw
    rw [s30_12]
    simp only [s30_0, s30_1, s30_2, s30_3, s30_5, s30_7, s30_10, s30_11, s30_13, s30_16, s30_17, s30_18, s30_19, s30_20, s30_23, s30_24, s30_27, s30_28, s30_29, s30_30, s30_33, s30_36, s30_37, s30_40, s30_41, s30_42, s30_43, s30_44, s30_45, s30_48, s30_49, s30_52, s30_53, s30_54, s30_55, s30_58, s30_61, s30_64, s30_65, s30_68, s30_69, s30_70, s30_71, s30_72, s30_75, s30_76, s30_79, s30_80, s30_81, s30_82, s30_85, s30_88, s30_89, s30_91, s30_94, s30_95, s30_96, s30_99, s30_102, s30_105, s30_108, s30_111, s30_114, s30_115, f_47_0, f_47_1, u_47_1, f_47_2, u_47_2, f_47_3, f_47_4, u_47_4, f_47_5, f_47_6, u_47_6, f_47_7, u_47_7, f_47_8, u_47_8, f_47_9, u_47_9, f_47_10, u_47_10, f_47_11, f_47_12, f_47_13, f_47_14, f_47_15, f_47_16, f_47_17, f_47_18, f_47_19, f_47_20, f_47_21, f_47_22, f_47_23, u_47_23, f_47_24, f_47_25, f_47_26, f_47_27, f_47_28, f_47_29, u_47_29, f_47_30, u_47_30, f_47_31, f_47_32, f_47_33, f_47_34, f_47_35, u_47_35, f_47_36, u_47_36, f_47_37, u_47_37, f_47_38, u_47_38, o_47, a_48, l_48, nI_add, nI_clamp (show offW w + k < 2 ^ 31 by omega), i1, i2, i3, hf, ht, Option.toList_some, Option.toList_none, List.cons_append, List.nil_append, List.append_nil, ip_on_some, true_and, and_true, if_true, if_false, not_true_eq_false, not_false_eq_true, decide_true, true_or, or_true, or_self, Bool.false_eq_true]
    by_cases c : p + k = q
    · have c1 : nI (p + k) = nI q := by rw [c]
      simp only [c1, Option.toList_some, Option.toList_none, List.cons_append, List.nil_append, List.append_nil, ip_on_some, true_and, and_true, if_true, if_false, not_true_eq_false, not_false_eq_true, decide_true, true_or, or_true, or_self, Bool.false_eq_true]
      refine hyes ?_
      rw [e1, List.take_length] at hag
      rw [hag, List.take_of_length_le (by rw [slc_len]; omega)]
    · have c1 : ¬ nI (p + k) = nI q := fun z => c ((nI_eq (by omega) (by omega)).mp z)
      simp only [c1, Option.toList_some, Option.toList_none, List.cons_append, List.nil_append, List.append_nil, ip_on_some, true_and, and_true, if_true, if_false, not_true_eq_false, not_false_eq_true, decide_true, true_or, or_true, or_self, Bool.false_eq_true]
      refine hno (fun z => ?_) _
      have := congrArg List.length z
      rw [slc_len] at this
      omega
  | succ m ih =>
    intro k hk hkq hag
    have i1 : ¬ nI (offW w + k) < 0 := nI_pos (by omega)
    have i2 : ¬ 103 ≤ offW w + k := by omega
    have hc := wt_ch w hw k (by omega)
    have i3 := hW (offW w + k) (by omega)
    have i4 : ¬ I 48 (offW w + k) = 0 := by rw [i3]; exact hc.2
    rw [s30_12]
    by_cases c : p + k < q
    · have c1 : ¬ nI q ≤ nI (p + k) := nI_ge c (by omega)
      have j1 : ¬ nI (p + k) < 0 := nI_pos (by omega)
      have j2 : ¬ 4400 ≤ p + k := by omega
      have hs := slc_get (I 51) (p := p) (q := q) (k := k) (by omega)
      by_cases d : I 48 (offW w + k) = I 51 (p + k)
      · simp only [s30_0, s30_1, s30_2, s30_3, s30_5, s30_7, s30_10, s30_11, s30_13, s30_16, s30_17, s30_18, s30_19, s30_20, s30_23, s30_24, s30_27, s30_28, s30_29, s30_30, s30_33, s30_36, s30_37, s30_40, s30_41, s30_42, s30_43, s30_44, s30_45, s30_48, s30_49, s30_52, s30_53, s30_54, s30_55, s30_58, s30_61, s30_64, s30_65, s30_68, s30_69, s30_70, s30_71, s30_72, s30_75, s30_76, s30_79, s30_80, s30_81, s30_82, s30_85, s30_88, s30_89, s30_91, s30_94, s30_95, s30_96, s30_99, s30_102, s30_105, s30_108, s30_111, s30_114, s30_115, f_47_0, f_47_1, u_47_1, f_47_2, u_47_2, f_47_3, f_47_4, u_47_4, f_47_5, f_47_6, u_47_6, f_47_7, u_47_7, f_47_8, u_47_8, f_47_9, u_47_9, f_47_10, u_47_10, f_47_11, f_47_12, f_47_13, f_47_14, f_47_15, f_47_16, f_47_17, f_47_18, f_47_19, f_47_20, f_47_21, f_47_22, f_47_23, u_47_23, f_47_24, f_47_25, f_47_26, f_47_27, f_47_28, f_47_29, u_47_29, f_47_30, u_47_30, f_47_31, f_47_32, f_47_33, f_47_34, f_47_35, u_47_35, f_47_36, u_47_36, f_47_37, u_47_37, f_47_38, u_47_38, o_47, a_48, l_48, a_51, l_51, nI_add, nI_clamp (show offW w + k < 2 ^ 31 by omega), nI_clamp (show p + k < 2 ^ 31 by omega), i1, i2, i4, c1, j1, j2, d, hf, ht, nI_1, Option.toList_some, Option.toList_none, List.cons_append, List.nil_append, List.append_nil, ip_on_some, true_and, and_true, if_true, if_false, not_true_eq_false, not_false_eq_true, decide_true, true_or, or_true, or_self, Bool.false_eq_true]
        have i5 : ¬ I 51 (p + k) = 0 := by rw [← d]; exact i4
        simp only [i5, Option.toList_some, Option.toList_none, List.cons_append, List.nil_append, List.append_nil, ip_on_some, true_and, and_true, if_true, if_false, not_true_eq_false, not_false_eq_true, decide_true, true_or, or_true, or_self, Bool.false_eq_true]
        refine ih (k + 1) (by omega) (by omega) ?_
        rw [List.take_succ, List.take_succ, hag, hc.1, hs, ← i3, d]
      · simp only [s30_0, s30_1, s30_2, s30_3, s30_5, s30_7, s30_10, s30_11, s30_13, s30_16, s30_17, s30_18, s30_19, s30_20, s30_23, s30_24, s30_27, s30_28, s30_29, s30_30, s30_33, s30_36, s30_37, s30_40, s30_41, s30_42, s30_43, s30_44, s30_45, s30_48, s30_49, s30_52, s30_53, s30_54, s30_55, s30_58, s30_61, s30_64, s30_65, s30_68, s30_69, s30_70, s30_71, s30_72, s30_75, s30_76, s30_79, s30_80, s30_81, s30_82, s30_85, s30_88, s30_89, s30_91, s30_94, s30_95, s30_96, s30_99, s30_102, s30_105, s30_108, s30_111, s30_114, s30_115, f_47_0, f_47_1, u_47_1, f_47_2, u_47_2, f_47_3, f_47_4, u_47_4, f_47_5, f_47_6, u_47_6, f_47_7, u_47_7, f_47_8, u_47_8, f_47_9, u_47_9, f_47_10, u_47_10, f_47_11, f_47_12, f_47_13, f_47_14, f_47_15, f_47_16, f_47_17, f_47_18, f_47_19, f_47_20, f_47_21, f_47_22, f_47_23, u_47_23, f_47_24, f_47_25, f_47_26, f_47_27, f_47_28, f_47_29, u_47_29, f_47_30, u_47_30, f_47_31, f_47_32, f_47_33, f_47_34, f_47_35, u_47_35, f_47_36, u_47_36, f_47_37, u_47_37, f_47_38, u_47_38, o_47, a_48, l_48, a_51, l_51, nI_add, nI_clamp (show offW w + k < 2 ^ 31 by omega), nI_clamp (show p + k < 2 ^ 31 by omega), i1, i2, i4, c1, j1, j2, d, hf, ht, nI_1, Option.toList_some, Option.toList_none, List.cons_append, List.nil_append, List.append_nil, ip_on_some, true_and, and_true, if_true, if_false, not_true_eq_false, not_false_eq_true, decide_true, true_or, or_true, or_self, Bool.false_eq_true]
        refine hno (fun z => d ?_) _
        rw [z, hc.1] at hs
        rw [i3]
        exact Option.some.inj hs
    · have c1 : nI q ≤ nI (p + k) := nI_le (by omega) (by omega)
      simp only [s30_0, s30_1, s30_2, s30_3, s30_5, s30_7, s30_10, s30_11, s30_13, s30_16, s30_17, s30_18, s30_19, s30_20, s30_23, s30_24, s30_27, s30_28, s30_29, s30_30, s30_33, s30_36, s30_37, s30_40, s30_41, s30_42, s30_43, s30_44, s30_45, s30_48, s30_49, s30_52, s30_53, s30_54, s30_55, s30_58, s30_61, s30_64, s30_65, s30_68, s30_69, s30_70, s30_71, s30_72, s30_75, s30_76, s30_79, s30_80, s30_81, s30_82, s30_85, s30_88, s30_89, s30_91, s30_94, s30_95, s30_96, s30_99, s30_102, s30_105, s30_108, s30_111, s30_114, s30_115, f_47_0, f_47_1, u_47_1, f_47_2, u_47_2, f_47_3, f_47_4, u_47_4, f_47_5, f_47_6, u_47_6, f_47_7, u_47_7, f_47_8, u_47_8, f_47_9, u_47_9, f_47_10, u_47_10, f_47_11, f_47_12, f_47_13, f_47_14, f_47_15, f_47_16, f_47_17, f_47_18, f_47_19, f_47_20, f_47_21, f_47_22, f_47_23, u_47_23, f_47_24, f_47_25, f_47_26, f_47_27, f_47_28, f_47_29, u_47_29, f_47_30, u_47_30, f_47_31, f_47_32, f_47_33, f_47_34, f_47_35, u_47_35, f_47_36, u_47_36, f_47_37, u_47_37, f_47_38, u_47_38, o_47, a_48, l_48, a_51, l_51, nI_add, nI_clamp (show offW w + k < 2 ^ 31 by omega), i1, i2, i4, c1, hf, ht, Option.toList_some, Option.toList_none, List.cons_append, List.nil_append, List.append_nil, ip_on_some, true_and, and_true, if_true, if_false, not_true_eq_false, not_false_eq_true, decide_true, true_or, or_true, or_self, Bool.false_eq_true]
      refine hno (fun z => ?_) _
      have := congrArg List.length z
      rw [slc_len] at this
      omega
theorem mw_skip {w : Nat} {k' : Int32} (hw : w < 17) (hW : WC I) (hk : ∀ x3, ip_WP 30 4 [some (.ref 47), some (.int (nI (offW (w + 1)))), some (.int (nI (w + 1))), x3] [] (g0, fld X y, I, J) b post px) : ∀ m a, a + m = offW w + (wrd w).length → offW w ≤ a → ip_WP 30 90 [some (.ref 47), some (.int (nI a)), some (.int (nI w)), some (.int k')] [] (g0, fld X y, I, J) b post px := by
  have hL := wt_len w hw
  intro m
  induction m with
  | zero =>
    intro a ha hge
    have i1 : ¬ nI a < 0 := nI_pos (by omega)
    have i2 : ¬ 103 ≤ a := by omega
    have i3 : I 48 a = 0 := by rw [hW _ (by omega), show a = offW w + (wrd w).length from by omega]; exact wt_end w hw
    rw [s30_90]
    simp only [s30_0, s30_1, s30_2, s30_3, s30_5, s30_7, s30_10, s30_11, s30_13, s30_16, s30_17, s30_18, s30_19, s30_20, s30_23, s30_24, s30_27, s30_28, s30_29, s30_30, s30_33, s30_36, s30_37, s30_40, s30_41, s30_42, s30_43, s30_44, s30_45, s30_48, s30_49, s30_52, s30_53, s30_54, s30_55, s30_58, s30_61, s30_64, s30_65, s30_68, s30_69, s30_70, s30_71, s30_72, s30_75, s30_76, s30_79, s30_80, s30_81, s30_82, s30_85, s30_88, s30_89, s30_91, s30_94, s30_95, s30_96, s30_99, s30_102, s30_105, s30_108, s30_111, s30_114, s30_115, f_47_0, f_47_1, u_47_1, f_47_2, u_47_2, f_47_3, f_47_4, u_47_4, f_47_5, f_47_6, u_47_6, f_47_7, u_47_7, f_47_8, u_47_8, f_47_9, u_47_9, f_47_10, u_47_10, f_47_11, f_47_12, f_47_13, f_47_14, f_47_15, f_47_16, f_47_17, f_47_18, f_47_19, f_47_20, f_47_21, f_47_22, f_47_23, u_47_23, f_47_24, f_47_25, f_47_26, f_47_27, f_47_28, f_47_29, u_47_29, f_47_30, u_47_30, f_47_31, f_47_32, f_47_33, f_47_34, f_47_35, u_47_35, f_47_36, u_47_36, f_47_37, u_47_37, f_47_38, u_47_38, o_47, a_48, l_48, nI_clamp (show a < 2 ^ 31 by omega), i1, i2, i3, nI_1, Option.toList_some, Option.toList_none, List.cons_append, List.nil_append, List.append_nil, ip_on_some, true_and, and_true, if_true, if_false, not_true_eq_false, not_false_eq_true, decide_true, true_or, or_true, or_self, Bool.false_eq_true]
    rw [show a + 1 = offW (w + 1) from by omega]
    exact hk _
  | succ m ih =>
    intro a ha hge
    have i1 : ¬ nI a < 0 := nI_pos (by omega)
    have i2 : ¬ 103 ≤ a := by omega
    have i4 : ¬ I 48 a = 0 := by
      have hc := wt_ch w hw (a - offW w) (by omega)
      rw [show offW w + (a - offW w) = a from by omega] at hc
      rw [hW _ (by omega)]
      exact hc.2
    rw [s30_90]
    simp only [s30_0, s30_1, s30_2, s30_3, s30_5, s30_7, s30_10, s30_11, s30_13, s30_16, s30_17, s30_18, s30_19, s30_20, s30_23, s30_24, s30_27, s30_28, s30_29, s30_30, s30_33, s30_36, s30_37, s30_40, s30_41, s30_42, s30_43, s30_44, s30_45, s30_48, s30_49, s30_52, s30_53, s30_54, s30_55, s30_58, s30_61, s30_64, s30_65, s30_68, s30_69, s30_70, s30_71, s30_72, s30_75, s30_76, s30_79, s30_80, s30_81, s30_82, s30_85, s30_88, s30_89, s30_91, s30_94, s30_95, s30_96, s30_99, s30_102, s30_105, s30_108, s30_111, s30_114, s30_115, f_47_0, f_47_1, u_47_1, f_47_2, u_47_2, f_47_3, f_47_4, u_47_4, f_47_5, f_47_6, u_47_6, f_47_7, u_47_7, f_47_8, u_47_8, f_47_9, u_47_9, f_47_10, u_47_10, f_47_11, f_47_12, f_47_13, f_47_14, f_47_15, f_47_16, f_47_17, f_47_18, f_47_19, f_47_20, f_47_21, f_47_22, f_47_23, u_47_23, f_47_24, f_47_25, f_47_26, f_47_27, f_47_28, f_47_29, u_47_29, f_47_30, u_47_30, f_47_31, f_47_32, f_47_33, f_47_34, f_47_35, u_47_35, f_47_36, u_47_36, f_47_37, u_47_37, f_47_38, u_47_38, o_47, a_48, l_48, nI_clamp (show a < 2 ^ 31 by omega), i1, i2, i4, nI_1, Option.toList_some, Option.toList_none, List.cons_append, List.nil_append, List.append_nil, ip_on_some, true_and, and_true, if_true, if_false, not_true_eq_false, not_false_eq_true, decide_true, true_or, or_true, or_self, Bool.false_eq_true]
    exact ih (a + 1) (by omega) (by omega)
theorem mw_out {p q : Nat} (hW : WC I) (hf : X 47 36 = nI p) (ht : X 47 37 = nI q) (hpq : p ≤ q) (hq : q ≤ 4160) : ∀ m w x3, w + m = 17 → post (some (.int (wix (slc (I 51) p q) m w))) (g0, fld X y, I, J) → ip_WP 30 4 [some (.ref 47), some (.int (nI (offW w))), some (.int (nI w)), x3] [] (g0, fld X y, I, J) b post px := by
  intro m
  induction m with
  | zero =>
    intro w x3 hw hp
    have e : w = 17 := by omega
    subst e
    rw [s30_4]
    simp only [s30_0, s30_1, s30_2, s30_3, s30_5, s30_7, s30_10, s30_11, s30_13, s30_16, s30_17, s30_18, s30_19, s30_20, s30_23, s30_24, s30_27, s30_28, s30_29, s30_30, s30_33, s30_36, s30_37, s30_40, s30_41, s30_42, s30_43, s30_44, s30_45, s30_48, s30_49, s30_52, s30_53, s30_54, s30_55, s30_58, s30_61, s30_64, s30_65, s30_68, s30_69, s30_70, s30_71, s30_72, s30_75, s30_76, s30_79, s30_80, s30_81, s30_82, s30_85, s30_88, s30_89, s30_91, s30_94, s30_95, s30_96, s30_99, s30_102, s30_105, s30_108, s30_111, s30_114, s30_115, show nI 17 = 17 from rfl, Int32.reduceLE, Option.toList_some, Option.toList_none, List.cons_append, List.nil_append, List.append_nil, ip_on_some, true_and, and_true, if_true, if_false, not_true_eq_false, not_false_eq_true, decide_true, true_or, or_true, or_self, Bool.false_eq_true]
    exact hp
  | succ m ih =>
    intro w x3 hw hp
    have c1 : ¬ (17 : Int32) ≤ nI w := nI_ge (b := 17) (by omega) (by decide)
    rw [s30_4]
    simp only [s30_0, s30_1, s30_2, s30_3, s30_5, s30_7, s30_10, s30_11, s30_13, s30_16, s30_17, s30_18, s30_19, s30_20, s30_23, s30_24, s30_27, s30_28, s30_29, s30_30, s30_33, s30_36, s30_37, s30_40, s30_41, s30_42, s30_43, s30_44, s30_45, s30_48, s30_49, s30_52, s30_53, s30_54, s30_55, s30_58, s30_61, s30_64, s30_65, s30_68, s30_69, s30_70, s30_71, s30_72, s30_75, s30_76, s30_79, s30_80, s30_81, s30_82, s30_85, s30_88, s30_89, s30_91, s30_94, s30_95, s30_96, s30_99, s30_102, s30_105, s30_108, s30_111, s30_114, s30_115, c1, Option.toList_some, Option.toList_none, List.cons_append, List.nil_append, List.append_nil, ip_on_some, true_and, and_true, if_true, if_false, not_true_eq_false, not_false_eq_true, decide_true, true_or, or_true, or_self, Bool.false_eq_true]
    rw [← nI_0]
    refine mw_in (by omega) hW hf ht hpq hq (fun z => ?_) (fun z k' => ?_) (wrd w).length 0 (Nat.zero_add _) (Nat.zero_le _) (by simp)
    · rw [wix, if_pos z] at hp
      exact hp
    · rw [wix, if_neg z] at hp
      exact mw_skip (by omega) hW (fun x3 => ih (w + 1) x3 (by omega) hp) (wrd w).length (offW w) rfl (Nat.le_refl _)
theorem md_word {p q : Nat} (hW : WC I) (hf : X 47 36 = nI p) (ht : X 47 37 = nI q) (hpq : p ≤ q) (hq : q ≤ 4160) (hk : post (some (.int (wix (slc (I 51) p q) 17 0))) (g0, fld X y, I, J)) : ip_WP 30 0 [some (.ref 47), none, none, none] [] (g0, fld X y, I, J) b post px := by
  simp only [s30_0, s30_1, s30_2, s30_3]
  exact mw_out (post := post) hW hf ht hpq hq 17 0 none rfl hk
end
theorem wix_rng (l : BL) : ∀ m i, wix l m i = -1 ∨ ∃ w, i ≤ w ∧ w < i + m ∧ wix l m i = nI w := by
  intro m
  induction m with
  | zero => intro i; exact Or.inl rfl
  | succ m ih =>
    intro i
    rw [wix]
    by_cases q : l = wrd i
    · rw [if_pos q]; exact Or.inr ⟨i, Nat.le_refl i, by omega, rfl⟩
    · rw [if_neg q]
      rcases ih (i + 1) with h | ⟨w, h1, h2, h3⟩
      · exact Or.inl h
      · exact Or.inr ⟨w, by omega, by omega, h3⟩
/-- both look for the same word -/
theorem wfi_wix {W : Nat → Int64} {key : Int64} {l : BL} (hK : WK W) (h : NmR key l) : ∀ m i, i + m = 17 → (wix l m i = -1 ∧ wfi W key m i = -1) ∨ ∃ w, w < 17 ∧ wix l m i = nI w ∧ wfi W key m i = 256 + nI w := by
  intro m
  induction m with
  | zero => intro i _; exact Or.inl ⟨rfl, rfl⟩
  | succ m ih =>
    intro i hi
    rw [wix, wfi]
    have hw := hK i (by omega)
    by_cases q : l = wrd i
    · have q2 : W i = key := hw.keq (q ▸ h)
      rw [if_pos q, if_pos q2]
      exact Or.inr ⟨i, by omega, rfl, rfl⟩
    · have q2 : ¬ W i = key := fun e => q (h.inj (e ▸ hw))
      rw [if_neg q, if_neg q2]
      exact ih (i + 1) (by omega)
