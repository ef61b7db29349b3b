/-! the model's printing: what it says -/
def CQ (X : Nat → Nat → Int32) (y : Int64) (I : Nat → Nat → Int32) (J : Nat → Nat → Int64) (l : BL) (h : ip_H) : Prop := ∃ X' I', h = (g0, fld X' y, I', J) ∧ X' 47 4 = nI l.length ∧ (∀ i v, l[i]? = some v → I' 50 i = v) ∧ (∀ c, c ≠ 47 → X' c = X c) ∧ (∀ j, j ≠ 4 → X' 47 j = X 47 j) ∧ (∀ a, a ≠ 50 → I' a = I a)
theorem st_w : ∀ w, w < 10 → w ≠ 2 → w ≠ 8 → str ([6, 8, 0, 10, 12, 15, 14, 16, 0, 18].getD w 0) = wrd w ++ [32] := by decide +kernel
theorem st_9 : str 9 = [32] ++ (wrd 2 ++ [32]) := by decide +kernel
theorem st_17 : str 17 = [32] ++ (wrd 8 ++ [32]) := by decide +kernel
theorem st_t (t : Nat) : str (31 + t) = wrd (10 + t) := by unfold wrd; rw [show 21 + (10 + t) = 31 + t from by omega]
theorem st_11 : str 11 = [32, 61, 32] := by decide +kernel
theorem st_13 : str 13 = [32, 62, 32] := by decide +kernel
theorem st_19 : str 19 = [32, 58, 32] := by decide +kernel
theorem st_7 : str 7 = [44, 32] := by decide +kernel
theorem st_20 : str 20 = [59, 10] := by decide +kernel
theorem app_as (l a c : BL) : l ++ a ++ c = l ++ (a ++ c) := List.append_assoc l a c
theorem tk_first {p : Nat → Bool} {f0 sep : BL} {w : Nat → BL} : ∀ (m i : Nat), (∃ k, i ≤ k ∧ k < i + m ∧ p k = true) → f0 ++ tkB p [] sep w m i true = tkB p f0 sep w m i true := by
  have tf : ∀ (m i : Nat), tkB p [] sep w m i false = tkB p f0 sep w m i false := by
    intro m
    induction m with
    | zero => intro i; rfl
    | succ m ih =>
      intro i
      rw [tkB, tkB, ih]
      simp only [Bool.false_eq_true, if_false]
  intro m
  induction m with
  | zero => rintro i ⟨k, h1, h2, _⟩; omega
  | succ m ih =>
    rintro i ⟨k, h1, h2, h3⟩
    rw [tkB, tkB]
    by_cases q : p i = true
    · rw [if_pos q, if_pos q, if_pos rfl, if_pos rfl, List.nil_append, tf]
    · rw [if_neg q, if_neg q]
      refine ih (i + 1) ⟨k, ?_, by omega, h3⟩
      by_cases e : i = k
      · rw [e] at q; exact absurd h3 q
      · omega
theorem cls_eq {f s : BL} {w : Nat → BL} : ∀ n, 1 ≤ n → f ++ (List.range n).flatMap (fun i => (if i = 0 then [] else s) ++ w i) = (List.range n).flatMap (fun i => (if i = 0 then f else s) ++ w i) := by
  intro n
  induction n with
  | zero => intro h; omega
  | succ n ih =>
    intro _
    by_cases q : n = 0
    · subst q
      simp
    · rw [List.range_succ, List.flatMap_append, List.flatMap_append, ← List.append_assoc, ih (by omega)]
      simp [q]
section
variable {X : Nat → Nat → Int32} {y : Int64} {I : Nat → Nat → Int32} {J : Nat → Nat → Int64} {b : ip_B} {post : Option Value → ip_H → Prop} {px : String → ip_H → Prop}
variable {Xc : Nat → Nat → Int32} {Ic : Nat → Nat → Int32} {Jc : Nat → Nat → Int64}
theorem CQ.add {X' : Nat → Nat → Int32} {I' : Nat → Nat → Int32} {l : BL} {v : Int32} (h2 : ∀ i v, l[i]? = some v → I' 50 i = v) (hX : ∀ c, c ≠ 47 → X' c = X c) (hj : ∀ j, j ≠ 4 → X' 47 j = X 47 j) (hI : ∀ a, a ≠ 50 → I' a = I a) :
    CQ X y I J (l ++ [v]) (g0, fld (ip_up X' 47 4 (nI (l.length + 1))) y, ip_up I' 50 l.length v, J) := by
  refine ⟨_, _, rfl, ?_, ?_, fun c hc => by rw [up1, if_neg hc]; exact hX c hc, fun j h4 => by rw [up47, if_neg h4]; exact hj j h4, fun a ha => by rw [up1, if_neg ha]; exact hI a ha⟩
  · rw [up47, if_pos rfl, List.length_append]
    rfl
  · intro i u hu
    rw [up1, if_pos rfl, updF_ap]
    by_cases hi : i < l.length
    · rw [if_neg (by omega)]
      rw [List.getElem?_append_left hi] at hu
      exact h2 i u hu
    · rw [List.getElem?_append_right (by omega)] at hu
      have hz : i - l.length = 0 := by
        rcases hz : i - l.length with _ | z
        · rfl
        · rw [hz] at hu; simp at hu
      rw [hz] at hu
      have hu : v = u := by simpa using hu
      rw [if_pos (by omega), hu]
theorem mp_say {l : BL} {v : Int32} (hl : l.length < 4400) (hk : ∀ h, CQ X y I J (l ++ [v]) h → post none h) : ∀ h, CQ X y I J l h → ip_WP 71 0 [some (.ref 47), some (.int v)] [] h b post px := by
  rintro h ⟨X', I', rfl, h1, h2, hX, hj, hI⟩
  have c2 : ¬ nI l.length < 0 := nI_pos (by omega)
  have c3 : ¬ 4400 ≤ l.length := by omega
  simp only [s71_0, s71_1, s71_4, s71_5, s71_8, s71_9, s71_10, s71_11, s71_12, s71_15, s71_16, s71_17, s71_20, f_47_0, f_47_1, u_47_1, f_47_2, u_47_2, f_47_3, f_47_4, u_47_4, f_47_5, f_47_6, u_47_6, f_47_7, u_47_7, f_47_8, u_47_8, f_47_9, u_47_9, f_47_10, u_47_10, f_47_11, f_47_12, f_47_13, f_47_14, f_47_15, f_47_16, f_47_17, f_47_18, f_47_19, f_47_20, f_47_21, f_47_22, f_47_23, u_47_23, f_47_24, f_47_25, f_47_26, f_47_27, f_47_28, f_47_29, u_47_29, f_47_30, u_47_30, f_47_31, f_47_32, f_47_33, f_47_34, f_47_35, u_47_35, f_47_36, u_47_36, f_47_37, u_47_37, f_47_38, u_47_38, o_47, a_50, l_50, h1, nI_clamp (show l.length < 2 ^ 31 by omega), c2, c3, nI_1, Option.toList_some, Option.toList_none, List.cons_append, List.nil_append, List.append_nil, ip_on_some, true_and, and_true, if_true, if_false, not_true_eq_false, not_false_eq_true, decide_true, true_or, or_true, or_self, Bool.false_eq_true]
  exact hk _ (CQ.add h2 hX hj hI)
theorem mp_word {w : Nat} {wv : Int32} (ew : wv = nI w) (hw : w < 17) (hW : WC I) {l : BL} (hl : l.length ≤ 4200) (hk : ∀ h, CQ X y I J (l ++ (wrd w ++ [32])) h → post none h) : ∀ h, CQ X y I J l h → ip_WP 72 0 [some (.ref 47), some (.int wv), none, none] [] h b post px := by
  subst ew
  have hL := wt_len w hw
  have l3 : ∀ m k, k + m = (wrd w).length → ∀ a h, CQ X y I J (l ++ (wrd w).take k) h → ip_WP 72 35 [some (.ref 47), some (.int (nI w)), some (.int a), some (.int (nI (offW w + k)))] [] h b post px := by
    intro m
    induction m with
    | zero =>
      intro k hk2 a h hC
      obtain ⟨X', I', rfl, h1, h2, hX, hj, hI⟩ := id hC
      have e1 : k = (wrd w).length := by omega
      have i1 : ¬ nI (offW w + k) < 0 := nI_pos (by omega)
      have i2 : ¬ 103 ≤ offW w + k := by omega
      have i3 : I' 48 (offW w + k) = 0 := by rw [hI 48 (by decide), hW _ (by omega), e1]; exact wt_end w hw
      rw [s72_35]
      simp only [s72_0, s72_1, s72_2, s72_3, s72_5, s72_6, s72_10, s72_13, s72_14, s72_15, s72_18, s72_21, s72_24, s72_27, s72_30, s72_33, s72_34, s72_36, s72_39, s72_40, s72_41, s72_44, s72_45, s72_46, s72_49, s72_50, s72_51, s72_54, s72_57, s72_60, s72_61, s72_63, s72_66, f_47_0, f_47_1, u_47_1, f_47_2, u_47_2, f_47_3, f_47_4, u_47_4, f_47_5, f_47_6, u_47_6, f_47_7, u_47_7, f_47_8, u_47_8, f_47_9, u_47_9, f_47_10, u_47_10, f_47_11, f_47_12, f_47_13, f_47_14, f_47_15, f_47_16, f_47_17, f_47_18, f_47_19, f_47_20, f_47_21, f_47_22, f_47_23, u_47_23, f_47_24, f_47_25, f_47_26, f_47_27, f_47_28, f_47_29, u_47_29, f_47_30, u_47_30, f_47_31, f_47_32, f_47_33, f_47_34, f_47_35, u_47_35, f_47_36, u_47_36, f_47_37, u_47_37, f_47_38, u_47_38, o_47, a_48, l_48, nI_clamp (show offW w + k < 2 ^ 31 by omega), i1, i2, i3, Option.toList_some, Option.toList_none, List.cons_append, List.nil_append, List.append_nil, ip_on_some, true_and, and_true, if_true, if_false, not_true_eq_false, not_false_eq_true, decide_true, true_or, or_true, or_self, Bool.false_eq_true]
      refine mp_say (l := l ++ (wrd w).take k) (by simp only [List.length_append, List.length_take]; omega) (fun h hC => ?_) _ hC
      obtain ⟨X', I', rfl, h1, h2, hX, hj, hI⟩ := id hC
      simp only [s72_0, s72_1, s72_2, s72_3, s72_5, s72_6, s72_10, s72_13, s72_14, s72_15, s72_18, s72_21, s72_24, s72_27, s72_30, s72_33, s72_34, s72_36, s72_39, s72_40, s72_41, s72_44, s72_45, s72_46, s72_49, s72_50, s72_51, s72_54, s72_57, s72_60, s72_61, s72_63, s72_66, Option.toList_some, Option.toList_none, List.cons_append, List.nil_append, List.append_nil, ip_on_some, true_and, and_true, if_true, if_false, not_true_eq_false, not_false_eq_true, decide_true, true_or, or_true, or_self, Bool.false_eq_true]
      refine hk _ ?_
      rw [e1, List.take_length, List.append_assoc] at hC
      exact hC
    | succ m ih =>
      intro k hk2 a h hC
      obtain ⟨X', I', rfl, h1, h2, hX, hj, hI⟩ := id hC
      have i1 : ¬ nI (offW w + k) < 0 := nI_pos (by omega)
      have i2 : ¬ 103 ≤ offW w + k := by omega
      have hc := wt_ch w hw k (by omega)
      have e3 : I' 48 (offW w + k) = nI (wcL.getD (offW w + k) 0) := by rw [hI 48 (by decide)]; exact hW (offW w + k) (by omega)
      have i4 : ¬ I' 48 (offW w + k) = 0 := by rw [e3]; exact hc.2
      rw [s72_35]
      simp only [s72_0, s72_1, s72_2, s72_3, s72_5, s72_6, s72_10, s72_13, s72_14, s72_15, s72_18, s72_21, s72_24, s72_27, s72_30, s72_33, s72_34, s72_36, s72_39, s72_40, s72_41, s72_44, s72_45, s72_46, s72_49, s72_50, s72_51, s72_54, s72_57, s72_60, s72_61, s72_63, s72_66, f_47_0, f_47_1, u_47_1, f_47_2, u_47_2, f_47_3, f_47_4, u_47_4, f_47_5, f_47_6, u_47_6, f_47_7, u_47_7, f_47_8, u_47_8, f_47_9, u_47_9, f_47_10, u_47_10, f_47_11, f_47_12, f_47_13, f_47_14, f_47_15, f_47_16, f_47_17, f_47_18, f_47_19, f_47_20, f_47_21, f_47_22, f_47_23, u_47_23, f_47_24, f_47_25, f_47_26, f_47_27, f_47_28, f_47_29, u_47_29, f_47_30, u_47_30, f_47_31, f_47_32, f_47_33, f_47_34, f_47_35, u_47_35, f_47_36, u_47_36, f_47_37, u_47_37, f_47_38, u_47_38, o_47, a_48, l_48, nI_clamp (show offW w + k < 2 ^ 31 by omega), i1, i2, i4, Option.toList_some, Option.toList_none, List.cons_append, List.nil_append, List.append_nil, ip_on_some, true_and, and_true, if_true, if_false, not_true_eq_false, not_false_eq_true, decide_true, true_or, or_true, or_self, Bool.false_eq_true]
      refine mp_say (l := l ++ (wrd w).take k) (by simp only [List.length_append, List.length_take]; omega) (fun h hC => ?_) _ hC
      obtain ⟨X', I', rfl, h1, h2, hX, hj, hI⟩ := id hC
      simp only [s72_0, s72_1, s72_2, s72_3, s72_5, s72_6, s72_10, s72_13, s72_14, s72_15, s72_18, s72_21, s72_24, s72_27, s72_30, s72_33, s72_34, s72_36, s72_39, s72_40, s72_41, s72_44, s72_45, s72_46, s72_49, s72_50, s72_51, s72_54, s72_57, s72_60, s72_61, s72_63, s72_66, nI_1, Option.toList_some, Option.toList_none, List.cons_append, List.nil_append, List.append_nil, ip_on_some, true_and, and_true, if_true, if_false, not_true_eq_false, not_false_eq_true, decide_true, true_or, or_true, or_self, Bool.false_eq_true]
      refine ih (k + 1) (by omega) a _ ?_
      rw [List.take_succ, hc.1, ← List.append_assoc]
      rw [e3] at hC
      exact hC
  intro h hC
  obtain ⟨X', I', rfl, h1, h2, hX, hj, hI⟩ := id hC
  have hW' : ∀ j, j < 103 → I' 48 j = nI (wcL.getD j 0) := fun j hj2 => by rw [hI 48 (by decide)]; exact hW j hj2
  have l2 : ∀ k, k < w → (∀ _a : Nat, ip_WP 72 4 [some (.ref 47), some (.int (nI w)), some (.int (nI (offW (k + 1)))), some (.int (nI (k + 1)))] [] (g0, fld X' y, I', J) b post px) → ∀ m a, a + m = offW k + (wrd k).length → offW k ≤ a → ip_WP 72 9 [some (.ref 47), some (.int (nI w)), some (.int (nI a)), some (.int (nI k))] [] (g0, fld X' y, I', J) b post px := by
    intro k hkw hk4 m
    have hL2 := wt_len k (by omega)
    induction m with
    | zero =>
      intro a ha hge
      have i1 : ¬ nI a < 0 := nI_pos (by omega)
      have i2 : ¬ 103 ≤ a := by omega
      have i3 : I' 48 a = 0 := by rw [hW' _ (by omega), show a = offW k + (wrd k).length from by omega]; exact wt_end k (by omega)
      rw [s72_9]
      simp only [s72_0, s72_1, s72_2, s72_3, s72_5, s72_6, s72_10, s72_13, s72_14, s72_15, s72_18, s72_21, s72_24, s72_27, s72_30, s72_33, s72_34, s72_36, s72_39, s72_40, s72_41, s72_44, s72_45, s72_46, s72_49, s72_50, s72_51, s72_54, s72_57, s72_60, s72_61, s72_63, s72_66, f_47_0, f_47_1, u_47_1, f_47_2, u_47_2, f_47_3, f_47_4, u_47_4, f_47_5, f_47_6, u_47_6, f_47_7, u_47_7, f_47_8, u_47_8, f_47_9, u_47_9, f_47_10, u_47_10, f_47_11, f_47_12, f_47_13, f_47_14, f_47_15, f_47_16, f_47_17, f_47_18, f_47_19, f_47_20, f_47_21, f_47_22, f_47_23, u_47_23, f_47_24, f_47_25, f_47_26, f_47_27, f_47_28, f_47_29, u_47_29, f_47_30, u_47_30, f_47_31, f_47_32, f_47_33, f_47_34, f_47_35, u_47_35, f_47_36, u_47_36, f_47_37, u_47_37, f_47_38, u_47_38, o_47, a_48, l_48, nI_clamp (show a < 2 ^ 31 by omega), i1, i2, i3, nI_1, Option.toList_some, Option.toList_none, List.cons_append, List.nil_append, List.append_nil, ip_on_some, true_and, and_true, if_true, if_false, not_true_eq_false, not_false_eq_true, decide_true, true_or, or_true, or_self, Bool.false_eq_true]
      rw [show a + 1 = offW (k + 1) from by omega]
      exact hk4 0
    | succ m ih =>
      intro a ha hge
      have i1 : ¬ nI a < 0 := nI_pos (by omega)
      have i2 : ¬ 103 ≤ a := by omega
      have i4 : ¬ I' 48 a = 0 := by
        have hc := wt_ch k (by omega) (a - offW k) (by omega)
        rw [show offW k + (a - offW k) = a from by omega] at hc
        rw [hW' _ (by omega)]
        exact hc.2
      rw [s72_9]
      simp only [s72_0, s72_1, s72_2, s72_3, s72_5, s72_6, s72_10, s72_13, s72_14, s72_15, s72_18, s72_21, s72_24, s72_27, s72_30, s72_33, s72_34, s72_36, s72_39, s72_40, s72_41, s72_44, s72_45, s72_46, s72_49, s72_50, s72_51, s72_54, s72_57, s72_60, s72_61, s72_63, s72_66, f_47_0, f_47_1, u_47_1, f_47_2, u_47_2, f_47_3, f_47_4, u_47_4, f_47_5, f_47_6, u_47_6, f_47_7, u_47_7, f_47_8, u_47_8, f_47_9, u_47_9, f_47_10, u_47_10, f_47_11, f_47_12, f_47_13, f_47_14, f_47_15, f_47_16, f_47_17, f_47_18, f_47_19, f_47_20, f_47_21, f_47_22, f_47_23, u_47_23, f_47_24, f_47_25, f_47_26, f_47_27, f_47_28, f_47_29, u_47_29, f_47_30, u_47_30, f_47_31, f_47_32, f_47_33, f_47_34, f_47_35, u_47_35, f_47_36, u_47_36, f_47_37, u_47_37, f_47_38, u_47_38, o_47, a_48, l_48, nI_clamp (show a < 2 ^ 31 by omega), i1, i2, i4, nI_1, Option.toList_some, Option.toList_none, List.cons_append, List.nil_append, List.append_nil, ip_on_some, true_and, and_true, if_true, if_false, not_true_eq_false, not_false_eq_true, decide_true, true_or, or_true, or_self, Bool.false_eq_true]
      exact ih (a + 1) (by omega) (by omega)
  have l1 : ∀ m k, k + m = w → ip_WP 72 4 [some (.ref 47), some (.int (nI w)), some (.int (nI (offW k))), some (.int (nI k))] [] (g0, fld X' y, I', J) b post px := by
    intro m
    induction m with
    | zero =>
      intro k hk2
      have e : k = w := by omega
      subst e
      have c1 : nI k ≤ nI k := Int32.le_refl _
      rw [s72_4]
      simp only [s72_0, s72_1, s72_2, s72_3, s72_5, s72_6, s72_10, s72_13, s72_14, s72_15, s72_18, s72_21, s72_24, s72_27, s72_30, s72_33, s72_34, s72_36, s72_39, s72_40, s72_41, s72_44, s72_45, s72_46, s72_49, s72_50, s72_51, s72_54, s72_57, s72_60, s72_61, s72_63, s72_66, c1, Option.toList_some, Option.toList_none, List.cons_append, List.nil_append, List.append_nil, ip_on_some, true_and, and_true, if_true, if_false, not_true_eq_false, not_false_eq_true, decide_true, true_or, or_true, or_self, Bool.false_eq_true]
      exact l3 (wrd k).length 0 (Nat.zero_add _) _ _ (by rw [List.take_zero, List.append_nil]; exact hC)
    | succ m ih =>
      intro k hk2
      have c1 : ¬ nI w ≤ nI k := nI_ge (by omega) (by omega)
      rw [s72_4]
      simp only [s72_0, s72_1, s72_2, s72_3, s72_5, s72_6, s72_10, s72_13, s72_14, s72_15, s72_18, s72_21, s72_24, s72_27, s72_30, s72_33, s72_34, s72_36, s72_39, s72_40, s72_41, s72_44, s72_45, s72_46, s72_49, s72_50, s72_51, s72_54, s72_57, s72_60, s72_61, s72_63, s72_66, c1, Option.toList_some, Option.toList_none, List.cons_append, List.nil_append, List.append_nil, ip_on_some, true_and, and_true, if_true, if_false, not_true_eq_false, not_false_eq_true, decide_true, true_or, or_true, or_self, Bool.false_eq_true]
      exact l2 k (by omega) (fun _ => ih (k + 1) (by omega)) (wrd k).length (offW k) rfl (Nat.le_refl _)
  simp only [s72_0, s72_1, s72_2, s72_3]
  exact l1 w 0 (Nat.zero_add _)
theorem mp_text {w k : Nat} {wv : Int32} (ew : wv = nI w) (hw : w < 10) (h2 : w ≠ 2) (h8 : w ≠ 8) (ek : [6, 8, 0, 10, 12, 15, 14, 16, 0, 18].getD w 0 = k) (hW : WC I) {l : BL} (hl : (l ++ str k).length ≤ 4160) (hk : ∀ h, CQ X y I J (l ++ str k) h → post none h) : ∀ h, CQ X y I J l h → ip_WP 72 0 [some (.ref 47), some (.int wv), none, none] [] h b post px := by
  have e := st_w w hw h2 h8
  rw [ek] at e
  refine mp_word ew (by omega) hW (by have := len_l hl; omega) ?_
  rw [← e]
  exact hk
theorem mp_name (hm : MN Xc Jc X I) {t i : Nat} {tv : Int32} (et : tv = nI t) (ht : t < 4) (hi : i < cnt Xc t) {c : Nat} (ec : c = 6 + 2 * t) {l : BL} (hl : (l ++ nmB (kAt Xc Jc c (nI i))).length ≤ 4160) (hk : ∀ h, CQ X y I J (l ++ nmB (kAt Xc Jc c (nI i))) h → post none h) : ∀ h, CQ X y I J l h → ip_WP 73 0 [some (.ref 47), some (.int tv), some (.int (nI i)), none, none] [] h b post px := by
  subst et
  subst ec
  obtain ⟨n, p, q, hn, hA⟩ := hm.bwd t i ht hi
  have ht40 := tot_le hm.bd
  have hc := hm.bd.c t ht
  have h12 : i < 12 := by have := hc.2.1; split at this <;> omega
  have hkey : kAt Xc Jc (6 + 2 * t) (nI i) = Jc (7 + 2 * t) i := by
    unfold kAt
    have e0 : 0 ≤ nI i := Int32.not_lt.mp (nI_pos (by omega))
    have e1 : nI i < Xc (6 + 2 * t) 1 := by rw [hc.2.2]; exact Int32.not_le.mp (nI_ge hi (by have := hc.2.1; split at this <;> omega))
    rw [if_pos ⟨e0, e1⟩, nI_clamp (by omega), show 6 + 2 * t + 1 = 7 + 2 * t from by omega]
  rw [hkey, hA.nm.chars] at hl hk
  have hpq := hA.pq
  have hql := hA.ql
  have hsl := slc_len (I 51) p q
  have n1 : ¬ nI n < 0 := nI_pos (by omega)
  have n2 : ¬ 40 ≤ n := by omega
  have ncl := nI_clamp (show n < 2 ^ 31 by omega)
  have loop : ∀ m k, k + m = q - p → ∀ h, CQ X y I J (l ++ (slc (I 51) p q).take k) h → ip_WP 73 20 [some (.ref 47), some (.int (nI t)), some (.int (nI i)), some (.int (nI n)), some (.int (nI (p + k)))] [] h b post px := by
    intro m
    induction m with
    | zero =>
      intro k hk2 h hC
      obtain ⟨X', I', rfl, h1, h2, hX, hj, hI⟩ := id hC
      have e53 : I' 53 n = nI q := by rw [hI 53 (by decide)]; exact hA.to
      have c1 : nI q ≤ nI (p + k) := nI_le (by omega) (by omega)
      rw [s73_20]
      simp only [s73_0, s73_1, s73_4, s73_6, s73_7, s73_8, s73_9, s73_10, s73_11, s73_12, s73_13, s73_16, s73_17, s73_18, s73_22, s73_23, s73_26, s73_27, s73_28, s73_31, s73_32, s73_33, s73_36, s73_38, s73_39, s73_42, s73_45, s73_48, f_47_0, f_47_1, u_47_1, f_47_2, u_47_2, f_47_3, f_47_4, u_47_4, f_47_5, f_47_6, u_47_6, f_47_7, u_47_7, f_47_8, u_47_8, f_47_9, u_47_9, f_47_10, u_47_10, f_47_11, f_47_12, f_47_13, f_47_14, f_47_15, f_47_16, f_47_17, f_47_18, f_47_19, f_47_20, f_47_21, f_47_22, f_47_23, u_47_23, f_47_24, f_47_25, f_47_26, f_47_27, f_47_28, f_47_29, u_47_29, f_47_30, u_47_30, f_47_31, f_47_32, f_47_33, f_47_34, f_47_35, u_47_35, f_47_36, u_47_36, f_47_37, u_47_37, f_47_38, u_47_38, o_47, a_53, l_53, ncl, n1, n2, e53, c1, Option.toList_some, Option.toList_none, List.cons_append, List.nil_append, List.append_nil, ip_on_some, true_and, and_true, if_true, if_false, not_true_eq_false, not_false_eq_true, decide_true, true_or, or_true, or_self, Bool.false_eq_true]
      refine hk _ ?_
      rw [List.take_of_length_le (by rw [hsl]; omega)] at hC
      exact hC
    | succ m ih =>
      intro k hk2 h hC
      obtain ⟨X', I', rfl, h1, h2, hX, hj, hI⟩ := id hC
      have e53 : I' 53 n = nI q := by rw [hI 53 (by decide)]; exact hA.to
      have c1 : ¬ nI q ≤ nI (p + k) := nI_ge (by omega) (by omega)
      have j1 : ¬ nI (p + k) < 0 := nI_pos (by omega)
      have j2 : ¬ 4400 ≤ p + k := by omega
      have hs := slc_get (I 51) (p := p) (q := q) (k := k) (by omega)
      rw [s73_20]
      simp only [s73_0, s73_1, s73_4, s73_6, s73_7, s73_8, s73_9, s73_10, s73_11, s73_12, s73_13, s73_16, s73_17, s73_18, s73_22, s73_23, s73_26, s73_27, s73_28, s73_31, s73_32, s73_33, s73_36, s73_38, s73_39, s73_42, s73_45, s73_48, f_47_0, f_47_1, u_47_1, f_47_2, u_47_2, f_47_3, f_47_4, u_47_4, f_47_5, f_47_6, u_47_6, f_47_7, u_47_7, f_47_8, u_47_8, f_47_9, u_47_9, f_47_10, u_47_10, f_47_11, f_47_12, f_47_13, f_47_14, f_47_15, f_47_16, f_47_17, f_47_18, f_47_19, f_47_20, f_47_21, f_47_22, f_47_23, u_47_23, f_47_24, f_47_25, f_47_26, f_47_27, f_47_28, f_47_29, u_47_29, f_47_30, u_47_30, f_47_31, f_47_32, f_47_33, f_47_34, f_47_35, u_47_35, f_47_36, u_47_36, f_47_37, u_47_37, f_47_38, u_47_38, o_47, a_51, l_51, a_53, l_53, ncl, nI_clamp (show p + k < 2 ^ 31 by omega), n1, n2, e53, c1, j1, j2, hI 51 (by decide), Option.toList_some, Option.toList_none, List.cons_append, List.nil_append, List.append_nil, ip_on_some, true_and, and_true, if_true, if_false, not_true_eq_false, not_false_eq_true, decide_true, true_or, or_true, or_self, Bool.false_eq_true]
      refine mp_say (l := l ++ (slc (I 51) p q).take k) (by have := len_l hl; simp only [List.length_append, List.length_take, hsl] at hl ⊢; omega) (fun h hC => ?_) _ hC
      obtain ⟨X', I', rfl, h1, h2, hX, hj, hI⟩ := id hC
      simp only [s73_0, s73_1, s73_4, s73_6, s73_7, s73_8, s73_9, s73_10, s73_11, s73_12, s73_13, s73_16, s73_17, s73_18, s73_22, s73_23, s73_26, s73_27, s73_28, s73_31, s73_32, s73_33, s73_36, s73_38, s73_39, s73_42, s73_45, s73_48, nI_1, Option.toList_some, Option.toList_none, List.cons_append, List.nil_append, List.append_nil, ip_on_some, true_and, and_true, if_true, if_false, not_true_eq_false, not_false_eq_true, decide_true, true_or, or_true, or_self, Bool.false_eq_true]
      refine ih (k + 1) (by omega) _ ?_
      rw [List.take_succ, hs, ← List.append_assoc]
      exact hC
  intro h hC
  obtain ⟨X', I', rfl, h1, h2, hX, hj, hI⟩ := id hC
  have e57 : I' 57 (12 * t + i) = nI n := by rw [hI 57 (by decide)]; exact hA.no
  have e52 : I' 52 n = nI p := by rw [hI 52 (by decide)]; exact hA.fr
  have m1 : ¬ nI (12 * t + i) < 0 := nI_pos (by omega)
  have m2 : ¬ 48 ≤ 12 * t + i := by omega
  simp only [s73_0, s73_1, s73_4, s73_6, s73_7, s73_8, s73_9, s73_10, s73_11, s73_12, s73_13, s73_16, s73_17, s73_18, s73_22, s73_23, s73_26, s73_27, s73_28, s73_31, s73_32, s73_33, s73_36, s73_38, s73_39, s73_42, s73_45, s73_48, f_47_0, f_47_1, u_47_1, f_47_2, u_47_2, f_47_3, f_47_4, u_47_4, f_47_5, f_47_6, u_47_6, f_47_7, u_47_7, f_47_8, u_47_8, f_47_9, u_47_9, f_47_10, u_47_10, f_47_11, f_47_12, f_47_13, f_47_14, f_47_15, f_47_16, f_47_17, f_47_18, f_47_19, f_47_20, f_47_21, f_47_22, f_47_23, u_47_23, f_47_24, f_47_25, f_47_26, f_47_27, f_47_28, f_47_29, u_47_29, f_47_30, u_47_30, f_47_31, f_47_32, f_47_33, f_47_34, f_47_35, u_47_35, f_47_36, u_47_36, f_47_37, u_47_37, f_47_38, u_47_38, o_47, a_52, l_52, a_57, l_57, mul12, nI_add, nI_clamp (show 12 * t + i < 2 ^ 31 by omega), m1, m2, e57, ncl, n1, n2, e52, Option.toList_some, Option.toList_none, List.cons_append, List.nil_append, List.append_nil, ip_on_some, true_and, and_true, if_true, if_false, not_true_eq_false, not_false_eq_true, decide_true, true_or, or_true, or_self, Bool.false_eq_true]
  exact loop (q - p) 0 (Nat.zero_add _) _ (by rw [List.take_zero, List.append_nil]; exact hC)
theorem mp_sign {v : Int32} {k : Nat} (ek : str k = [32, v, 32]) {l : BL} (hl : (l ++ str k).length ≤ 4160) (hk : ∀ h, CQ X y I J (l ++ str k) h → post none h) : ∀ h, CQ X y I J l h → ip_WP 74 0 [some (.ref 47), some (.int v)] [] h b post px := by
  have hl0 := len_l hl
  intro h hC
  obtain ⟨X', I', rfl, h1, h2, hX, hj, hI⟩ := id hC
  simp only [s74_0, s74_1, s74_3, s74_6, s74_7, s74_8, s74_11, s74_12, s74_14, s74_17, f_47_0, f_47_1, u_47_1, f_47_2, u_47_2, f_47_3, f_47_4, u_47_4, f_47_5, f_47_6, u_47_6, f_47_7, u_47_7, f_47_8, u_47_8, f_47_9, u_47_9, f_47_10, u_47_10, f_47_11, f_47_12, f_47_13, f_47_14, f_47_15, f_47_16, f_47_17, f_47_18, f_47_19, f_47_20, f_47_21, f_47_22, f_47_23, u_47_23, f_47_24, f_47_25, f_47_26, f_47_27, f_47_28, f_47_29, u_47_29, f_47_30, u_47_30, f_47_31, f_47_32, f_47_33, f_47_34, f_47_35, u_47_35, f_47_36, u_47_36, f_47_37, u_47_37, f_47_38, u_47_38, o_47, Option.toList_some, Option.toList_none, List.cons_append, List.nil_append, List.append_nil, ip_on_some, true_and, and_true, if_true, if_false, not_true_eq_false, not_false_eq_true, decide_true, true_or, or_true, or_self, Bool.false_eq_true]
  refine mp_say (l := l) (by omega) (fun h hC => ?_) _ hC
  obtain ⟨X', I', rfl, h1, h2, hX, hj, hI⟩ := id hC
  simp only [s74_0, s74_1, s74_3, s74_6, s74_7, s74_8, s74_11, s74_12, s74_14, s74_17, f_47_0, f_47_1, u_47_1, f_47_2, u_47_2, f_47_3, f_47_4, u_47_4, f_47_5, f_47_6, u_47_6, f_47_7, u_47_7, f_47_8, u_47_8, f_47_9, u_47_9, f_47_10, u_47_10, f_47_11, f_47_12, f_47_13, f_47_14, f_47_15, f_47_16, f_47_17, f_47_18, f_47_19, f_47_20, f_47_21, f_47_22, f_47_23, u_47_23, f_47_24, f_47_25, f_47_26, f_47_27, f_47_28, f_47_29, u_47_29, f_47_30, u_47_30, f_47_31, f_47_32, f_47_33, f_47_34, f_47_35, u_47_35, f_47_36, u_47_36, f_47_37, u_47_37, f_47_38, u_47_38, o_47, Option.toList_some, Option.toList_none, List.cons_append, List.nil_append, List.append_nil, ip_on_some, true_and, and_true, if_true, if_false, not_true_eq_false, not_false_eq_true, decide_true, true_or, or_true, or_self, Bool.false_eq_true]
  refine mp_say (l := l ++ [32]) (by rw [List.length_append, List.length_singleton]; omega) (fun h hC => ?_) _ hC
  obtain ⟨X', I', rfl, h1, h2, hX, hj, hI⟩ := id hC
  simp only [s74_0, s74_1, s74_3, s74_6, s74_7, s74_8, s74_11, s74_12, s74_14, s74_17, f_47_0, f_47_1, u_47_1, f_47_2, u_47_2, f_47_3, f_47_4, u_47_4, f_47_5, f_47_6, u_47_6, f_47_7, u_47_7, f_47_8, u_47_8, f_47_9, u_47_9, f_47_10, u_47_10, f_47_11, f_47_12, f_47_13, f_47_14, f_47_15, f_47_16, f_47_17, f_47_18, f_47_19, f_47_20, f_47_21, f_47_22, f_47_23, u_47_23, f_47_24, f_47_25, f_47_26, f_47_27, f_47_28, f_47_29, u_47_29, f_47_30, u_47_30, f_47_31, f_47_32, f_47_33, f_47_34, f_47_35, u_47_35, f_47_36, u_47_36, f_47_37, u_47_37, f_47_38, u_47_38, o_47, Option.toList_some, Option.toList_none, List.cons_append, List.nil_append, List.append_nil, ip_on_some, true_and, and_true, if_true, if_false, not_true_eq_false, not_false_eq_true, decide_true, true_or, or_true, or_self, Bool.false_eq_true]
  refine mp_say (l := l ++ [32] ++ [v]) (by simp only [List.length_append, List.length_singleton]; omega) (fun h hC => ?_) _ hC
  obtain ⟨X', I', rfl, h1, h2, hX, hj, hI⟩ := id hC
  simp only [s74_0, s74_1, s74_3, s74_6, s74_7, s74_8, s74_11, s74_12, s74_14, s74_17, Option.toList_some, Option.toList_none, List.cons_append, List.nil_append, List.append_nil, ip_on_some, true_and, and_true, if_true, if_false, not_true_eq_false, not_false_eq_true, decide_true, true_or, or_true, or_self, Bool.false_eq_true]
  refine hk _ ?_
  rw [ek]
  simp only [app_as, List.cons_append, List.nil_append] at hC
  exact hC
theorem mp_end {l : BL} (hl : (l ++ str 20).length ≤ 4160) (hk : ∀ h, CQ X y I J (l ++ str 20) h → post none h) : ∀ h, CQ X y I J l h → ip_WP 77 0 [some (.ref 47)] [] h b post px := by
  have hl0 := len_l hl
  intro h hC
  obtain ⟨X', I', rfl, h1, h2, hX, hj, hI⟩ := id hC
  simp only [s77_0, s77_1, s77_3, s77_6, s77_7, s77_9, s77_12, f_47_0, f_47_1, u_47_1, f_47_2, u_47_2, f_47_3, f_47_4, u_47_4, f_47_5, f_47_6, u_47_6, f_47_7, u_47_7, f_47_8, u_47_8, f_47_9, u_47_9, f_47_10, u_47_10, f_47_11, f_47_12, f_47_13, f_47_14, f_47_15, f_47_16, f_47_17, f_47_18, f_47_19, f_47_20, f_47_21, f_47_22, f_47_23, u_47_23, f_47_24, f_47_25, f_47_26, f_47_27, f_47_28, f_47_29, u_47_29, f_47_30, u_47_30, f_47_31, f_47_32, f_47_33, f_47_34, f_47_35, u_47_35, f_47_36, u_47_36, f_47_37, u_47_37, f_47_38, u_47_38, o_47, Option.toList_some, Option.toList_none, List.cons_append, List.nil_append, List.append_nil, ip_on_some, true_and, and_true, if_true, if_false, not_true_eq_false, not_false_eq_true, decide_true, true_or, or_true, or_self, Bool.false_eq_true]
  refine mp_say (l := l) (by omega) (fun h hC => ?_) _ hC
  obtain ⟨X', I', rfl, h1, h2, hX, hj, hI⟩ := id hC
  simp only [s77_0, s77_1, s77_3, s77_6, s77_7, s77_9, s77_12, f_47_0, f_47_1, u_47_1, f_47_2, u_47_2, f_47_3, f_47_4, u_47_4, f_47_5, f_47_6, u_47_6, f_47_7, u_47_7, f_47_8, u_47_8, f_47_9, u_47_9, f_47_10, u_47_10, f_47_11, f_47_12, f_47_13, f_47_14, f_47_15, f_47_16, f_47_17, f_47_18, f_47_19, f_47_20, f_47_21, f_47_22, f_47_23, u_47_23, f_47_24, f_47_25, f_47_26, f_47_27, f_47_28, f_47_29, u_47_29, f_47_30, u_47_30, f_47_31, f_47_32, f_47_33, f_47_34, f_47_35, u_47_35, f_47_36, u_47_36, f_47_37, u_47_37, f_47_38, u_47_38, o_47, Option.toList_some, Option.toList_none, List.cons_append, List.nil_append, List.append_nil, ip_on_some, true_and, and_true, if_true, if_false, not_true_eq_false, not_false_eq_true, decide_true, true_or, or_true, or_self, Bool.false_eq_true]
  refine mp_say (l := l ++ [59]) (by rw [List.length_append, List.length_singleton]; omega) (fun h hC => ?_) _ hC
  obtain ⟨X', I', rfl, h1, h2, hX, hj, hI⟩ := id hC
  simp only [s77_0, s77_1, s77_3, s77_6, s77_7, s77_9, s77_12, Option.toList_some, Option.toList_none, List.cons_append, List.nil_append, List.append_nil, ip_on_some, true_and, and_true, if_true, if_false, not_true_eq_false, not_false_eq_true, decide_true, true_or, or_true, or_self, Bool.false_eq_true]
  refine hk _ ?_
  rw [st_20]
  simp only [app_as, List.cons_append, List.nil_append] at hC
  exact hC
theorem mp_comma {l : BL} {f : Bool} {fv : Int32} (ef : fv = bI (f = true)) (hl : (l ++ (if f = true then [] else str 7)).length ≤ 4160) (hk : ∀ h, CQ X y I J (l ++ (if f = true then [] else str 7)) h → post none h) : ∀ h, CQ X y I J l h → ip_WP 75 0 [some (.ref 47), some (.int fv)] [] h b post px := by
  subst ef
  have hl0 := len_l hl
  intro h hC
  obtain ⟨X', I', rfl, h1, h2, hX, hj, hI⟩ := id hC
  cases f with
  | true =>
    simp only [s75_0, s75_1, s75_4, s75_5, s75_6, s75_8, s75_11, s75_12, s75_14, s75_17, bI_tt, qe_m1_0, qe_m1_1, qe_m1_2, qe_m1_3, qe_m1_4, qe_m1_5, qe_m1_6, qe_m1_7, qe_m1_8, qe_0_m1, qe_0_1, qe_0_2, qe_0_3, qe_0_4, qe_0_5, qe_0_6, qe_0_7, qe_0_8, qe_1_m1, qe_1_0, qe_1_2, qe_1_3, qe_1_4, qe_1_5, qe_1_6, qe_1_7, qe_1_8, qe_2_m1, qe_2_0, qe_2_1, qe_2_3, qe_2_4, qe_2_5, qe_2_6, qe_2_7, qe_2_8, qe_3_m1, qe_3_0, qe_3_1, qe_3_2, qe_3_4, qe_3_5, qe_3_6, qe_3_7, qe_3_8, qe_4_m1, qe_4_0, qe_4_1, qe_4_2, qe_4_3, qe_4_5, qe_4_6, qe_4_7, qe_4_8, qe_5_m1, qe_5_0, qe_5_1, qe_5_2, qe_5_3, qe_5_4, qe_5_6, qe_5_7, qe_5_8, qe_6_m1, qe_6_0, qe_6_1, qe_6_2, qe_6_3, qe_6_4, qe_6_5, qe_6_7, qe_6_8, qe_7_m1, qe_7_0, qe_7_1, qe_7_2, qe_7_3, qe_7_4, qe_7_5, qe_7_6, qe_7_8, qe_8_m1, qe_8_0, qe_8_1, qe_8_2, qe_8_3, qe_8_4, qe_8_5, qe_8_6, qe_8_7, Option.toList_some, Option.toList_none, List.cons_append, List.nil_append, List.append_nil, ip_on_some, true_and, and_true, if_true, if_false, not_true_eq_false, not_false_eq_true, decide_true, true_or, or_true, or_self, Bool.false_eq_true]
    rw [if_pos rfl, List.append_nil] at hk
    exact hk _ hC
  | false =>
    simp only [s75_0, s75_1, s75_4, s75_5, s75_6, s75_8, s75_11, s75_12, s75_14, s75_17, f_47_0, f_47_1, u_47_1, f_47_2, u_47_2, f_47_3, f_47_4, u_47_4, f_47_5, f_47_6, u_47_6, f_47_7, u_47_7, f_47_8, u_47_8, f_47_9, u_47_9, f_47_10, u_47_10, f_47_11, f_47_12, f_47_13, f_47_14, f_47_15, f_47_16, f_47_17, f_47_18, f_47_19, f_47_20, f_47_21, f_47_22, f_47_23, u_47_23, f_47_24, f_47_25, f_47_26, f_47_27, f_47_28, f_47_29, u_47_29, f_47_30, u_47_30, f_47_31, f_47_32, f_47_33, f_47_34, f_47_35, u_47_35, f_47_36, u_47_36, f_47_37, u_47_37, f_47_38, u_47_38, o_47, bI_ff, Option.toList_some, Option.toList_none, List.cons_append, List.nil_append, List.append_nil, ip_on_some, true_and, and_true, if_true, if_false, not_true_eq_false, not_false_eq_true, decide_true, true_or, or_true, or_self, Bool.false_eq_true]
    refine mp_say (l := l) (by omega) (fun h hC => ?_) _ hC
    obtain ⟨X', I', rfl, h1, h2, hX, hj, hI⟩ := id hC
    simp only [s75_0, s75_1, s75_4, s75_5, s75_6, s75_8, s75_11, s75_12, s75_14, s75_17, f_47_0, f_47_1, u_47_1, f_47_2, u_47_2, f_47_3, f_47_4, u_47_4, f_47_5, f_47_6, u_47_6, f_47_7, u_47_7, f_47_8, u_47_8, f_47_9, u_47_9, f_47_10, u_47_10, f_47_11, f_47_12, f_47_13, f_47_14, f_47_15, f_47_16, f_47_17, f_47_18, f_47_19, f_47_20, f_47_21, f_47_22, f_47_23, u_47_23, f_47_24, f_47_25, f_47_26, f_47_27, f_47_28, f_47_29, u_47_29, f_47_30, u_47_30, f_47_31, f_47_32, f_47_33, f_47_34, f_47_35, u_47_35, f_47_36, u_47_36, f_47_37, u_47_37, f_47_38, u_47_38, o_47, Option.toList_some, Option.toList_none, List.cons_append, List.nil_append, List.append_nil, ip_on_some, true_and, and_true, if_true, if_false, not_true_eq_false, not_false_eq_true, decide_true, true_or, or_true, or_self, Bool.false_eq_true]
    refine mp_say (l := l ++ [44]) (by rw [List.length_append, List.length_singleton]; omega) (fun h hC => ?_) _ hC
    obtain ⟨X', I', rfl, h1, h2, hX, hj, hI⟩ := id hC
    simp only [s75_0, s75_1, s75_4, s75_5, s75_6, s75_8, s75_11, s75_12, s75_14, s75_17, Option.toList_some, Option.toList_none, List.cons_append, List.nil_append, List.append_nil, ip_on_some, true_and, and_true, if_true, if_false, not_true_eq_false, not_false_eq_true, decide_true, true_or, or_true, or_self, Bool.false_eq_true]
    refine hk _ ?_
    rw [if_neg (by decide), st_7]
    simp only [app_as, List.cons_append, List.nil_append] at hC
    exact hC
theorem le99 {v : Int32} : (v ≤ 99) = ¬ (100 ≤ v) := by
  apply propext
  rw [Int32.le_iff_toInt_le, Int32.le_iff_toInt_le, show (99 : Int32).toInt = 99 from by decide, show (100 : Int32).toInt = 100 from by decide]
  omega
theorem le9 {v : Int32} : (v ≤ 9) = ¬ (10 ≤ v) := by
  apply propext
  rw [Int32.le_iff_toInt_le, Int32.le_iff_toInt_le, show (9 : Int32).toInt = 9 from by decide, show (10 : Int32).toInt = 10 from by decide]
  omega
theorem mp_num {l : BL} {v : Int32} (hl : (l ++ nbB v).length ≤ 4160) (hk : ∀ h, CQ X y I J (l ++ nbB v) h → post none h) : ∀ h, CQ X y I J l h → ip_WP 76 0 [some (.ref 47), some (.int v)] [] h b post px := by
  unfold nbB at hl hk
  have z1 : ¬ (100 : Int32) = 0 := by decide
  have z2 : ¬ (10 : Int32) = 0 := by decide
  have h3 : ∀ l' : BL, l'.length ≤ 4300 → (∀ h, CQ X y I J (l' ++ [48 + (v - v / 10 * 10)]) h → post none h) → ∀ h, CQ X y I J l' h → ip_WP 76 37 [some (.ref 47), some (.int v)] [] h b post px := by
    intro l' hl hk h hC
    obtain ⟨X', I', rfl, _⟩ := id hC
    simp only [s76_0, s76_1, s76_3, s76_6, s76_7, s76_9, s76_10, s76_12, s76_13, s76_14, s76_17, s76_18, s76_20, s76_23, s76_24, s76_26, s76_27, s76_29, s76_30, s76_32, s76_33, s76_34, s76_37, s76_38, s76_40, s76_41, s76_43, s76_44, s76_45, s76_48, f_47_0, f_47_1, u_47_1, f_47_2, u_47_2, f_47_3, f_47_4, u_47_4, f_47_5, f_47_6, u_47_6, f_47_7, u_47_7, f_47_8, u_47_8, f_47_9, u_47_9, f_47_10, u_47_10, f_47_11, f_47_12, f_47_13, f_47_14, f_47_15, f_47_16, f_47_17, f_47_18, f_47_19, f_47_20, f_47_21, f_47_22, f_47_23, u_47_23, f_47_24, f_47_25, f_47_26, f_47_27, f_47_28, f_47_29, u_47_29, f_47_30, u_47_30, f_47_31, f_47_32, f_47_33, f_47_34, f_47_35, u_47_35, f_47_36, u_47_36, f_47_37, u_47_37, f_47_38, u_47_38, o_47, z2, Option.toList_some, Option.toList_none, List.cons_append, List.nil_append, List.append_nil, ip_on_some, true_and, and_true, if_true, if_false, not_true_eq_false, not_false_eq_true, decide_true, true_or, or_true, or_self, Bool.false_eq_true]
    refine mp_say (by omega) (fun h hC => ?_) _ hC
    obtain ⟨X', I', rfl, _⟩ := id hC
    simp only [s76_0, s76_1, s76_3, s76_6, s76_7, s76_9, s76_10, s76_12, s76_13, s76_14, s76_17, s76_18, s76_20, s76_23, s76_24, s76_26, s76_27, s76_29, s76_30, s76_32, s76_33, s76_34, s76_37, s76_38, s76_40, s76_41, s76_43, s76_44, s76_45, s76_48, Option.toList_some, Option.toList_none, List.cons_append, List.nil_append, List.append_nil, ip_on_some, true_and, and_true, if_true, if_false, not_true_eq_false, not_false_eq_true, decide_true, true_or, or_true, or_self, Bool.false_eq_true]
    exact hk _ hC
  have h2 : ∀ l' : BL, l'.length ≤ 4200 → (∀ h, CQ X y I J (l' ++ ((if 10 ≤ v then [48 + (v / 10 - v / 10 / 10 * 10)] else []) ++ [48 + (v - v / 10 * 10)])) h → post none h) → ∀ h, CQ X y I J l' h → ip_WP 76 17 [some (.ref 47), some (.int v)] [] h b post px := by
    intro l' hl hk h hC
    obtain ⟨X', I', rfl, _⟩ := id hC
    simp only [s76_0, s76_1, s76_3, s76_6, s76_7, s76_9, s76_10, s76_12, s76_13, s76_14, s76_17, s76_18, s76_20, s76_23, s76_24, s76_26, s76_27, s76_29, s76_30, s76_32, s76_33, s76_34, f_47_0, f_47_1, u_47_1, f_47_2, u_47_2, f_47_3, f_47_4, u_47_4, f_47_5, f_47_6, u_47_6, f_47_7, u_47_7, f_47_8, u_47_8, f_47_9, u_47_9, f_47_10, u_47_10, f_47_11, f_47_12, f_47_13, f_47_14, f_47_15, f_47_16, f_47_17, f_47_18, f_47_19, f_47_20, f_47_21, f_47_22, f_47_23, u_47_23, f_47_24, f_47_25, f_47_26, f_47_27, f_47_28, f_47_29, u_47_29, f_47_30, u_47_30, f_47_31, f_47_32, f_47_33, f_47_34, f_47_35, u_47_35, f_47_36, u_47_36, f_47_37, u_47_37, f_47_38, u_47_38, o_47, z2, le9, Option.toList_some, Option.toList_none, List.cons_append, List.nil_append, List.append_nil, ip_on_some, true_and, and_true, if_true, if_false, not_true_eq_false, not_false_eq_true, decide_true, true_or, or_true, or_self, Bool.false_eq_true]
    by_cases c : (10 : Int32) ≤ v
    · rw [if_pos c] at hk
      simp only [c, Option.toList_some, Option.toList_none, List.cons_append, List.nil_append, List.append_nil, ip_on_some, true_and, and_true, if_true, if_false, not_true_eq_false, not_false_eq_true, decide_true, true_or, or_true, or_self, Bool.false_eq_true]
      refine mp_say (l := l') (by omega) (fun h hC => ?_) _ hC
      obtain ⟨X', I', rfl, _⟩ := id hC
      simp only [Option.toList_some, Option.toList_none, List.cons_append, List.nil_append, List.append_nil, ip_on_some, true_and, and_true, if_true, if_false, not_true_eq_false, not_false_eq_true, decide_true, true_or, or_true, or_self, Bool.false_eq_true]
      exact h3 _ (by rw [List.length_append, List.length_singleton]; omega) (by simpa only [List.append_assoc] using hk) _ hC
    · rw [if_neg c, List.nil_append] at hk
      simp only [c, Option.toList_some, Option.toList_none, List.cons_append, List.nil_append, List.append_nil, ip_on_some, true_and, and_true, if_true, if_false, not_true_eq_false, not_false_eq_true, decide_true, true_or, or_true, or_self, Bool.false_eq_true]
      exact h3 _ (by omega) hk _ hC
  have hl0 := len_l hl
  intro h hC
  obtain ⟨X', I', rfl, _⟩ := id hC
  simp only [s76_0, s76_1, s76_3, s76_6, s76_7, s76_9, s76_10, s76_12, s76_13, s76_14, f_47_0, f_47_1, u_47_1, f_47_2, u_47_2, f_47_3, f_47_4, u_47_4, f_47_5, f_47_6, u_47_6, f_47_7, u_47_7, f_47_8, u_47_8, f_47_9, u_47_9, f_47_10, u_47_10, f_47_11, f_47_12, f_47_13, f_47_14, f_47_15, f_47_16, f_47_17, f_47_18, f_47_19, f_47_20, f_47_21, f_47_22, f_47_23, u_47_23, f_47_24, f_47_25, f_47_26, f_47_27, f_47_28, f_47_29, u_47_29, f_47_30, u_47_30, f_47_31, f_47_32, f_47_33, f_47_34, f_47_35, u_47_35, f_47_36, u_47_36, f_47_37, u_47_37, f_47_38, u_47_38, o_47, z1, le99, Option.toList_some, Option.toList_none, List.cons_append, List.nil_append, List.append_nil, ip_on_some, true_and, and_true, if_true, if_false, not_true_eq_false, not_false_eq_true, decide_true, true_or, or_true, or_self, Bool.false_eq_true]
  by_cases c : (100 : Int32) ≤ v
  · rw [if_pos c] at hk
    simp only [c, Option.toList_some, Option.toList_none, List.cons_append, List.nil_append, List.append_nil, ip_on_some, true_and, and_true, if_true, if_false, not_true_eq_false, not_false_eq_true, decide_true, true_or, or_true, or_self, Bool.false_eq_true]
    refine mp_say (l := l) (by omega) (fun h hC => ?_) _ hC
    obtain ⟨X', I', rfl, _⟩ := id hC
    simp only [Option.toList_some, Option.toList_none, List.cons_append, List.nil_append, List.append_nil, ip_on_some, true_and, and_true, if_true, if_false, not_true_eq_false, not_false_eq_true, decide_true, true_or, or_true, or_self, Bool.false_eq_true]
    exact h2 _ (by rw [List.length_append, List.length_singleton]; omega) (by simpa only [List.append_assoc] using hk) _ hC
  · rw [if_neg c, List.nil_append] at hk
    simp only [c, Option.toList_some, Option.toList_none, List.cons_append, List.nil_append, List.append_nil, ip_on_some, true_and, and_true, if_true, if_false, not_true_eq_false, not_false_eq_true, decide_true, true_or, or_true, or_self, Bool.false_eq_true]
    exact h2 _ (by omega) hk _ hC
end
