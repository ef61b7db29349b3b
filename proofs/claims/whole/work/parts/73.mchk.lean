/-! the model's lists of errors and remarks -/
theorem lpFx {mi pc : Nat} {L : Int32 → Option Value → ip_Lo} {b : ip_B} {post : Option Value → ip_H → Prop} {px : String → ip_H → Prop} {C : FD → ip_H → Prop} {p : Nat → Bool} {num : Int32} {n cap : Nat} {L0 : FD} (hb : L0.length + n ≤ cap)
    (hs : ∀ i l h x, i < n → l.length < cap → C l h → (∀ h' x', C (if p i = true then l ++ [(num, nI i)] else l) h' → ip_WP mi pc (L (nI (i + 1)) x') [] h' b post px) → ip_WP mi pc (L (nI i) x) [] h b post px)
    (he : ∀ h x, C (L0 ++ erK p num n) h → ip_WP mi pc (L (nI n) x) [] h b post px) : ∀ h x, C L0 h → ip_WP mi pc (L 0 x) [] h b post px := by
  intro h x hC
  have := lp (σ := ip_H) (P := fun i h => C (L0 ++ erK p num i) h) (W := fun i h => ∀ x, ip_WP mi pc (L (nI i) x) [] h b post px) n (fun i h hi hP hk x => by
    refine hs i _ h x hi ?_ hP (fun h' x' hC' => hk h' ?_ x')
    · rw [List.length_append]
      have := erK_len p num i
      omega
    · show C (L0 ++ erK p num (i + 1)) h'
      rw [erK_succ]
      cases q : p i with
      | true => rw [q] at hC'; rw [if_pos rfl] at hC' ⊢; rw [← List.append_assoc]; exact hC'
      | false => rw [q] at hC'; rw [if_neg (by decide)] at hC' ⊢; exact hC') (fun h hC x => he h x hC) 0 h (Nat.zero_le n) (by
    show C (L0 ++ erK p num 0) h
    rw [show erK p num 0 = [] from rfl, List.append_nil]
    exact hC)
  rw [← nI_0]
  exact this x
/-- the model's heap while it lists -/
def CM (j a0 a1 : Nat) (X : Nat → Nat → Int32) (y : Int64) (I : Nat → Nat → Int32) (J : Nat → Nat → Int64) (l : FD) (h : ip_H) : Prop := ∃ X' I', h = (g0, fld X' y, I', J) ∧ FL X' I' 47 j a0 a1 l ∧ (∀ c, c ≠ 47 → X' c = X c) ∧ (∀ i, i ≠ j → X' 47 i = X 47 i) ∧ (∀ a, a ≠ a0 → a ≠ a1 → I' a = I a)
theorem FL.addM {X : Nat → Nat → Int32} {I : Nat → Nat → Int32} {k j a0 a1 : Nat} {l : FD} {u v : Int32} (h : FL X I k j a0 a1 l) (hl : l.length < 100) (ha : a0 ≠ a1) : FL (ip_up X k j (nI (l.length + 1))) (ip_up (ip_up I a0 l.length u) a1 l.length v) k j a0 a1 (l ++ [(u, v)]) := by
  have := h.add (u := u) (v := v) (n := 100) hl (by decide) ha
  rw [h.s, rset_nI hl (by decide), rset_nI hl (by decide), nI_1] at this
  exact this
section
variable {X : Nat → Nat → Int32} {y : Int64} {I : Nat → Nat → Int32} {J : Nat → Nat → Int64} {b : ip_B} {post : Option Value → ip_H → Prop} {px : String → ip_H → Prop}
variable {Xc : Nat → Nat → Int32} {Ic : Nat → Nat → Int32} {Jc : Nat → Nat → Int64}
theorem CM.add {j a0 a1 : Nat} {l : FD} {u v : Int32} {X' I' : Nat → Nat → Int32} (hF : FL X' I' 47 j a0 a1 l) (hX : ∀ c, c ≠ 47 → X' c = X c) (hj : ∀ i, i ≠ j → X' 47 i = X 47 i) (hI : ∀ a, a ≠ a0 → a ≠ a1 → I' a = I a) (hl : l.length < 100) (ha : a0 ≠ a1) : CM j a0 a1 X y I J (l ++ [(u, v)]) (g0, fld (ip_up X' 47 j (nI (l.length + 1))) y, ip_up (ip_up I' a0 l.length u) a1 l.length v, J) :=
  ⟨_, _, rfl, hF.addM hl ha, fun c hc => by rw [up1, if_neg hc]; exact hX c hc, fun i hi => by rw [up47, if_neg hi]; exact hj i hi, fun a h0 h1 => by rw [up1, if_neg h1, up1, if_neg h0]; exact hI a h0 h1⟩
theorem cm_wrong {l : FD} {n : Int32} {i : Nat} {h : ip_H} (hl : l.length < 64) (hC : CM 29 68 69 X y I J l h) (hk : ∀ h', CM 29 68 69 X y I J (l ++ [(n, nI i)]) h' → post none h') : ip_WP 56 0 [some (.ref 47), some (.int n), some (.int (nI i))] [] h b post px := by
  obtain ⟨X', I', rfl, hF, hX, hj, hI⟩ := hC
  have c2 : ¬ nI l.length < 0 := nI_pos (by omega)
  have c3 : ¬ 64 ≤ l.length := by omega
  simp only [s56_0, s56_1, s56_4, s56_5, s56_8, s56_9, s56_10, s56_11, s56_14, s56_15, s56_18, s56_19, s56_20, s56_21, s56_22, s56_25, s56_26, s56_27, s56_30, f_47_0, f_47_1, u_47_1, f_47_2, u_47_2, f_47_3, f_47_4, u_47_4, f_47_5, f_47_6, u_47_6, f_47_7, u_47_7, f_47_8, u_47_8, f_47_9, u_47_9, f_47_10, u_47_10, f_47_11, f_47_12, f_47_13, f_47_14, f_47_15, f_47_16, f_47_17, f_47_18, f_47_19, f_47_20, f_47_21, f_47_22, f_47_23, u_47_23, f_47_24, f_47_25, f_47_26, f_47_27, f_47_28, f_47_29, u_47_29, f_47_30, u_47_30, f_47_31, f_47_32, f_47_33, f_47_34, f_47_35, u_47_35, f_47_36, u_47_36, f_47_37, u_47_37, f_47_38, u_47_38, o_47, a_68, l_68, a_69, l_69, hF.s, nI_clamp (show l.length < 2 ^ 31 by omega), c2, c3, nI_1, Option.toList_some, Option.toList_none, List.cons_append, List.nil_append, List.append_nil, ip_on_some, true_and, and_true, if_true, if_false, not_true_eq_false, not_false_eq_true, decide_true, true_or, or_true, or_self, Bool.false_eq_true]
  exact hk _ (CM.add hF hX hj hI (by omega) (by decide))
theorem cm_seen {l : FD} {n : Int32} {i : Nat} {h : ip_H} {v : Prop} [Decidable v] (hl : l.length < 80) (hC : CM 30 70 71 X y I J l h) (hk : ∀ h', CM 30 70 71 X y I J (if v then l ++ [(n, nI i)] else l) h' → post none h') : ip_WP 57 0 [some (.ref 47), some (.int n), some (.int (nI i)), some (.int (bI v))] [] h b post px := by
  obtain ⟨X', I', rfl, hF, hX, hj, hI⟩ := hC
  have c2 : ¬ nI l.length < 0 := nI_pos (by omega)
  have c3 : ¬ 80 ≤ l.length := by omega
  by_cases q : v
  · rw [if_pos q] at hk
    simp only [s57_0, s57_1, s57_4, s57_5, s57_6, s57_9, s57_10, s57_13, s57_14, s57_15, s57_16, s57_19, s57_20, s57_23, s57_24, s57_25, s57_26, s57_27, s57_30, s57_31, s57_32, s57_35, f_47_0, f_47_1, u_47_1, f_47_2, u_47_2, f_47_3, f_47_4, u_47_4, f_47_5, f_47_6, u_47_6, f_47_7, u_47_7, f_47_8, u_47_8, f_47_9, u_47_9, f_47_10, u_47_10, f_47_11, f_47_12, f_47_13, f_47_14, f_47_15, f_47_16, f_47_17, f_47_18, f_47_19, f_47_20, f_47_21, f_47_22, f_47_23, u_47_23, f_47_24, f_47_25, f_47_26, f_47_27, f_47_28, f_47_29, u_47_29, f_47_30, u_47_30, f_47_31, f_47_32, f_47_33, f_47_34, f_47_35, u_47_35, f_47_36, u_47_36, f_47_37, u_47_37, f_47_38, u_47_38, o_47, a_70, l_70, a_71, l_71, bI_0, q, hF.s, nI_clamp (show l.length < 2 ^ 31 by omega), c2, c3, nI_1, Option.toList_some, Option.toList_none, List.cons_append, List.nil_append, List.append_nil, ip_on_some, true_and, and_true, if_true, if_false, not_true_eq_false, not_false_eq_true, decide_true, true_or, or_true, or_self, Bool.false_eq_true]
    exact hk _ (CM.add hF hX hj hI (by omega) (by decide))
  · rw [if_neg q] at hk
    simp only [s57_0, s57_1, s57_4, s57_5, s57_6, s57_9, s57_10, s57_13, s57_14, s57_15, s57_16, s57_19, s57_20, s57_23, s57_24, s57_25, s57_26, s57_27, s57_30, s57_31, s57_32, s57_35, f_47_0, f_47_1, u_47_1, f_47_2, u_47_2, f_47_3, f_47_4, u_47_4, f_47_5, f_47_6, u_47_6, f_47_7, u_47_7, f_47_8, u_47_8, f_47_9, u_47_9, f_47_10, u_47_10, f_47_11, f_47_12, f_47_13, f_47_14, f_47_15, f_47_16, f_47_17, f_47_18, f_47_19, f_47_20, f_47_21, f_47_22, f_47_23, u_47_23, f_47_24, f_47_25, f_47_26, f_47_27, f_47_28, f_47_29, u_47_29, f_47_30, u_47_30, f_47_31, f_47_32, f_47_33, f_47_34, f_47_35, u_47_35, f_47_36, u_47_36, f_47_37, u_47_37, f_47_38, u_47_38, o_47, bI_0, q, Option.toList_some, Option.toList_none, List.cons_append, List.nil_append, List.append_nil, ip_on_some, true_and, and_true, if_true, if_false, not_true_eq_false, not_false_eq_true, decide_true, true_or, or_true, or_self, Bool.false_eq_true]
    exact hk _ ⟨X', I', rfl, hF, hX, hj, hI⟩
/-- counts: many and the class's -/
theorem MN.mny (hm : MN Xc Jc X I) {t : Nat} (ht : t < 4) : I 56 t = nI (cnt Xc t) := by rw [hm.many t ht]; exact (hm.bd.c t ht).2.2
theorem MN.c12 (hm : MN Xc Jc X I) : cnt Xc 0 ≤ 12 ∧ cnt Xc 1 ≤ 12 ∧ cnt Xc 2 ≤ 8 ∧ cnt Xc 3 ≤ 8 ∧ (Xc 5 13).toNatClampNeg ≤ 24 := by
  have h0 := (hm.bd.c 0 (by decide)).2.1
  have h1 := (hm.bd.c 1 (by decide)).2.1
  have h2 := (hm.bd.c 2 (by decide)).2.1
  have h3 := (hm.bd.c 3 (by decide)).2.1
  simp only [Nat.reduceLT, if_true, if_false] at h0 h1 h2 h3
  exact ⟨h0, h1, h2, h3, cn_le (n := 24) hm.bd.ap hm.bd.bp (by decide)⟩
theorem md_ports {ld qd pd : Nat} (h56 : I 56 3 = nI (cnt Xc 3)) (hc3 : cnt Xc 3 ≤ 8) (hv : MV Xc Ic X I ld qd pd) {k : Nat} (hk12 : k < 12) (hk : post (some (.int (nI (prtN Xc Ic (nI k))))) (g0, fld X y, I, J)) : ip_WP 58 0 [some (.ref 47), some (.int (nI k)), none, none] [] (g0, fld X y, I, J) b post px := by
  have loop : ∀ m i f, i + m = cnt Xc 3 → post (some (.int (nI (f + cntF (fun i => bitP (Ic 31 i) (nI k)) m i)))) (g0, fld X y, I, J) → ip_WP 58 4 [some (.ref 47), some (.int (nI k)), some (.int (nI f)), some (.int (nI i))] [] (g0, fld X y, I, J) b post px := by
    intro m
    induction m with
    | zero =>
      intro i f hi hp
      have c1 : nI (cnt Xc 3) ≤ nI i := nI_le (by omega) (by omega)
      rw [s58_4]
      simp only [s58_0, s58_1, s58_2, s58_3, s58_5, s58_6, s58_9, s58_10, s58_11, s58_14, s58_15, s58_16, s58_19, s58_21, s58_22, s58_23, s58_24, s58_25, s58_26, s58_29, s58_30, s58_33, s58_34, s58_35, s58_36, s58_39, s58_42, s58_43, f_47_0, f_47_1, u_47_1, f_47_2, u_47_2, f_47_3, f_47_4, u_47_4, f_47_5, f_47_6, u_47_6, f_47_7, u_47_7, f_47_8, u_47_8, f_47_9, u_47_9, f_47_10, u_47_10, f_47_11, f_47_12, f_47_13, f_47_14, f_47_15, f_47_16, f_47_17, f_47_18, f_47_19, f_47_20, f_47_21, f_47_22, f_47_23, u_47_23, f_47_24, f_47_25, f_47_26, f_47_27, f_47_28, f_47_29, u_47_29, f_47_30, u_47_30, f_47_31, f_47_32, f_47_33, f_47_34, f_47_35, u_47_35, f_47_36, u_47_36, f_47_37, u_47_37, f_47_38, u_47_38, o_47, a_56, l_56, Int32.reduceLT, Int32.reduceToNatClampNeg, Nat.reduceLeDiff, h56, c1, Option.toList_some, Option.toList_none, List.cons_append, List.nil_append, List.append_nil, ip_on_some, true_and, and_true, if_true, if_false, not_true_eq_false, not_false_eq_true, decide_true, true_or, or_true, or_self, Bool.false_eq_true]
      exact hp
    | succ m ih =>
      intro i f hi hp
      have c1 : ¬ nI (cnt Xc 3) ≤ nI i := nI_ge (by omega) (by omega)
      have c2 : ¬ nI (12 * i + k) < 0 := nI_pos (by omega)
      have c3 : ¬ 96 ≤ 12 * i + k := by omega
      have ncl := nI_clamp (show 12 * i + k < 2 ^ 31 by omega)
      have e67 := hv.prt i k (by omega) hk12
      rw [s58_4]
      rw [cntF] at hp
      by_cases q : bitP (Ic 31 i) (nI k) = true
      · have z67 : I 67 (12 * i + k) = 1 := by rw [e67]; exact bI_t q
        simp only [s58_0, s58_1, s58_2, s58_3, s58_5, s58_6, s58_9, s58_10, s58_11, s58_14, s58_15, s58_16, s58_19, s58_21, s58_22, s58_23, s58_24, s58_25, s58_26, s58_29, s58_30, s58_33, s58_34, s58_35, s58_36, s58_39, s58_42, s58_43, f_47_0, f_47_1, u_47_1, f_47_2, u_47_2, f_47_3, f_47_4, u_47_4, f_47_5, f_47_6, u_47_6, f_47_7, u_47_7, f_47_8, u_47_8, f_47_9, u_47_9, f_47_10, u_47_10, f_47_11, f_47_12, f_47_13, f_47_14, f_47_15, f_47_16, f_47_17, f_47_18, f_47_19, f_47_20, f_47_21, f_47_22, f_47_23, u_47_23, f_47_24, f_47_25, f_47_26, f_47_27, f_47_28, f_47_29, u_47_29, f_47_30, u_47_30, f_47_31, f_47_32, f_47_33, f_47_34, f_47_35, u_47_35, f_47_36, u_47_36, f_47_37, u_47_37, f_47_38, u_47_38, o_47, a_56, l_56, a_67, l_67, an_67, Int32.reduceLT, Int32.reduceToNatClampNeg, Nat.reduceLeDiff, h56, c1, mul12, nI_add, ncl, c2, c3, z67, nI_1, Bool.false_or, qe_m1_0, qe_m1_1, qe_m1_2, qe_m1_3, qe_m1_4, qe_m1_5, qe_m1_6, qe_m1_7, qe_m1_8, qe_0_m1, qe_0_1, qe_0_2, qe_0_3, qe_0_4, qe_0_5, qe_0_6, qe_0_7, qe_0_8, qe_1_m1, qe_1_0, qe_1_2, qe_1_3, qe_1_4, qe_1_5, qe_1_6, qe_1_7, qe_1_8, qe_2_m1, qe_2_0, qe_2_1, qe_2_3, qe_2_4, qe_2_5, qe_2_6, qe_2_7, qe_2_8, qe_3_m1, qe_3_0, qe_3_1, qe_3_2, qe_3_4, qe_3_5, qe_3_6, qe_3_7, qe_3_8, qe_4_m1, qe_4_0, qe_4_1, qe_4_2, qe_4_3, qe_4_5, qe_4_6, qe_4_7, qe_4_8, qe_5_m1, qe_5_0, qe_5_1, qe_5_2, qe_5_3, qe_5_4, qe_5_6, qe_5_7, qe_5_8, qe_6_m1, qe_6_0, qe_6_1, qe_6_2, qe_6_3, qe_6_4, qe_6_5, qe_6_7, qe_6_8, qe_7_m1, qe_7_0, qe_7_1, qe_7_2, qe_7_3, qe_7_4, qe_7_5, qe_7_6, qe_7_8, qe_8_m1, qe_8_0, qe_8_1, qe_8_2, qe_8_3, qe_8_4, qe_8_5, qe_8_6, qe_8_7, Option.toList_some, Option.toList_none, List.cons_append, List.nil_append, List.append_nil, ip_on_some, true_and, and_true, if_true, if_false, not_true_eq_false, not_false_eq_true, decide_true, true_or, or_true, or_self, Bool.false_eq_true]
        refine ih (i + 1) (f + 1) (by omega) ?_
        rw [if_pos q] at hp
        rw [Nat.add_assoc]
        exact hp
      · have z67 : I 67 (12 * i + k) = 0 := by rw [e67]; exact bI_f q
        simp only [s58_0, s58_1, s58_2, s58_3, s58_5, s58_6, s58_9, s58_10, s58_11, s58_14, s58_15, s58_16, s58_19, s58_21, s58_22, s58_23, s58_24, s58_25, s58_26, s58_29, s58_30, s58_33, s58_34, s58_35, s58_36, s58_39, s58_42, s58_43, f_47_0, f_47_1, u_47_1, f_47_2, u_47_2, f_47_3, f_47_4, u_47_4, f_47_5, f_47_6, u_47_6, f_47_7, u_47_7, f_47_8, u_47_8, f_47_9, u_47_9, f_47_10, u_47_10, f_47_11, f_47_12, f_47_13, f_47_14, f_47_15, f_47_16, f_47_17, f_47_18, f_47_19, f_47_20, f_47_21, f_47_22, f_47_23, u_47_23, f_47_24, f_47_25, f_47_26, f_47_27, f_47_28, f_47_29, u_47_29, f_47_30, u_47_30, f_47_31, f_47_32, f_47_33, f_47_34, f_47_35, u_47_35, f_47_36, u_47_36, f_47_37, u_47_37, f_47_38, u_47_38, o_47, a_56, l_56, a_67, l_67, an_67, Int32.reduceLT, Int32.reduceToNatClampNeg, Nat.reduceLeDiff, h56, c1, mul12, nI_add, ncl, c2, c3, z67, nI_1, Int32.add_zero, Bool.false_or, qe_m1_0, qe_m1_1, qe_m1_2, qe_m1_3, qe_m1_4, qe_m1_5, qe_m1_6, qe_m1_7, qe_m1_8, qe_0_m1, qe_0_1, qe_0_2, qe_0_3, qe_0_4, qe_0_5, qe_0_6, qe_0_7, qe_0_8, qe_1_m1, qe_1_0, qe_1_2, qe_1_3, qe_1_4, qe_1_5, qe_1_6, qe_1_7, qe_1_8, qe_2_m1, qe_2_0, qe_2_1, qe_2_3, qe_2_4, qe_2_5, qe_2_6, qe_2_7, qe_2_8, qe_3_m1, qe_3_0, qe_3_1, qe_3_2, qe_3_4, qe_3_5, qe_3_6, qe_3_7, qe_3_8, qe_4_m1, qe_4_0, qe_4_1, qe_4_2, qe_4_3, qe_4_5, qe_4_6, qe_4_7, qe_4_8, qe_5_m1, qe_5_0, qe_5_1, qe_5_2, qe_5_3, qe_5_4, qe_5_6, qe_5_7, qe_5_8, qe_6_m1, qe_6_0, qe_6_1, qe_6_2, qe_6_3, qe_6_4, qe_6_5, qe_6_7, qe_6_8, qe_7_m1, qe_7_0, qe_7_1, qe_7_2, qe_7_3, qe_7_4, qe_7_5, qe_7_6, qe_7_8, qe_8_m1, qe_8_0, qe_8_1, qe_8_2, qe_8_3, qe_8_4, qe_8_5, qe_8_6, qe_8_7, Option.toList_some, Option.toList_none, List.cons_append, List.nil_append, List.append_nil, ip_on_some, true_and, and_true, if_true, if_false, not_true_eq_false, not_false_eq_true, decide_true, true_or, or_true, or_self, Bool.false_eq_true]
        refine ih (i + 1) f (by omega) ?_
        rw [if_neg q, Nat.zero_add] at hp
        exact hp
  have := loop (cnt Xc 3) 0 0 (Nat.zero_add _) (by rw [Nat.zero_add]; exact hk)
  rw [nI_0] at this
  simp only [s58_0, s58_1, s58_2, s58_3]
  exact this
theorem md_isRes {u : Int32} {n : Nat} (h56 : I 56 0 = nI n) (hn : n ≤ 12) (hk : post (some (.int (bI (anyF (fun i => decide (I 60 i = u)) n 0 = true)))) (g0, fld X y, I, J)) : ip_WP 60 0 [some (.ref 47), some (.int u), none, none] [] (g0, fld X y, I, J) b post px := by
  have loop : ∀ m i (hb : Bool), i + m = n → post (some (.int (bI ((hb || anyF (fun i => decide (I 60 i = u)) m i) = true)))) (g0, fld X y, I, J) → ip_WP 60 4 [some (.ref 47), some (.int u), some (.int (bI (hb = true))), some (.int (nI i))] [] (g0, fld X y, I, J) b post px := by
    intro m
    induction m with
    | zero =>
      intro i hb hi hp
      have c1 : nI n ≤ nI i := nI_le (by omega) (by omega)
      rw [s60_4]
      simp only [s60_0, s60_1, s60_2, s60_3, s60_5, s60_6, s60_9, s60_10, s60_11, s60_14, s60_15, s60_18, s60_19, s60_22, s60_23, s60_24, s60_25, s60_28, s60_29, s60_32, s60_33, s60_34, s60_37, s60_40, s60_41, f_47_0, f_47_1, u_47_1, f_47_2, u_47_2, f_47_3, f_47_4, u_47_4, f_47_5, f_47_6, u_47_6, f_47_7, u_47_7, f_47_8, u_47_8, f_47_9, u_47_9, f_47_10, u_47_10, f_47_11, f_47_12, f_47_13, f_47_14, f_47_15, f_47_16, f_47_17, f_47_18, f_47_19, f_47_20, f_47_21, f_47_22, f_47_23, u_47_23, f_47_24, f_47_25, f_47_26, f_47_27, f_47_28, f_47_29, u_47_29, f_47_30, u_47_30, f_47_31, f_47_32, f_47_33, f_47_34, f_47_35, u_47_35, f_47_36, u_47_36, f_47_37, u_47_37, f_47_38, u_47_38, o_47, a_56, l_56, Int32.reduceLT, Int32.reduceToNatClampNeg, Nat.reduceLeDiff, h56, c1, bI_01, Option.toList_some, Option.toList_none, List.cons_append, List.nil_append, List.append_nil, ip_on_some, true_and, and_true, if_true, if_false, not_true_eq_false, not_false_eq_true, decide_true, true_or, or_true, or_self, Bool.false_eq_true]
      rw [anyF, Bool.or_false] at hp
      exact hp
    | succ m ih =>
      intro i hb hi hp
      have c1 : ¬ nI n ≤ nI i := nI_ge (by omega) (by omega)
      have c2 : ¬ nI i < 0 := nI_pos (by omega)
      have c3 : ¬ 12 ≤ i := by omega
      rw [s60_4]
      cases hb with
      | true =>
        simp only [s60_0, s60_1, s60_2, s60_3, s60_5, s60_6, s60_9, s60_10, s60_11, s60_14, s60_15, s60_18, s60_19, s60_22, s60_23, s60_24, s60_25, s60_28, s60_29, s60_32, s60_33, s60_34, s60_37, s60_40, s60_41, f_47_0, f_47_1, u_47_1, f_47_2, u_47_2, f_47_3, f_47_4, u_47_4, f_47_5, f_47_6, u_47_6, f_47_7, u_47_7, f_47_8, u_47_8, f_47_9, u_47_9, f_47_10, u_47_10, f_47_11, f_47_12, f_47_13, f_47_14, f_47_15, f_47_16, f_47_17, f_47_18, f_47_19, f_47_20, f_47_21, f_47_22, f_47_23, u_47_23, f_47_24, f_47_25, f_47_26, f_47_27, f_47_28, f_47_29, u_47_29, f_47_30, u_47_30, f_47_31, f_47_32, f_47_33, f_47_34, f_47_35, u_47_35, f_47_36, u_47_36, f_47_37, u_47_37, f_47_38, u_47_38, o_47, a_56, l_56, Int32.reduceLT, Int32.reduceToNatClampNeg, Nat.reduceLeDiff, h56, c1, bI_tt, nI_1, qe_m1_0, qe_m1_1, qe_m1_2, qe_m1_3, qe_m1_4, qe_m1_5, qe_m1_6, qe_m1_7, qe_m1_8, qe_0_m1, qe_0_1, qe_0_2, qe_0_3, qe_0_4, qe_0_5, qe_0_6, qe_0_7, qe_0_8, qe_1_m1, qe_1_0, qe_1_2, qe_1_3, qe_1_4, qe_1_5, qe_1_6, qe_1_7, qe_1_8, qe_2_m1, qe_2_0, qe_2_1, qe_2_3, qe_2_4, qe_2_5, qe_2_6, qe_2_7, qe_2_8, qe_3_m1, qe_3_0, qe_3_1, qe_3_2, qe_3_4, qe_3_5, qe_3_6, qe_3_7, qe_3_8, qe_4_m1, qe_4_0, qe_4_1, qe_4_2, qe_4_3, qe_4_5, qe_4_6, qe_4_7, qe_4_8, qe_5_m1, qe_5_0, qe_5_1, qe_5_2, qe_5_3, qe_5_4, qe_5_6, qe_5_7, qe_5_8, qe_6_m1, qe_6_0, qe_6_1, qe_6_2, qe_6_3, qe_6_4, qe_6_5, qe_6_7, qe_6_8, qe_7_m1, qe_7_0, qe_7_1, qe_7_2, qe_7_3, qe_7_4, qe_7_5, qe_7_6, qe_7_8, qe_8_m1, qe_8_0, qe_8_1, qe_8_2, qe_8_3, qe_8_4, qe_8_5, qe_8_6, qe_8_7, Option.toList_some, Option.toList_none, List.cons_append, List.nil_append, List.append_nil, ip_on_some, true_and, and_true, if_true, if_false, not_true_eq_false, not_false_eq_true, decide_true, true_or, or_true, or_self, Bool.false_eq_true]
        exact ih (i + 1) true (by omega) (by simpa using hp)
      | false =>
        by_cases q1 : I 60 i = u
        · simp only [s60_0, s60_1, s60_2, s60_3, s60_5, s60_6, s60_9, s60_10, s60_11, s60_14, s60_15, s60_18, s60_19, s60_22, s60_23, s60_24, s60_25, s60_28, s60_29, s60_32, s60_33, s60_34, s60_37, s60_40, s60_41, f_47_0, f_47_1, u_47_1, f_47_2, u_47_2, f_47_3, f_47_4, u_47_4, f_47_5, f_47_6, u_47_6, f_47_7, u_47_7, f_47_8, u_47_8, f_47_9, u_47_9, f_47_10, u_47_10, f_47_11, f_47_12, f_47_13, f_47_14, f_47_15, f_47_16, f_47_17, f_47_18, f_47_19, f_47_20, f_47_21, f_47_22, f_47_23, u_47_23, f_47_24, f_47_25, f_47_26, f_47_27, f_47_28, f_47_29, u_47_29, f_47_30, u_47_30, f_47_31, f_47_32, f_47_33, f_47_34, f_47_35, u_47_35, f_47_36, u_47_36, f_47_37, u_47_37, f_47_38, u_47_38, o_47, a_56, l_56, a_60, l_60, Int32.reduceLT, Int32.reduceToNatClampNeg, Nat.reduceLeDiff, h56, c1, c2, c3, bI_ff, nI_1, nI_clamp (show i < 2 ^ 31 by omega), q1, Option.toList_some, Option.toList_none, List.cons_append, List.nil_append, List.append_nil, ip_on_some, true_and, and_true, if_true, if_false, not_true_eq_false, not_false_eq_true, decide_true, true_or, or_true, or_self, Bool.false_eq_true]
          refine ih (i + 1) true (by omega) ?_
          simp only [anyF, q1, decide_true, Bool.true_or, Bool.or_true, Bool.false_or] at hp ⊢
          exact hp
        · simp only [s60_0, s60_1, s60_2, s60_3, s60_5, s60_6, s60_9, s60_10, s60_11, s60_14, s60_15, s60_18, s60_19, s60_22, s60_23, s60_24, s60_25, s60_28, s60_29, s60_32, s60_33, s60_34, s60_37, s60_40, s60_41, f_47_0, f_47_1, u_47_1, f_47_2, u_47_2, f_47_3, f_47_4, u_47_4, f_47_5, f_47_6, u_47_6, f_47_7, u_47_7, f_47_8, u_47_8, f_47_9, u_47_9, f_47_10, u_47_10, f_47_11, f_47_12, f_47_13, f_47_14, f_47_15, f_47_16, f_47_17, f_47_18, f_47_19, f_47_20, f_47_21, f_47_22, f_47_23, u_47_23, f_47_24, f_47_25, f_47_26, f_47_27, f_47_28, f_47_29, u_47_29, f_47_30, u_47_30, f_47_31, f_47_32, f_47_33, f_47_34, f_47_35, u_47_35, f_47_36, u_47_36, f_47_37, u_47_37, f_47_38, u_47_38, o_47, a_56, l_56, a_60, l_60, Int32.reduceLT, Int32.reduceToNatClampNeg, Nat.reduceLeDiff, h56, c1, c2, c3, bI_ff, nI_1, nI_clamp (show i < 2 ^ 31 by omega), q1, Option.toList_some, Option.toList_none, List.cons_append, List.nil_append, List.append_nil, ip_on_some, true_and, and_true, if_true, if_false, not_true_eq_false, not_false_eq_true, decide_true, true_or, or_true, or_self, Bool.false_eq_true]
          refine ih (i + 1) false (by omega) ?_
          simp only [anyF, q1, decide_false, Bool.false_or] at hp ⊢
          exact hp
  have := loop n 0 false (Nat.zero_add n) (by simpa using hk)
  rw [nI_0] at this
  simp only [s60_0, s60_1, s60_2, s60_3]
  exact this
theorem md_isIdle {u : Int32} {n : Nat} (h56 : I 56 2 = nI n) (hn : n ≤ 8) (hk : post (some (.int (bI ((!anyF (fun i => decide (I 62 i = u)) 7 0 && !anyF (fun i => decide (I 66 i = u)) n 0) = true)))) (g0, fld X y, I, J)) : ip_WP 61 0 [some (.ref 47), some (.int u), none, none] [] (g0, fld X y, I, J) b post px := by
  have loop2 : ∀ m i (hb : Bool), i + m = n → post (some (.int (bI ((hb && !anyF (fun i => decide (I 66 i = u)) m i) = true)))) (g0, fld X y, I, J) → ip_WP 61 38 [some (.ref 47), some (.int u), some (.int (bI (hb = true))), some (.int (nI i))] [] (g0, fld X y, I, J) b post px := by
    intro m
    induction m with
    | zero =>
      intro i hb hi hp
      have c1 : nI n ≤ nI i := nI_le (by omega) (by omega)
      rw [s61_38]
      simp only [s61_0, s61_1, s61_2, s61_3, s61_5, s61_7, s61_10, s61_11, s61_14, s61_15, s61_18, s61_19, s61_20, s61_21, s61_24, s61_25, s61_28, s61_29, s61_30, s61_33, s61_36, s61_37, s61_39, s61_40, s61_43, s61_44, s61_45, s61_48, s61_49, s61_52, s61_53, s61_56, s61_57, s61_58, s61_59, s61_62, s61_63, s61_66, s61_67, s61_68, s61_71, s61_74, s61_75, f_47_0, f_47_1, u_47_1, f_47_2, u_47_2, f_47_3, f_47_4, u_47_4, f_47_5, f_47_6, u_47_6, f_47_7, u_47_7, f_47_8, u_47_8, f_47_9, u_47_9, f_47_10, u_47_10, f_47_11, f_47_12, f_47_13, f_47_14, f_47_15, f_47_16, f_47_17, f_47_18, f_47_19, f_47_20, f_47_21, f_47_22, f_47_23, u_47_23, f_47_24, f_47_25, f_47_26, f_47_27, f_47_28, f_47_29, u_47_29, f_47_30, u_47_30, f_47_31, f_47_32, f_47_33, f_47_34, f_47_35, u_47_35, f_47_36, u_47_36, f_47_37, u_47_37, f_47_38, u_47_38, o_47, a_56, l_56, Int32.reduceLT, Int32.reduceToNatClampNeg, Nat.reduceLeDiff, h56, c1, bI_01, Option.toList_some, Option.toList_none, List.cons_append, List.nil_append, List.append_nil, ip_on_some, true_and, and_true, if_true, if_false, not_true_eq_false, not_false_eq_true, decide_true, true_or, or_true, or_self, Bool.false_eq_true]
      rw [anyF, Bool.not_false, Bool.and_true] at hp
      exact hp
    | succ m ih =>
      intro i hb hi hp
      have c1 : ¬ nI n ≤ nI i := nI_ge (by omega) (by omega)
      have c2 : ¬ nI i < 0 := nI_pos (by omega)
      have c3 : ¬ 8 ≤ i := by omega
      rw [s61_38]
      cases hb with
      | false =>
        simp only [s61_0, s61_1, s61_2, s61_3, s61_5, s61_7, s61_10, s61_11, s61_14, s61_15, s61_18, s61_19, s61_20, s61_21, s61_24, s61_25, s61_28, s61_29, s61_30, s61_33, s61_36, s61_37, s61_39, s61_40, s61_43, s61_44, s61_45, s61_48, s61_49, s61_52, s61_53, s61_56, s61_57, s61_58, s61_59, s61_62, s61_63, s61_66, s61_67, s61_68, s61_71, s61_74, s61_75, f_47_0, f_47_1, u_47_1, f_47_2, u_47_2, f_47_3, f_47_4, u_47_4, f_47_5, f_47_6, u_47_6, f_47_7, u_47_7, f_47_8, u_47_8, f_47_9, u_47_9, f_47_10, u_47_10, f_47_11, f_47_12, f_47_13, f_47_14, f_47_15, f_47_16, f_47_17, f_47_18, f_47_19, f_47_20, f_47_21, f_47_22, f_47_23, u_47_23, f_47_24, f_47_25, f_47_26, f_47_27, f_47_28, f_47_29, u_47_29, f_47_30, u_47_30, f_47_31, f_47_32, f_47_33, f_47_34, f_47_35, u_47_35, f_47_36, u_47_36, f_47_37, u_47_37, f_47_38, u_47_38, o_47, a_56, l_56, Int32.reduceLT, Int32.reduceToNatClampNeg, Nat.reduceLeDiff, h56, c1, bI_ff, nI_1, qe_m1_0, qe_m1_1, qe_m1_2, qe_m1_3, qe_m1_4, qe_m1_5, qe_m1_6, qe_m1_7, qe_m1_8, qe_0_m1, qe_0_1, qe_0_2, qe_0_3, qe_0_4, qe_0_5, qe_0_6, qe_0_7, qe_0_8, qe_1_m1, qe_1_0, qe_1_2, qe_1_3, qe_1_4, qe_1_5, qe_1_6, qe_1_7, qe_1_8, qe_2_m1, qe_2_0, qe_2_1, qe_2_3, qe_2_4, qe_2_5, qe_2_6, qe_2_7, qe_2_8, qe_3_m1, qe_3_0, qe_3_1, qe_3_2, qe_3_4, qe_3_5, qe_3_6, qe_3_7, qe_3_8, qe_4_m1, qe_4_0, qe_4_1, qe_4_2, qe_4_3, qe_4_5, qe_4_6, qe_4_7, qe_4_8, qe_5_m1, qe_5_0, qe_5_1, qe_5_2, qe_5_3, qe_5_4, qe_5_6, qe_5_7, qe_5_8, qe_6_m1, qe_6_0, qe_6_1, qe_6_2, qe_6_3, qe_6_4, qe_6_5, qe_6_7, qe_6_8, qe_7_m1, qe_7_0, qe_7_1, qe_7_2, qe_7_3, qe_7_4, qe_7_5, qe_7_6, qe_7_8, qe_8_m1, qe_8_0, qe_8_1, qe_8_2, qe_8_3, qe_8_4, qe_8_5, qe_8_6, qe_8_7, Option.toList_some, Option.toList_none, List.cons_append, List.nil_append, List.append_nil, ip_on_some, true_and, and_true, if_true, if_false, not_true_eq_false, not_false_eq_true, decide_true, true_or, or_true, or_self, Bool.false_eq_true]
        exact ih (i + 1) false (by omega) (by simpa using hp)
      | true =>
        by_cases q1 : I 66 i = u
        · simp only [s61_0, s61_1, s61_2, s61_3, s61_5, s61_7, s61_10, s61_11, s61_14, s61_15, s61_18, s61_19, s61_20, s61_21, s61_24, s61_25, s61_28, s61_29, s61_30, s61_33, s61_36, s61_37, s61_39, s61_40, s61_43, s61_44, s61_45, s61_48, s61_49, s61_52, s61_53, s61_56, s61_57, s61_58, s61_59, s61_62, s61_63, s61_66, s61_67, s61_68, s61_71, s61_74, s61_75, f_47_0, f_47_1, u_47_1, f_47_2, u_47_2, f_47_3, f_47_4, u_47_4, f_47_5, f_47_6, u_47_6, f_47_7, u_47_7, f_47_8, u_47_8, f_47_9, u_47_9, f_47_10, u_47_10, f_47_11, f_47_12, f_47_13, f_47_14, f_47_15, f_47_16, f_47_17, f_47_18, f_47_19, f_47_20, f_47_21, f_47_22, f_47_23, u_47_23, f_47_24, f_47_25, f_47_26, f_47_27, f_47_28, f_47_29, u_47_29, f_47_30, u_47_30, f_47_31, f_47_32, f_47_33, f_47_34, f_47_35, u_47_35, f_47_36, u_47_36, f_47_37, u_47_37, f_47_38, u_47_38, o_47, a_56, l_56, a_66, l_66, Int32.reduceLT, Int32.reduceToNatClampNeg, Nat.reduceLeDiff, h56, c1, c2, c3, bI_tt, nI_1, nI_clamp (show i < 2 ^ 31 by omega), q1, qe_m1_0, qe_m1_1, qe_m1_2, qe_m1_3, qe_m1_4, qe_m1_5, qe_m1_6, qe_m1_7, qe_m1_8, qe_0_m1, qe_0_1, qe_0_2, qe_0_3, qe_0_4, qe_0_5, qe_0_6, qe_0_7, qe_0_8, qe_1_m1, qe_1_0, qe_1_2, qe_1_3, qe_1_4, qe_1_5, qe_1_6, qe_1_7, qe_1_8, qe_2_m1, qe_2_0, qe_2_1, qe_2_3, qe_2_4, qe_2_5, qe_2_6, qe_2_7, qe_2_8, qe_3_m1, qe_3_0, qe_3_1, qe_3_2, qe_3_4, qe_3_5, qe_3_6, qe_3_7, qe_3_8, qe_4_m1, qe_4_0, qe_4_1, qe_4_2, qe_4_3, qe_4_5, qe_4_6, qe_4_7, qe_4_8, qe_5_m1, qe_5_0, qe_5_1, qe_5_2, qe_5_3, qe_5_4, qe_5_6, qe_5_7, qe_5_8, qe_6_m1, qe_6_0, qe_6_1, qe_6_2, qe_6_3, qe_6_4, qe_6_5, qe_6_7, qe_6_8, qe_7_m1, qe_7_0, qe_7_1, qe_7_2, qe_7_3, qe_7_4, qe_7_5, qe_7_6, qe_7_8, qe_8_m1, qe_8_0, qe_8_1, qe_8_2, qe_8_3, qe_8_4, qe_8_5, qe_8_6, qe_8_7, Option.toList_some, Option.toList_none, List.cons_append, List.nil_append, List.append_nil, ip_on_some, true_and, and_true, if_true, if_false, not_true_eq_false, not_false_eq_true, decide_true, true_or, or_true, or_self, Bool.false_eq_true]
          refine ih (i + 1) false (by omega) ?_
          simp only [anyF, q1, decide_true, Bool.true_or, Bool.not_true, Bool.and_false, Bool.false_and] at hp ⊢
          exact hp
        · simp only [s61_0, s61_1, s61_2, s61_3, s61_5, s61_7, s61_10, s61_11, s61_14, s61_15, s61_18, s61_19, s61_20, s61_21, s61_24, s61_25, s61_28, s61_29, s61_30, s61_33, s61_36, s61_37, s61_39, s61_40, s61_43, s61_44, s61_45, s61_48, s61_49, s61_52, s61_53, s61_56, s61_57, s61_58, s61_59, s61_62, s61_63, s61_66, s61_67, s61_68, s61_71, s61_74, s61_75, f_47_0, f_47_1, u_47_1, f_47_2, u_47_2, f_47_3, f_47_4, u_47_4, f_47_5, f_47_6, u_47_6, f_47_7, u_47_7, f_47_8, u_47_8, f_47_9, u_47_9, f_47_10, u_47_10, f_47_11, f_47_12, f_47_13, f_47_14, f_47_15, f_47_16, f_47_17, f_47_18, f_47_19, f_47_20, f_47_21, f_47_22, f_47_23, u_47_23, f_47_24, f_47_25, f_47_26, f_47_27, f_47_28, f_47_29, u_47_29, f_47_30, u_47_30, f_47_31, f_47_32, f_47_33, f_47_34, f_47_35, u_47_35, f_47_36, u_47_36, f_47_37, u_47_37, f_47_38, u_47_38, o_47, a_56, l_56, a_66, l_66, Int32.reduceLT, Int32.reduceToNatClampNeg, Nat.reduceLeDiff, h56, c1, c2, c3, bI_tt, nI_1, nI_clamp (show i < 2 ^ 31 by omega), q1, qe_m1_0, qe_m1_1, qe_m1_2, qe_m1_3, qe_m1_4, qe_m1_5, qe_m1_6, qe_m1_7, qe_m1_8, qe_0_m1, qe_0_1, qe_0_2, qe_0_3, qe_0_4, qe_0_5, qe_0_6, qe_0_7, qe_0_8, qe_1_m1, qe_1_0, qe_1_2, qe_1_3, qe_1_4, qe_1_5, qe_1_6, qe_1_7, qe_1_8, qe_2_m1, qe_2_0, qe_2_1, qe_2_3, qe_2_4, qe_2_5, qe_2_6, qe_2_7, qe_2_8, qe_3_m1, qe_3_0, qe_3_1, qe_3_2, qe_3_4, qe_3_5, qe_3_6, qe_3_7, qe_3_8, qe_4_m1, qe_4_0, qe_4_1, qe_4_2, qe_4_3, qe_4_5, qe_4_6, qe_4_7, qe_4_8, qe_5_m1, qe_5_0, qe_5_1, qe_5_2, qe_5_3, qe_5_4, qe_5_6, qe_5_7, qe_5_8, qe_6_m1, qe_6_0, qe_6_1, qe_6_2, qe_6_3, qe_6_4, qe_6_5, qe_6_7, qe_6_8, qe_7_m1, qe_7_0, qe_7_1, qe_7_2, qe_7_3, qe_7_4, qe_7_5, qe_7_6, qe_7_8, qe_8_m1, qe_8_0, qe_8_1, qe_8_2, qe_8_3, qe_8_4, qe_8_5, qe_8_6, qe_8_7, Option.toList_some, Option.toList_none, List.cons_append, List.nil_append, List.append_nil, ip_on_some, true_and, and_true, if_true, if_false, not_true_eq_false, not_false_eq_true, decide_true, true_or, or_true, or_self, Bool.false_eq_true]
          refine ih (i + 1) true (by omega) ?_
          simp only [anyF, q1, decide_false, Bool.false_or] at hp ⊢
          exact hp
  have loop1 : ∀ m i (hb : Bool), i + m = 7 → post (some (.int (bI ((hb && !anyF (fun i => decide (I 62 i = u)) m i && !anyF (fun i => decide (I 66 i = u)) n 0) = true)))) (g0, fld X y, I, J) → ip_WP 61 4 [some (.ref 47), some (.int u), some (.int (bI (hb = true))), some (.int (nI i))] [] (g0, fld X y, I, J) b post px := by
    intro m
    induction m with
    | zero =>
      intro i hb hi hp
      have c1 : (7 : Int32) ≤ nI i := nI_le (a := 7) (by omega) (by omega)
      rw [s61_4]
      simp only [s61_0, s61_1, s61_2, s61_3, s61_5, s61_7, s61_10, s61_11, s61_14, s61_15, s61_18, s61_19, s61_20, s61_21, s61_24, s61_25, s61_28, s61_29, s61_30, s61_33, s61_36, s61_37, s61_39, s61_40, s61_43, s61_44, s61_45, s61_48, s61_49, s61_52, s61_53, s61_56, s61_57, s61_58, s61_59, s61_62, s61_63, s61_66, s61_67, s61_68, s61_71, s61_74, s61_75, f_47_0, f_47_1, u_47_1, f_47_2, u_47_2, f_47_3, f_47_4, u_47_4, f_47_5, f_47_6, u_47_6, f_47_7, u_47_7, f_47_8, u_47_8, f_47_9, u_47_9, f_47_10, u_47_10, f_47_11, f_47_12, f_47_13, f_47_14, f_47_15, f_47_16, f_47_17, f_47_18, f_47_19, f_47_20, f_47_21, f_47_22, f_47_23, u_47_23, f_47_24, f_47_25, f_47_26, f_47_27, f_47_28, f_47_29, u_47_29, f_47_30, u_47_30, f_47_31, f_47_32, f_47_33, f_47_34, f_47_35, u_47_35, f_47_36, u_47_36, f_47_37, u_47_37, f_47_38, u_47_38, o_47, c1, Option.toList_some, Option.toList_none, List.cons_append, List.nil_append, List.append_nil, ip_on_some, true_and, and_true, if_true, if_false, not_true_eq_false, not_false_eq_true, decide_true, true_or, or_true, or_self, Bool.false_eq_true]
      rw [anyF, Bool.not_false, Bool.and_true] at hp
      have := loop2 n 0 hb (Nat.zero_add n) hp
      rw [nI_0] at this
      exact this
    | succ m ih =>
      intro i hb hi hp
      have c1 : ¬ (7 : Int32) ≤ nI i := nI_ge (b := 7) (by omega) (by decide)
      have c2 : ¬ nI i < 0 := nI_pos (by omega)
      have c3 : ¬ 7 ≤ i := by omega
      rw [s61_4]
      cases hb with
      | false =>
        simp only [s61_0, s61_1, s61_2, s61_3, s61_5, s61_7, s61_10, s61_11, s61_14, s61_15, s61_18, s61_19, s61_20, s61_21, s61_24, s61_25, s61_28, s61_29, s61_30, s61_33, s61_36, s61_37, s61_39, s61_40, s61_43, s61_44, s61_45, s61_48, s61_49, s61_52, s61_53, s61_56, s61_57, s61_58, s61_59, s61_62, s61_63, s61_66, s61_67, s61_68, s61_71, s61_74, s61_75, f_47_0, f_47_1, u_47_1, f_47_2, u_47_2, f_47_3, f_47_4, u_47_4, f_47_5, f_47_6, u_47_6, f_47_7, u_47_7, f_47_8, u_47_8, f_47_9, u_47_9, f_47_10, u_47_10, f_47_11, f_47_12, f_47_13, f_47_14, f_47_15, f_47_16, f_47_17, f_47_18, f_47_19, f_47_20, f_47_21, f_47_22, f_47_23, u_47_23, f_47_24, f_47_25, f_47_26, f_47_27, f_47_28, f_47_29, u_47_29, f_47_30, u_47_30, f_47_31, f_47_32, f_47_33, f_47_34, f_47_35, u_47_35, f_47_36, u_47_36, f_47_37, u_47_37, f_47_38, u_47_38, o_47, c1, bI_ff, nI_1, qe_m1_0, qe_m1_1, qe_m1_2, qe_m1_3, qe_m1_4, qe_m1_5, qe_m1_6, qe_m1_7, qe_m1_8, qe_0_m1, qe_0_1, qe_0_2, qe_0_3, qe_0_4, qe_0_5, qe_0_6, qe_0_7, qe_0_8, qe_1_m1, qe_1_0, qe_1_2, qe_1_3, qe_1_4, qe_1_5, qe_1_6, qe_1_7, qe_1_8, qe_2_m1, qe_2_0, qe_2_1, qe_2_3, qe_2_4, qe_2_5, qe_2_6, qe_2_7, qe_2_8, qe_3_m1, qe_3_0, qe_3_1, qe_3_2, qe_3_4, qe_3_5, qe_3_6, qe_3_7, qe_3_8, qe_4_m1, qe_4_0, qe_4_1, qe_4_2, qe_4_3, qe_4_5, qe_4_6, qe_4_7, qe_4_8, qe_5_m1, qe_5_0, qe_5_1, qe_5_2, qe_5_3, qe_5_4, qe_5_6, qe_5_7, qe_5_8, qe_6_m1, qe_6_0, qe_6_1, qe_6_2, qe_6_3, qe_6_4, qe_6_5, qe_6_7, qe_6_8, qe_7_m1, qe_7_0, qe_7_1, qe_7_2, qe_7_3, qe_7_4, qe_7_5, qe_7_6, qe_7_8, qe_8_m1, qe_8_0, qe_8_1, qe_8_2, qe_8_3, qe_8_4, qe_8_5, qe_8_6, qe_8_7, Option.toList_some, Option.toList_none, List.cons_append, List.nil_append, List.append_nil, ip_on_some, true_and, and_true, if_true, if_false, not_true_eq_false, not_false_eq_true, decide_true, true_or, or_true, or_self, Bool.false_eq_true]
        exact ih (i + 1) false (by omega) (by simpa using hp)
      | true =>
        by_cases q1 : I 62 i = u
        · simp only [s61_0, s61_1, s61_2, s61_3, s61_5, s61_7, s61_10, s61_11, s61_14, s61_15, s61_18, s61_19, s61_20, s61_21, s61_24, s61_25, s61_28, s61_29, s61_30, s61_33, s61_36, s61_37, s61_39, s61_40, s61_43, s61_44, s61_45, s61_48, s61_49, s61_52, s61_53, s61_56, s61_57, s61_58, s61_59, s61_62, s61_63, s61_66, s61_67, s61_68, s61_71, s61_74, s61_75, f_47_0, f_47_1, u_47_1, f_47_2, u_47_2, f_47_3, f_47_4, u_47_4, f_47_5, f_47_6, u_47_6, f_47_7, u_47_7, f_47_8, u_47_8, f_47_9, u_47_9, f_47_10, u_47_10, f_47_11, f_47_12, f_47_13, f_47_14, f_47_15, f_47_16, f_47_17, f_47_18, f_47_19, f_47_20, f_47_21, f_47_22, f_47_23, u_47_23, f_47_24, f_47_25, f_47_26, f_47_27, f_47_28, f_47_29, u_47_29, f_47_30, u_47_30, f_47_31, f_47_32, f_47_33, f_47_34, f_47_35, u_47_35, f_47_36, u_47_36, f_47_37, u_47_37, f_47_38, u_47_38, o_47, a_62, l_62, c1, c2, c3, bI_tt, nI_1, nI_clamp (show i < 2 ^ 31 by omega), q1, qe_m1_0, qe_m1_1, qe_m1_2, qe_m1_3, qe_m1_4, qe_m1_5, qe_m1_6, qe_m1_7, qe_m1_8, qe_0_m1, qe_0_1, qe_0_2, qe_0_3, qe_0_4, qe_0_5, qe_0_6, qe_0_7, qe_0_8, qe_1_m1, qe_1_0, qe_1_2, qe_1_3, qe_1_4, qe_1_5, qe_1_6, qe_1_7, qe_1_8, qe_2_m1, qe_2_0, qe_2_1, qe_2_3, qe_2_4, qe_2_5, qe_2_6, qe_2_7, qe_2_8, qe_3_m1, qe_3_0, qe_3_1, qe_3_2, qe_3_4, qe_3_5, qe_3_6, qe_3_7, qe_3_8, qe_4_m1, qe_4_0, qe_4_1, qe_4_2, qe_4_3, qe_4_5, qe_4_6, qe_4_7, qe_4_8, qe_5_m1, qe_5_0, qe_5_1, qe_5_2, qe_5_3, qe_5_4, qe_5_6, qe_5_7, qe_5_8, qe_6_m1, qe_6_0, qe_6_1, qe_6_2, qe_6_3, qe_6_4, qe_6_5, qe_6_7, qe_6_8, qe_7_m1, qe_7_0, qe_7_1, qe_7_2, qe_7_3, qe_7_4, qe_7_5, qe_7_6, qe_7_8, qe_8_m1, qe_8_0, qe_8_1, qe_8_2, qe_8_3, qe_8_4, qe_8_5, qe_8_6, qe_8_7, Option.toList_some, Option.toList_none, List.cons_append, List.nil_append, List.append_nil, ip_on_some, true_and, and_true, if_true, if_false, not_true_eq_false, not_false_eq_true, decide_true, true_or, or_true, or_self, Bool.false_eq_true]
          refine ih (i + 1) false (by omega) ?_
          simp only [anyF, q1, decide_true, Bool.true_or, Bool.not_true, Bool.and_false, Bool.false_and] at hp ⊢
          exact hp
        · simp only [s61_0, s61_1, s61_2, s61_3, s61_5, s61_7, s61_10, s61_11, s61_14, s61_15, s61_18, s61_19, s61_20, s61_21, s61_24, s61_25, s61_28, s61_29, s61_30, s61_33, s61_36, s61_37, s61_39, s61_40, s61_43, s61_44, s61_45, s61_48, s61_49, s61_52, s61_53, s61_56, s61_57, s61_58, s61_59, s61_62, s61_63, s61_66, s61_67, s61_68, s61_71, s61_74, s61_75, f_47_0, f_47_1, u_47_1, f_47_2, u_47_2, f_47_3, f_47_4, u_47_4, f_47_5, f_47_6, u_47_6, f_47_7, u_47_7, f_47_8, u_47_8, f_47_9, u_47_9, f_47_10, u_47_10, f_47_11, f_47_12, f_47_13, f_47_14, f_47_15, f_47_16, f_47_17, f_47_18, f_47_19, f_47_20, f_47_21, f_47_22, f_47_23, u_47_23, f_47_24, f_47_25, f_47_26, f_47_27, f_47_28, f_47_29, u_47_29, f_47_30, u_47_30, f_47_31, f_47_32, f_47_33, f_47_34, f_47_35, u_47_35, f_47_36, u_47_36, f_47_37, u_47_37, f_47_38, u_47_38, o_47, a_62, l_62, c1, c2, c3, bI_tt, nI_1, nI_clamp (show i < 2 ^ 31 by omega), q1, qe_m1_0, qe_m1_1, qe_m1_2, qe_m1_3, qe_m1_4, qe_m1_5, qe_m1_6, qe_m1_7, qe_m1_8, qe_0_m1, qe_0_1, qe_0_2, qe_0_3, qe_0_4, qe_0_5, qe_0_6, qe_0_7, qe_0_8, qe_1_m1, qe_1_0, qe_1_2, qe_1_3, qe_1_4, qe_1_5, qe_1_6, qe_1_7, qe_1_8, qe_2_m1, qe_2_0, qe_2_1, qe_2_3, qe_2_4, qe_2_5, qe_2_6, qe_2_7, qe_2_8, qe_3_m1, qe_3_0, qe_3_1, qe_3_2, qe_3_4, qe_3_5, qe_3_6, qe_3_7, qe_3_8, qe_4_m1, qe_4_0, qe_4_1, qe_4_2, qe_4_3, qe_4_5, qe_4_6, qe_4_7, qe_4_8, qe_5_m1, qe_5_0, qe_5_1, qe_5_2, qe_5_3, qe_5_4, qe_5_6, qe_5_7, qe_5_8, qe_6_m1, qe_6_0, qe_6_1, qe_6_2, qe_6_3, qe_6_4, qe_6_5, qe_6_7, qe_6_8, qe_7_m1, qe_7_0, qe_7_1, qe_7_2, qe_7_3, qe_7_4, qe_7_5, qe_7_6, qe_7_8, qe_8_m1, qe_8_0, qe_8_1, qe_8_2, qe_8_3, qe_8_4, qe_8_5, qe_8_6, qe_8_7, Option.toList_some, Option.toList_none, List.cons_append, List.nil_append, List.append_nil, ip_on_some, true_and, and_true, if_true, if_false, not_true_eq_false, not_false_eq_true, decide_true, true_or, or_true, or_self, Bool.false_eq_true]
          refine ih (i + 1) true (by omega) ?_
          simp only [anyF, q1, decide_false, Bool.false_or] at hp ⊢
          exact hp
  have := loop1 7 0 true rfl (by simpa using hk)
  rw [nI_0] at this
  simp only [s61_0, s61_1, s61_2, s61_3]
  exact this
end
