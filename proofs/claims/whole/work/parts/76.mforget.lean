/-! the model forgets -/
abbrev Clr (Xc : Nat → Nat → Int32) (Ic : Nat → Nat → Int32) : Prop := (Bd Xc) ∧ (∀ u, u < 4 → Xc (6 + 2 * u) 1 = 0) ∧ (Xc 5 13 = 0) ∧ (Xc 5 14 = 0) ∧ (∀ k, k < 12 → Ic 15 k = -1 ∧ Ic 17 k = -1 ∧ Ic 19 k = 0) ∧ (∀ k, k < 7 → Ic 21 k = -1) ∧ (∀ k, k < 8 → Ic 29 k = -1 ∧ Ic 31 k = 0)
theorem Clr.bd {Xc : Nat → Nat → Int32} {Ic : Nat → Nat → Int32} (h : Clr Xc Ic) : Bd Xc := h.1
theorem Clr.c {Xc : Nat → Nat → Int32} {Ic : Nat → Nat → Int32} (h : Clr Xc Ic) : ∀ u, u < 4 → Xc (6 + 2 * u) 1 = 0 := h.2.1
theorem Clr.p {Xc : Nat → Nat → Int32} {Ic : Nat → Nat → Int32} (h : Clr Xc Ic) : Xc 5 13 = 0 := h.2.2.1
theorem Clr.n {Xc : Nat → Nat → Int32} {Ic : Nat → Nat → Int32} (h : Clr Xc Ic) : Xc 5 14 = 0 := h.2.2.2.1
theorem Clr.r {Xc : Nat → Nat → Int32} {Ic : Nat → Nat → Int32} (h : Clr Xc Ic) : ∀ k, k < 12 → Ic 15 k = -1 ∧ Ic 17 k = -1 ∧ Ic 19 k = 0 := h.2.2.2.2.1
theorem Clr.t {Xc : Nat → Nat → Int32} {Ic : Nat → Nat → Int32} (h : Clr Xc Ic) : ∀ k, k < 7 → Ic 21 k = -1 := h.2.2.2.2.2.1
theorem Clr.q {Xc : Nat → Nat → Int32} {Ic : Nat → Nat → Int32} (h : Clr Xc Ic) : ∀ k, k < 8 → Ic 29 k = -1 ∧ Ic 31 k = 0 := h.2.2.2.2.2.2
theorem Clr.co {X I : Nat → Nat → Int32} (hb : Bd (coX X)) : Clr (coX X) (coI I) := by
  refine ⟨hb, ?_, ?_, ?_, ?_, ?_, ?_⟩
  · intro u hu
    have hc : u = 0 ∨ u = 1 ∨ u = 2 ∨ u = 3 := by omega
    rcases hc with rfl | rfl | rfl | rfl <;> simp [coX, up1, updF_ap]
  · simp [coX, up1, updF_ap]
  · simp [coX, up1, updF_ap]
  · intro k hk
    simp [coI, rclr, hk]
  · intro k hk
    simp [coI, rclr, hk]
  · intro k hk
    simp [coI, rclr, hk]
theorem Clr.of {X X' I : Nat → Nat → Int32} (h : Clr X I) (e : ∀ k, k = 1 ∨ k = 3 ∨ k = 5 ∨ k = 6 ∨ k = 8 ∨ k = 10 ∨ k = 12 → X' k = X k) : Clr X' I :=
  ⟨h.bd.of e, fun u hu => by rw [e _ (by omega)]; exact h.c u hu, by rw [e 5 (by omega)]; exact h.p, by rw [e 5 (by omega)]; exact h.n, h.r, h.t, h.q⟩
/-- what forget leaves alone -/
abbrev FG (X X' : Nat → Nat → Int32) (I I' : Nat → Nat → Int32) : Prop := (∀ k, k ≠ 47 → X' k = X k) ∧ (∀ j, j ≠ 9 → j ≠ 10 → j ≠ 23 → j ≠ 29 → j ≠ 30 → X' 47 j = X 47 j) ∧ (∀ a, a ≠ 56 → a ≠ 59 → a ≠ 60 → a ≠ 61 → a ≠ 62 → a ≠ 67 → a ≠ 68 → a ≠ 69 → a ≠ 70 → a ≠ 71 → I' a = I a)
theorem FG.c {X X' : Nat → Nat → Int32} {I I' : Nat → Nat → Int32} (h : FG X X' I I') : ∀ k, k ≠ 47 → X' k = X k := h.1
theorem FG.j {X X' : Nat → Nat → Int32} {I I' : Nat → Nat → Int32} (h : FG X X' I I') : ∀ j, j ≠ 9 → j ≠ 10 → j ≠ 23 → j ≠ 29 → j ≠ 30 → X' 47 j = X 47 j := h.2.1
theorem FG.a {X X' : Nat → Nat → Int32} {I I' : Nat → Nat → Int32} (h : FG X X' I I') : ∀ a, a ≠ 56 → a ≠ 59 → a ≠ 60 → a ≠ 61 → a ≠ 62 → a ≠ 67 → a ≠ 68 → a ≠ 69 → a ≠ 70 → a ≠ 71 → I' a = I a := h.2.2
section
variable {X : Nat → Nat → Int32} {y : Int64} {I : Nat → Nat → Int32} {J : Nat → Nat → Int64} {b : ip_B} {post : Option Value → ip_H → Prop} {px : String → ip_H → Prop}
variable {Xc : Nat → Nat → Int32} {Ic : Nat → Nat → Int32} {Jc : Nat → Nat → Int64}
theorem bitP_z {c : Int32} : ¬ bitP 0 c = true := by
  rw [bitP_iff]
  simp
theorem Clr.mn (h : Clr Xc Ic) (h56 : ∀ s, s < 4 → I 56 s = 0) (h10 : X 47 10 = 0) : MN Xc Jc X I := by
  have hc : ∀ u, u < 4 → cnt Xc u = 0 := fun u hu => by
    unfold cnt
    rw [h.c u hu]
    rfl
  have ht : totN Xc = 0 := by
    unfold totN
    rw [hc 0 (by decide), hc 1 (by decide), hc 2 (by decide), hc 3 (by decide)]
  refine ⟨h.bd, fun s hs => by rw [h56 s hs, h.c s hs], by rw [ht, h10]; rfl, fun n hn => ?_, fun s i hs hi => ?_, fun s i t j hs ht hi hj => ?_⟩
  · rw [ht] at hn; omega
  · rw [hc s hs] at hi; omega
  · rw [hc s hs] at hi; omega
theorem Clr.mv (h : Clr Xc Ic) (h23 : X 47 23 = 0) (h59 : ∀ k, k < 12 → I 59 k = 0 ∧ I 60 k = -1 ∧ I 61 k = 0) (h62 : ∀ t, t < 7 → I 62 t = -1) (h67 : ∀ k, k < 96 → I 67 k = 0) : MVf Xc Ic X I := by
  have hc : ∀ u, u < 4 → cnt Xc u = 0 := fun u hu => by
    unfold cnt
    rw [h.c u hu]
    rfl
  show MV Xc Ic X I (cnt Xc 0) (cnt Xc 2) (cnt Xc 3)
  rw [hc 0 (by decide), hc 2 (by decide), hc 3 (by decide)]
  refine ⟨by rw [h23, h.p], ?_, ?_, ?_, ?_, ?_, ?_, ?_, ?_, ?_, ?_, ?_⟩
  · intro k hk
    rw [(h59 k hk).2.1, (h.r k hk).2.1]
    exact ⟨rfl, Or.inl rfl⟩
  · intro k hk; omega
  · intro k hk
    rw [(h59 k hk).1, (h.r k hk).1]
    exact ⟨rfl, Or.inl rfl⟩
  · intro k hk
    rw [(h59 k hk).2.2, (h.r k hk).2.2]
    exact ⟨rfl, Or.inl rfl⟩
  · intro k hk
    rw [h62 k hk, h.t k hk]
    exact ⟨rfl, Or.inl rfl⟩
  · intro k hk
    rw [h.p] at hk
    have : (0 : Int32).toNatClampNeg = 0 := rfl
    omega
  · intro k hk; omega
  · intro k hk _
    exact (h.q k hk).1
  · intro p k hp hk
    rw [h67 _ (by omega), (h.q p hp).2, bI_f bitP_z]
  · intro p hp; omega
  · intro k hk _
    exact (h.r k hk).1
theorem md_forget (hc : Clr Xc Ic) (hk : ∀ X' I', FG X X' I I' → MN Xc Jc X' I' → MVf Xc Ic X' I' → X' 47 9 = 0 → FL X' I' 47 29 68 69 (errs Xc Ic) → FL X' I' 47 30 70 71 (rems Xc Ic) → post none (g0, fld X' y, I', J)) : ip_WP 53 0 [some (.ref 47), none] [] (g0, fld X y, I, J) b post px := by
  generalize hX1 : ip_up (ip_up (ip_up X 47 9 0) 47 10 0) 47 23 0 = X1
  have hfin : ∀ A : Nat → Nat → Int32, (∀ s, s < 4 → A 56 s = 0) → (∀ t, t < 7 → A 62 t = -1) → (∀ k, k < 12 → A 59 k = 0 ∧ A 60 k = -1 ∧ A 61 k = 0) → (∀ k, k < 96 → A 67 k = 0) → (∀ a, a ≠ 56 → a ≠ 62 → a ≠ 59 → a ≠ 60 → a ≠ 61 → a ≠ 67 → A a = I a) → ip_WP 53 112 [some (.ref 47), some (.int (nI 96))] [] (g0, fld X1 y, A, J) b post px := by
    intro A h56 h62 h59 h67 hA
    have x9 : X1 47 9 = 0 := by rw [← hX1]; simp [up47]
    have x10 : X1 47 10 = 0 := by rw [← hX1]; simp [up47]
    have x23 : X1 47 23 = 0 := by rw [← hX1]; simp [up47]
    have xc : ∀ k, k ≠ 47 → X1 k = X k := fun k hk => by rw [← hX1, up1, if_neg hk, up1, if_neg hk, up1, if_neg hk]
    have xj : ∀ j, j ≠ 9 → j ≠ 10 → j ≠ 23 → X1 47 j = X 47 j := fun j h1 h2 h3 => by rw [← hX1, up47, if_neg h3, up47, if_neg h2, up47, if_neg h1]
    have hmn : MN Xc Jc X1 A := hc.mn h56 x10
    have hmv : MVf Xc Ic X1 A := hc.mv x23 h59 h62 h67
    simp only [s53_0, s53_1, s53_2, s53_5, s53_6, s53_7, s53_10, s53_11, s53_12, s53_15, s53_16, s53_18, s53_19, s53_22, s53_23, s53_26, s53_27, s53_28, s53_29, s53_32, s53_35, s53_36, s53_38, s53_40, s53_43, s53_44, s53_47, s53_48, s53_49, s53_50, s53_53, s53_56, s53_57, s53_59, s53_61, s53_64, s53_65, s53_68, s53_69, s53_70, s53_71, s53_72, s53_75, s53_76, s53_77, s53_78, s53_79, s53_82, s53_83, s53_84, s53_85, s53_88, s53_91, s53_92, s53_94, s53_96, s53_99, s53_100, s53_103, s53_104, s53_105, s53_106, s53_109, s53_112, s53_113, s53_116, s53_117, s53_120, f_47_0, f_47_1, u_47_1, f_47_2, u_47_2, f_47_3, f_47_4, u_47_4, f_47_5, f_47_6, u_47_6, f_47_7, u_47_7, f_47_8, u_47_8, f_47_9, u_47_9, f_47_10, u_47_10, f_47_11, f_47_12, f_47_13, f_47_14, f_47_15, f_47_16, f_47_17, f_47_18, f_47_19, f_47_20, f_47_21, f_47_22, f_47_23, u_47_23, f_47_24, f_47_25, f_47_26, f_47_27, f_47_28, f_47_29, u_47_29, f_47_30, u_47_30, f_47_31, f_47_32, f_47_33, f_47_34, f_47_35, u_47_35, f_47_36, u_47_36, f_47_37, u_47_37, f_47_38, u_47_38, o_47, Option.toList_some, Option.toList_none, List.cons_append, List.nil_append, List.append_nil, ip_on_some, true_and, and_true, if_true, if_false, not_true_eq_false, not_false_eq_true, decide_true, true_or, or_true, or_self, Bool.false_eq_true]
    refine md_errors hmn hmv (fun h hC => ?_)
    obtain ⟨X2, I2, rfl, hF2, hc2, hj2, hI2⟩ := hC
    have hmn2 : MN Xc Jc X2 I2 := hc.mn (fun s hs => by rw [hI2 56 (by decide) (by decide)]; exact h56 s hs) (by rw [hj2 10 (by decide)]; exact x10)
    have hmv2 : MVf Xc Ic X2 I2 := hc.mv (by rw [hj2 23 (by decide)]; exact x23) (by rw [hI2 59 (by decide) (by decide), hI2 60 (by decide) (by decide), hI2 61 (by decide) (by decide)]; exact h59) (by rw [hI2 62 (by decide) (by decide)]; exact h62) (by rw [hI2 67 (by decide) (by decide)]; exact h67)
    simp only [s53_0, s53_1, s53_2, s53_5, s53_6, s53_7, s53_10, s53_11, s53_12, s53_15, s53_16, s53_18, s53_19, s53_22, s53_23, s53_26, s53_27, s53_28, s53_29, s53_32, s53_35, s53_36, s53_38, s53_40, s53_43, s53_44, s53_47, s53_48, s53_49, s53_50, s53_53, s53_56, s53_57, s53_59, s53_61, s53_64, s53_65, s53_68, s53_69, s53_70, s53_71, s53_72, s53_75, s53_76, s53_77, s53_78, s53_79, s53_82, s53_83, s53_84, s53_85, s53_88, s53_91, s53_92, s53_94, s53_96, s53_99, s53_100, s53_103, s53_104, s53_105, s53_106, s53_109, s53_112, s53_113, s53_116, s53_117, s53_120, f_47_0, f_47_1, u_47_1, f_47_2, u_47_2, f_47_3, f_47_4, u_47_4, f_47_5, f_47_6, u_47_6, f_47_7, u_47_7, f_47_8, u_47_8, f_47_9, u_47_9, f_47_10, u_47_10, f_47_11, f_47_12, f_47_13, f_47_14, f_47_15, f_47_16, f_47_17, f_47_18, f_47_19, f_47_20, f_47_21, f_47_22, f_47_23, u_47_23, f_47_24, f_47_25, f_47_26, f_47_27, f_47_28, f_47_29, u_47_29, f_47_30, u_47_30, f_47_31, f_47_32, f_47_33, f_47_34, f_47_35, u_47_35, f_47_36, u_47_36, f_47_37, u_47_37, f_47_38, u_47_38, o_47, Option.toList_some, Option.toList_none, List.cons_append, List.nil_append, List.append_nil, ip_on_some, true_and, and_true, if_true, if_false, not_true_eq_false, not_false_eq_true, decide_true, true_or, or_true, or_self, Bool.false_eq_true]
    refine md_remarks hmn2 hmv2 (fun h hC => ?_)
    obtain ⟨X3, I3, rfl, hF3, hc3, hj3, hI3⟩ := hC
    simp only [s53_0, s53_1, s53_2, s53_5, s53_6, s53_7, s53_10, s53_11, s53_12, s53_15, s53_16, s53_18, s53_19, s53_22, s53_23, s53_26, s53_27, s53_28, s53_29, s53_32, s53_35, s53_36, s53_38, s53_40, s53_43, s53_44, s53_47, s53_48, s53_49, s53_50, s53_53, s53_56, s53_57, s53_59, s53_61, s53_64, s53_65, s53_68, s53_69, s53_70, s53_71, s53_72, s53_75, s53_76, s53_77, s53_78, s53_79, s53_82, s53_83, s53_84, s53_85, s53_88, s53_91, s53_92, s53_94, s53_96, s53_99, s53_100, s53_103, s53_104, s53_105, s53_106, s53_109, s53_112, s53_113, s53_116, s53_117, s53_120, f_47_0, f_47_1, u_47_1, f_47_2, u_47_2, f_47_3, f_47_4, u_47_4, f_47_5, f_47_6, u_47_6, f_47_7, u_47_7, f_47_8, u_47_8, f_47_9, u_47_9, f_47_10, u_47_10, f_47_11, f_47_12, f_47_13, f_47_14, f_47_15, f_47_16, f_47_17, f_47_18, f_47_19, f_47_20, f_47_21, f_47_22, f_47_23, u_47_23, f_47_24, f_47_25, f_47_26, f_47_27, f_47_28, f_47_29, u_47_29, f_47_30, u_47_30, f_47_31, f_47_32, f_47_33, f_47_34, f_47_35, u_47_35, f_47_36, u_47_36, f_47_37, u_47_37, f_47_38, u_47_38, o_47, Option.toList_some, Option.toList_none, List.cons_append, List.nil_append, List.append_nil, ip_on_some, true_and, and_true, if_true, if_false, not_true_eq_false, not_false_eq_true, decide_true, true_or, or_true, or_self, Bool.false_eq_true]
    refine hk X3 I3 ⟨fun k hk => by rw [hc3 k hk, hc2 k hk, xc k hk], fun j h1 h2 h3 h4 h5 => by rw [hj3 j h5, hj2 j h4, xj j h1 h2 h3], fun a h1 h2 h3 h4 h5 h6 h7 h8 h9 h10 => by rw [hI3 a h9 h10, hI2 a h7 h8, hA a h1 h5 h2 h3 h4 h6]⟩ ?_ ?_ ?_ ?_ hF3
    · exact hc.mn (fun s hs => by rw [hI3 56 (by decide) (by decide)]; exact hmn2.many s hs |>.trans (hc.c s hs)) (by rw [hj3 10 (by decide), hj2 10 (by decide)]; exact x10)
    · exact hc.mv (by rw [hj3 23 (by decide), hj2 23 (by decide)]; exact x23) (by rw [hI3 59 (by decide) (by decide), hI3 60 (by decide) (by decide), hI3 61 (by decide) (by decide), hI2 59 (by decide) (by decide), hI2 60 (by decide) (by decide), hI2 61 (by decide) (by decide)]; exact h59) (by rw [hI3 62 (by decide) (by decide), hI2 62 (by decide) (by decide)]; exact h62) (by rw [hI3 67 (by decide) (by decide), hI2 67 (by decide) (by decide)]; exact h67)
    · rw [hj3 9 (by decide), hj2 9 (by decide)]; exact x9
    · exact ⟨by rw [hj3 29 (by decide)]; exact hF2.s, by rw [hI3 68 (by decide) (by decide), hI3 69 (by decide) (by decide)]; exact hF2.g⟩
  have l4 : ∀ A : Nat → Nat → Int32, (∀ s, s < 4 → A 56 s = 0) → (∀ t, t < 7 → A 62 t = -1) → (∀ k, k < 12 → A 59 k = 0 ∧ A 60 k = -1 ∧ A 61 k = 0) → (∀ a, a ≠ 56 → a ≠ 62 → a ≠ 59 → a ≠ 60 → a ≠ 61 → A a = I a) → ip_WP 53 93 [some (.ref 47), some (.int 0)] [] (g0, fld X1 y, A, J) b post px := by
    intro A h56 h62 h59 hA
    have := lp (σ := Nat → Nat → Int32) (P := fun i B => (∀ k, k < i → B 67 k = 0) ∧ ∀ a, a ≠ 67 → B a = A a) (W := fun i B => ip_WP 53 93 [some (.ref 47), some (.int (nI i))] [] (g0, fld X1 y, B, J) b post px) 96 (fun i B hi hP hk2 => by
      have c1 : ¬ (96 : Int32) ≤ nI i := nI_ge (b := 96) hi (by decide)
      have c2 : ¬ nI i < 0 := nI_pos (by omega)
      have c3 : ¬ 96 ≤ i := by omega
      show ip_WP _ _ _ _ _ _ _ _
      rw [s53_93]
      simp only [s53_0, s53_1, s53_2, s53_5, s53_6, s53_7, s53_10, s53_11, s53_12, s53_15, s53_16, s53_18, s53_19, s53_22, s53_23, s53_26, s53_27, s53_28, s53_29, s53_32, s53_35, s53_36, s53_38, s53_40, s53_43, s53_44, s53_47, s53_48, s53_49, s53_50, s53_53, s53_56, s53_57, s53_59, s53_61, s53_64, s53_65, s53_68, s53_69, s53_70, s53_71, s53_72, s53_75, s53_76, s53_77, s53_78, s53_79, s53_82, s53_83, s53_84, s53_85, s53_88, s53_91, s53_92, s53_94, s53_96, s53_99, s53_100, s53_103, s53_104, s53_105, s53_106, s53_109, s53_112, s53_113, s53_116, s53_117, s53_120, f_47_0, f_47_1, u_47_1, f_47_2, u_47_2, f_47_3, f_47_4, u_47_4, f_47_5, f_47_6, u_47_6, f_47_7, u_47_7, f_47_8, u_47_8, f_47_9, u_47_9, f_47_10, u_47_10, f_47_11, f_47_12, f_47_13, f_47_14, f_47_15, f_47_16, f_47_17, f_47_18, f_47_19, f_47_20, f_47_21, f_47_22, f_47_23, u_47_23, f_47_24, f_47_25, f_47_26, f_47_27, f_47_28, f_47_29, u_47_29, f_47_30, u_47_30, f_47_31, f_47_32, f_47_33, f_47_34, f_47_35, u_47_35, f_47_36, u_47_36, f_47_37, u_47_37, f_47_38, u_47_38, o_47, a_67, l_67, an_67, c1, c2, c3, nI_clamp (show i < 2 ^ 31 by omega), nI_1, vn0, Bool.false_eq_true, Option.toList_some, Option.toList_none, List.cons_append, List.nil_append, List.append_nil, ip_on_some, true_and, and_true, if_true, if_false, not_true_eq_false, not_false_eq_true, decide_true, true_or, or_true, or_self, Bool.false_eq_true]
      refine hk2 _ ⟨fun k hk => ?_, fun a ha => by rw [up1, if_neg ha]; exact hP.2 a ha⟩
      rw [up1, if_pos rfl, updF_ap]
      split
      · rfl
      · exact hP.1 k (by omega)) (fun B hP => by
      have c1 : (96 : Int32) ≤ nI 96 := by decide
      show ip_WP _ _ _ _ _ _ _ _
      rw [s53_93]
      simp only [s53_0, s53_1, s53_2, s53_5, s53_6, s53_7, s53_10, s53_11, s53_12, s53_15, s53_16, s53_18, s53_19, s53_22, s53_23, s53_26, s53_27, s53_28, s53_29, s53_32, s53_35, s53_36, s53_38, s53_40, s53_43, s53_44, s53_47, s53_48, s53_49, s53_50, s53_53, s53_56, s53_57, s53_59, s53_61, s53_64, s53_65, s53_68, s53_69, s53_70, s53_71, s53_72, s53_75, s53_76, s53_77, s53_78, s53_79, s53_82, s53_83, s53_84, s53_85, s53_88, s53_91, s53_92, s53_94, s53_96, s53_99, s53_100, s53_103, s53_104, s53_105, s53_106, s53_109, s53_113, s53_116, s53_117, s53_120, f_47_0, f_47_1, u_47_1, f_47_2, u_47_2, f_47_3, f_47_4, u_47_4, f_47_5, f_47_6, u_47_6, f_47_7, u_47_7, f_47_8, u_47_8, f_47_9, u_47_9, f_47_10, u_47_10, f_47_11, f_47_12, f_47_13, f_47_14, f_47_15, f_47_16, f_47_17, f_47_18, f_47_19, f_47_20, f_47_21, f_47_22, f_47_23, u_47_23, f_47_24, f_47_25, f_47_26, f_47_27, f_47_28, f_47_29, u_47_29, f_47_30, u_47_30, f_47_31, f_47_32, f_47_33, f_47_34, f_47_35, u_47_35, f_47_36, u_47_36, f_47_37, u_47_37, f_47_38, u_47_38, o_47, c1, Option.toList_some, Option.toList_none, List.cons_append, List.nil_append, List.append_nil, ip_on_some, true_and, and_true, if_true, if_false, not_true_eq_false, not_false_eq_true, decide_true, true_or, or_true, or_self, Bool.false_eq_true]
      refine hfin B (by rw [hP.2 56 (by decide)]; exact h56) (by rw [hP.2 62 (by decide)]; exact h62) (by rw [hP.2 59 (by decide), hP.2 60 (by decide), hP.2 61 (by decide)]; exact h59) hP.1 (fun a h1 h2 h3 h4 h5 h6 => by rw [hP.2 a h6]; exact hA a h1 h2 h3 h4 h5)) 0 A (Nat.zero_le _) ⟨fun k hk => by omega, fun _ _ => rfl⟩
    rw [nI_0] at this
    exact this
  have l3 : ∀ A : Nat → Nat → Int32, (∀ s, s < 4 → A 56 s = 0) → (∀ t, t < 7 → A 62 t = -1) → (∀ a, a ≠ 56 → a ≠ 62 → A a = I a) → ip_WP 53 58 [some (.ref 47), some (.int 0)] [] (g0, fld X1 y, A, J) b post px := by
    intro A h56 h62 hA
    have := lp (σ := Nat → Nat → Int32) (P := fun i B => (∀ k, k < i → B 59 k = 0 ∧ B 60 k = -1 ∧ B 61 k = 0) ∧ ∀ a, a ≠ 59 → a ≠ 60 → a ≠ 61 → B a = A a) (W := fun i B => ip_WP 53 58 [some (.ref 47), some (.int (nI i))] [] (g0, fld X1 y, B, J) b post px) 12 (fun i B hi hP hk2 => by
      have c1 : ¬ (12 : Int32) ≤ nI i := nI_ge (b := 12) hi (by decide)
      have c2 : ¬ nI i < 0 := nI_pos (by omega)
      have c3 : ¬ 12 ≤ i := by omega
      show ip_WP _ _ _ _ _ _ _ _
      rw [s53_58]
      simp only [s53_0, s53_1, s53_2, s53_5, s53_6, s53_7, s53_10, s53_11, s53_12, s53_15, s53_16, s53_18, s53_19, s53_22, s53_23, s53_26, s53_27, s53_28, s53_29, s53_32, s53_35, s53_36, s53_38, s53_40, s53_43, s53_44, s53_47, s53_48, s53_49, s53_50, s53_53, s53_56, s53_57, s53_59, s53_61, s53_64, s53_65, s53_68, s53_69, s53_70, s53_71, s53_72, s53_75, s53_76, s53_77, s53_78, s53_79, s53_82, s53_83, s53_84, s53_85, s53_88, s53_91, s53_92, s53_94, s53_96, s53_99, s53_100, s53_103, s53_104, s53_105, s53_106, s53_109, s53_112, s53_113, s53_116, s53_117, s53_120, f_47_0, f_47_1, u_47_1, f_47_2, u_47_2, f_47_3, f_47_4, u_47_4, f_47_5, f_47_6, u_47_6, f_47_7, u_47_7, f_47_8, u_47_8, f_47_9, u_47_9, f_47_10, u_47_10, f_47_11, f_47_12, f_47_13, f_47_14, f_47_15, f_47_16, f_47_17, f_47_18, f_47_19, f_47_20, f_47_21, f_47_22, f_47_23, u_47_23, f_47_24, f_47_25, f_47_26, f_47_27, f_47_28, f_47_29, u_47_29, f_47_30, u_47_30, f_47_31, f_47_32, f_47_33, f_47_34, f_47_35, u_47_35, f_47_36, u_47_36, f_47_37, u_47_37, f_47_38, u_47_38, o_47, a_59, l_59, an_59, a_60, l_60, a_61, l_61, an_61, c1, c2, c3, nI_clamp (show i < 2 ^ 31 by omega), nI_1, vn0, Bool.false_eq_true, Option.toList_some, Option.toList_none, List.cons_append, List.nil_append, List.append_nil, ip_on_some, true_and, and_true, if_true, if_false, not_true_eq_false, not_false_eq_true, decide_true, true_or, or_true, or_self, Bool.false_eq_true]
      refine hk2 _ ⟨fun k hk => ?_, fun a h1 h2 h3 => by rw [up1, if_neg h3, up1, if_neg h2, up1, if_neg h1]; exact hP.2 a h1 h2 h3⟩
      simp only [up1, updF_ap, Nat.reduceEqDiff, if_true, if_false]
      by_cases e : k = i
      · simp [e]
      · simp only [e, if_false]
        exact hP.1 k (by omega)) (fun B hP => by
      have c1 : (12 : Int32) ≤ nI 12 := by decide
      show ip_WP _ _ _ _ _ _ _ _
      rw [s53_58]
      simp only [s53_0, s53_1, s53_2, s53_5, s53_6, s53_7, s53_10, s53_11, s53_12, s53_15, s53_16, s53_18, s53_19, s53_22, s53_23, s53_26, s53_27, s53_28, s53_29, s53_32, s53_35, s53_36, s53_38, s53_40, s53_43, s53_44, s53_47, s53_48, s53_49, s53_50, s53_53, s53_56, s53_57, s53_59, s53_61, s53_64, s53_65, s53_68, s53_69, s53_70, s53_71, s53_72, s53_75, s53_76, s53_77, s53_78, s53_79, s53_82, s53_83, s53_84, s53_85, s53_88, s53_91, s53_92, s53_94, s53_96, s53_99, s53_100, s53_103, s53_104, s53_105, s53_106, s53_109, s53_112, s53_113, s53_116, s53_117, s53_120, f_47_0, f_47_1, u_47_1, f_47_2, u_47_2, f_47_3, f_47_4, u_47_4, f_47_5, f_47_6, u_47_6, f_47_7, u_47_7, f_47_8, u_47_8, f_47_9, u_47_9, f_47_10, u_47_10, f_47_11, f_47_12, f_47_13, f_47_14, f_47_15, f_47_16, f_47_17, f_47_18, f_47_19, f_47_20, f_47_21, f_47_22, f_47_23, u_47_23, f_47_24, f_47_25, f_47_26, f_47_27, f_47_28, f_47_29, u_47_29, f_47_30, u_47_30, f_47_31, f_47_32, f_47_33, f_47_34, f_47_35, u_47_35, f_47_36, u_47_36, f_47_37, u_47_37, f_47_38, u_47_38, o_47, c1, Option.toList_some, Option.toList_none, List.cons_append, List.nil_append, List.append_nil, ip_on_some, true_and, and_true, if_true, if_false, not_true_eq_false, not_false_eq_true, decide_true, true_or, or_true, or_self, Bool.false_eq_true]
      exact l4 B (by rw [hP.2 56 (by decide) (by decide) (by decide)]; exact h56) (by rw [hP.2 62 (by decide) (by decide) (by decide)]; exact h62) hP.1 (fun a h1 h2 h3 h4 h5 => by rw [hP.2 a h3 h4 h5]; exact hA a h1 h2)) 0 A (Nat.zero_le _) ⟨fun k hk => by omega, fun _ _ _ _ => rfl⟩
    rw [nI_0] at this
    exact this
  have l2 : ∀ A : Nat → Nat → Int32, (∀ s, s < 4 → A 56 s = 0) → (∀ a, a ≠ 56 → A a = I a) → ip_WP 53 37 [some (.ref 47), some (.int 0)] [] (g0, fld X1 y, A, J) b post px := by
    intro A h56 hA
    have := lp (σ := Nat → Nat → Int32) (P := fun i B => (∀ k, k < i → B 62 k = -1) ∧ ∀ a, a ≠ 62 → B a = A a) (W := fun i B => ip_WP 53 37 [some (.ref 47), some (.int (nI i))] [] (g0, fld X1 y, B, J) b post px) 7 (fun i B hi hP hk2 => by
      have c1 : ¬ (7 : Int32) ≤ nI i := nI_ge (b := 7) hi (by decide)
      have c2 : ¬ nI i < 0 := nI_pos (by omega)
      have c3 : ¬ 7 ≤ i := by omega
      show ip_WP _ _ _ _ _ _ _ _
      rw [s53_37]
      simp only [s53_0, s53_1, s53_2, s53_5, s53_6, s53_7, s53_10, s53_11, s53_12, s53_15, s53_16, s53_18, s53_19, s53_22, s53_23, s53_26, s53_27, s53_28, s53_29, s53_32, s53_35, s53_36, s53_38, s53_40, s53_43, s53_44, s53_47, s53_48, s53_49, s53_50, s53_53, s53_56, s53_57, s53_59, s53_61, s53_64, s53_65, s53_68, s53_69, s53_70, s53_71, s53_72, s53_75, s53_76, s53_77, s53_78, s53_79, s53_82, s53_83, s53_84, s53_85, s53_88, s53_91, s53_92, s53_94, s53_96, s53_99, s53_100, s53_103, s53_104, s53_105, s53_106, s53_109, s53_112, s53_113, s53_116, s53_117, s53_120, f_47_0, f_47_1, u_47_1, f_47_2, u_47_2, f_47_3, f_47_4, u_47_4, f_47_5, f_47_6, u_47_6, f_47_7, u_47_7, f_47_8, u_47_8, f_47_9, u_47_9, f_47_10, u_47_10, f_47_11, f_47_12, f_47_13, f_47_14, f_47_15, f_47_16, f_47_17, f_47_18, f_47_19, f_47_20, f_47_21, f_47_22, f_47_23, u_47_23, f_47_24, f_47_25, f_47_26, f_47_27, f_47_28, f_47_29, u_47_29, f_47_30, u_47_30, f_47_31, f_47_32, f_47_33, f_47_34, f_47_35, u_47_35, f_47_36, u_47_36, f_47_37, u_47_37, f_47_38, u_47_38, o_47, a_62, l_62, c1, c2, c3, nI_clamp (show i < 2 ^ 31 by omega), nI_1, Option.toList_some, Option.toList_none, List.cons_append, List.nil_append, List.append_nil, ip_on_some, true_and, and_true, if_true, if_false, not_true_eq_false, not_false_eq_true, decide_true, true_or, or_true, or_self, Bool.false_eq_true]
      refine hk2 _ ⟨fun k hk => ?_, fun a ha => by rw [up1, if_neg ha]; exact hP.2 a ha⟩
      rw [up1, if_pos rfl, updF_ap]
      split
      · rfl
      · exact hP.1 k (by omega)) (fun B hP => by
      have c1 : (7 : Int32) ≤ nI 7 := by decide
      show ip_WP _ _ _ _ _ _ _ _
      rw [s53_37]
      simp only [s53_0, s53_1, s53_2, s53_5, s53_6, s53_7, s53_10, s53_11, s53_12, s53_15, s53_16, s53_18, s53_19, s53_22, s53_23, s53_26, s53_27, s53_28, s53_29, s53_32, s53_35, s53_36, s53_38, s53_40, s53_43, s53_44, s53_47, s53_48, s53_49, s53_50, s53_53, s53_56, s53_57, s53_59, s53_61, s53_64, s53_65, s53_68, s53_69, s53_70, s53_71, s53_72, s53_75, s53_76, s53_77, s53_78, s53_79, s53_82, s53_83, s53_84, s53_85, s53_88, s53_91, s53_92, s53_94, s53_96, s53_99, s53_100, s53_103, s53_104, s53_105, s53_106, s53_109, s53_112, s53_113, s53_116, s53_117, s53_120, f_47_0, f_47_1, u_47_1, f_47_2, u_47_2, f_47_3, f_47_4, u_47_4, f_47_5, f_47_6, u_47_6, f_47_7, u_47_7, f_47_8, u_47_8, f_47_9, u_47_9, f_47_10, u_47_10, f_47_11, f_47_12, f_47_13, f_47_14, f_47_15, f_47_16, f_47_17, f_47_18, f_47_19, f_47_20, f_47_21, f_47_22, f_47_23, u_47_23, f_47_24, f_47_25, f_47_26, f_47_27, f_47_28, f_47_29, u_47_29, f_47_30, u_47_30, f_47_31, f_47_32, f_47_33, f_47_34, f_47_35, u_47_35, f_47_36, u_47_36, f_47_37, u_47_37, f_47_38, u_47_38, o_47, c1, Option.toList_some, Option.toList_none, List.cons_append, List.nil_append, List.append_nil, ip_on_some, true_and, and_true, if_true, if_false, not_true_eq_false, not_false_eq_true, decide_true, true_or, or_true, or_self, Bool.false_eq_true]
      exact l3 B (by rw [hP.2 56 (by decide)]; exact h56) hP.1 (fun a h1 h2 => by rw [hP.2 a h2]; exact hA a h1)) 0 A (Nat.zero_le _) ⟨fun k hk => by omega, fun _ _ => rfl⟩
    rw [nI_0] at this
    exact this
  have l1 : ip_WP 53 17 [some (.ref 47), some (.int 0)] [] (g0, fld X1 y, I, J) b post px := by
    have := lp (σ := Nat → Nat → Int32) (P := fun i B => (∀ k, k < i → B 56 k = 0) ∧ ∀ a, a ≠ 56 → B a = I a) (W := fun i B => ip_WP 53 17 [some (.ref 47), some (.int (nI i))] [] (g0, fld X1 y, B, J) b post px) 4 (fun i B hi hP hk2 => by
      have c1 : ¬ (4 : Int32) ≤ nI i := nI_ge (b := 4) hi (by decide)
      have c2 : ¬ nI i < 0 := nI_pos (by omega)
      have c3 : ¬ 4 ≤ i := by omega
      show ip_WP _ _ _ _ _ _ _ _
      rw [s53_17]
      simp only [s53_0, s53_1, s53_2, s53_5, s53_6, s53_7, s53_10, s53_11, s53_12, s53_15, s53_16, s53_18, s53_19, s53_22, s53_23, s53_26, s53_27, s53_28, s53_29, s53_32, s53_35, s53_36, s53_38, s53_40, s53_43, s53_44, s53_47, s53_48, s53_49, s53_50, s53_53, s53_56, s53_57, s53_59, s53_61, s53_64, s53_65, s53_68, s53_69, s53_70, s53_71, s53_72, s53_75, s53_76, s53_77, s53_78, s53_79, s53_82, s53_83, s53_84, s53_85, s53_88, s53_91, s53_92, s53_94, s53_96, s53_99, s53_100, s53_103, s53_104, s53_105, s53_106, s53_109, s53_112, s53_113, s53_116, s53_117, s53_120, f_47_0, f_47_1, u_47_1, f_47_2, u_47_2, f_47_3, f_47_4, u_47_4, f_47_5, f_47_6, u_47_6, f_47_7, u_47_7, f_47_8, u_47_8, f_47_9, u_47_9, f_47_10, u_47_10, f_47_11, f_47_12, f_47_13, f_47_14, f_47_15, f_47_16, f_47_17, f_47_18, f_47_19, f_47_20, f_47_21, f_47_22, f_47_23, u_47_23, f_47_24, f_47_25, f_47_26, f_47_27, f_47_28, f_47_29, u_47_29, f_47_30, u_47_30, f_47_31, f_47_32, f_47_33, f_47_34, f_47_35, u_47_35, f_47_36, u_47_36, f_47_37, u_47_37, f_47_38, u_47_38, o_47, a_56, l_56, c1, c2, c3, nI_clamp (show i < 2 ^ 31 by omega), nI_1, Option.toList_some, Option.toList_none, List.cons_append, List.nil_append, List.append_nil, ip_on_some, true_and, and_true, if_true, if_false, not_true_eq_false, not_false_eq_true, decide_true, true_or, or_true, or_self, Bool.false_eq_true]
      refine hk2 _ ⟨fun k hk => ?_, fun a ha => by rw [up1, if_neg ha]; exact hP.2 a ha⟩
      rw [up1, if_pos rfl, updF_ap]
      split
      · rfl
      · exact hP.1 k (by omega)) (fun B hP => by
      have c1 : (4 : Int32) ≤ nI 4 := by decide
      show ip_WP _ _ _ _ _ _ _ _
      rw [s53_17]
      simp only [s53_0, s53_1, s53_2, s53_5, s53_6, s53_7, s53_10, s53_11, s53_12, s53_15, s53_16, s53_18, s53_19, s53_22, s53_23, s53_26, s53_27, s53_28, s53_29, s53_32, s53_35, s53_36, s53_38, s53_40, s53_43, s53_44, s53_47, s53_48, s53_49, s53_50, s53_53, s53_56, s53_57, s53_59, s53_61, s53_64, s53_65, s53_68, s53_69, s53_70, s53_71, s53_72, s53_75, s53_76, s53_77, s53_78, s53_79, s53_82, s53_83, s53_84, s53_85, s53_88, s53_91, s53_92, s53_94, s53_96, s53_99, s53_100, s53_103, s53_104, s53_105, s53_106, s53_109, s53_112, s53_113, s53_116, s53_117, s53_120, f_47_0, f_47_1, u_47_1, f_47_2, u_47_2, f_47_3, f_47_4, u_47_4, f_47_5, f_47_6, u_47_6, f_47_7, u_47_7, f_47_8, u_47_8, f_47_9, u_47_9, f_47_10, u_47_10, f_47_11, f_47_12, f_47_13, f_47_14, f_47_15, f_47_16, f_47_17, f_47_18, f_47_19, f_47_20, f_47_21, f_47_22, f_47_23, u_47_23, f_47_24, f_47_25, f_47_26, f_47_27, f_47_28, f_47_29, u_47_29, f_47_30, u_47_30, f_47_31, f_47_32, f_47_33, f_47_34, f_47_35, u_47_35, f_47_36, u_47_36, f_47_37, u_47_37, f_47_38, u_47_38, o_47, c1, Option.toList_some, Option.toList_none, List.cons_append, List.nil_append, List.append_nil, ip_on_some, true_and, and_true, if_true, if_false, not_true_eq_false, not_false_eq_true, decide_true, true_or, or_true, or_self, Bool.false_eq_true]
      exact l2 B hP.1 hP.2) 0 I (Nat.zero_le _) ⟨fun k hk => by omega, fun _ _ => rfl⟩
    rw [nI_0] at this
    exact this
  simp only [s53_0, s53_1, s53_2, s53_5, s53_6, s53_7, s53_10, s53_11, s53_12, s53_15, s53_16, s53_18, s53_19, s53_22, s53_23, s53_26, s53_27, s53_28, s53_29, s53_32, s53_35, s53_36, s53_38, s53_40, s53_43, s53_44, s53_47, s53_48, s53_49, s53_50, s53_53, s53_56, s53_57, s53_59, s53_61, s53_64, s53_65, s53_68, s53_69, s53_70, s53_71, s53_72, s53_75, s53_76, s53_77, s53_78, s53_79, s53_82, s53_83, s53_84, s53_85, s53_88, s53_91, s53_92, s53_94, s53_96, s53_99, s53_100, s53_103, s53_104, s53_105, s53_106, s53_109, s53_112, s53_113, s53_116, s53_117, s53_120, f_47_0, f_47_1, u_47_1, f_47_2, u_47_2, f_47_3, f_47_4, u_47_4, f_47_5, f_47_6, u_47_6, f_47_7, u_47_7, f_47_8, u_47_8, f_47_9, u_47_9, f_47_10, u_47_10, f_47_11, f_47_12, f_47_13, f_47_14, f_47_15, f_47_16, f_47_17, f_47_18, f_47_19, f_47_20, f_47_21, f_47_22, f_47_23, u_47_23, f_47_24, f_47_25, f_47_26, f_47_27, f_47_28, f_47_29, u_47_29, f_47_30, u_47_30, f_47_31, f_47_32, f_47_33, f_47_34, f_47_35, u_47_35, f_47_36, u_47_36, f_47_37, u_47_37, f_47_38, u_47_38, o_47, hX1, Option.toList_some, Option.toList_none, List.cons_append, List.nil_append, List.append_nil, ip_on_some, true_and, and_true, if_true, if_false, not_true_eq_false, not_false_eq_true, decide_true, true_or, or_true, or_self, Bool.false_eq_true]
  exact l1
end
