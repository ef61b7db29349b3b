/-! the law's wrappers: an answer goes to out (cell 72), an exception becomes a number -/
theorem ip_WP_mono {mi pc : Nat} {L : ip_Lo} {S : List Value} {h : ip_H} {b : ip_B} {post post' : Option Value → ip_H → Prop} {px px' : String → ip_H → Prop} (h1 : ∀ r h, post r h → post' r h) (h2 : ∀ E h, px E h → px' E h) (hw : ip_WP mi pc L S h b post px) : ip_WP mi pc L S h b post' px' := by
  obtain ⟨n, hn⟩ := hw
  exact ⟨n, ip_mono n _ _ _ _ _ _ _ _ _ _ h1 h2 hn n (Nat.le_refl n)⟩
section
variable {G : List ip_K} {F : Nat → Nat → Value} {X : Nat → Nat → Int32} {y : Int64} {I : Nat → Nat → Int32} {J : Nat → Nat → Int64} {b : ip_B} {post : Option Value → ip_H → Prop} {px : String → ip_H → Prop}
theorem h197_19 {x0 : Nat} {x1 : Int32} {x2 : Int32} {x3 : Int32} {x4 : Int32} {x5 : Nat} : ip_WP 197 19 [some (.ref x0), some (.int x1), some (.int x2), some (.int x3), some (.int x4), some (.ref x5), none] [] (G, F, I, J) b post px ↔ post (some (.int 1)) (G, F, I, J) := (ip_s_iconst (S := []) f197_19 (by decide : Int32.ofInt 1 = (1 : Int32))).trans (ip_rt_iff ((ip_st_of f197_20).trans rfl))
theorem lw_197 {p1 p2 p3 p4 : Int32} (hb : ip_bud 1 b = true) (hc : ip_WP 1 0 [some (.ref 0), some (.int p1), some (.int p2), some (.int p3), some (.int p4)] [] (g0, fld X y, I, J) (1, 6) (fun r h' => ∃ v X' y' I' J', r = some (.int v) ∧ h' = (g0, fld X' y', I', J') ∧ post (some (.int 0)) (g0, fld X' y', I', ip_up J' 72 0 v.toInt64)) (fun E h' => ∃ X' y' I' J', h' = (g0, fld X' y', I', J') ∧ ((E = "java/lang/IllegalStateException" ∧ post (some (.int 1)) (g0, fld X' y', I', J'))))) : ip_WP 197 0 [some (.ref 0), some (.int p1), some (.int p2), some (.int p3), some (.int p4), some (.ref 72), none] [] (g0, fld X y, I, J) b post px := by
  simp only [s197_0, s197_2, s197_3, s197_4, s197_5, s197_6, s197_7, s197_9, o_0, hb, true_and]
  refine ip_WP_mono ?_ ?_ hc
  · rintro r h' ⟨v, X', y', I', J', rfl, rfl, hp⟩
    simp only [s197_12, s197_13, s197_14, s197_21, s197_22, a_72, Option.toList_some, Option.toList_none, List.cons_append, List.nil_append, List.append_nil, ip_on_some, true_and, and_true, if_true, if_false, not_true_eq_false, not_false_eq_true, decide_true, true_or, or_true, or_self, Bool.false_eq_true]
    simpa using hp
  · rintro E h' ⟨X', y', I', J', rfl, hp⟩
    obtain ⟨rfl, hp⟩ := hp
    rw [show ip_hd 1 197 9 "java/lang/IllegalStateException" = some (some (19, 6)) from by decide +kernel]
    exact h197_19.mpr hp
theorem h198_13 {x0 : Nat} {x1 : Int32} {x2 : Nat} : ip_WP 198 13 [some (.ref x0), some (.int x1), some (.ref x2), none] [] (G, F, I, J) b post px ↔ post (some (.int 1)) (G, F, I, J) := (ip_s_iconst (S := []) f198_13 (by decide : Int32.ofInt 1 = (1 : Int32))).trans (ip_rt_iff ((ip_st_of f198_14).trans rfl))
theorem h198_16 {x0 : Nat} {x1 : Int32} {x2 : Nat} : ip_WP 198 16 [some (.ref x0), some (.int x1), some (.ref x2), none] [] (G, F, I, J) b post px ↔ post (some (.int 2)) (G, F, I, J) := (ip_s_iconst (S := []) f198_16 (by decide : Int32.ofInt 2 = (2 : Int32))).trans (ip_rt_iff ((ip_st_of f198_17).trans rfl))
theorem lw_198 {p1 : Int32} (hb : ip_bud 2 b = true) (hc : ip_WP 2 0 [some (.ref 0), some (.int p1)] [] (g0, fld X y, I, J) (2, 12) (fun r h' => ∃ v X' y' I' J', r = some (.int v) ∧ h' = (g0, fld X' y', I', J') ∧ post (some (.int 0)) (g0, fld X' y', I', ip_up J' 72 0 v.toInt64)) (fun E h' => ∃ X' y' I' J', h' = (g0, fld X' y', I', J') ∧ ((E = "java/lang/IllegalArgumentException" ∧ post (some (.int 1)) (g0, fld X' y', I', J')) ∨ (E = "java/lang/IllegalStateException" ∧ post (some (.int 2)) (g0, fld X' y', I', J'))))) : ip_WP 198 0 [some (.ref 0), some (.int p1), some (.ref 72), none] [] (g0, fld X y, I, J) b post px := by
  simp only [s198_0, s198_1, s198_2, s198_3, s198_4, o_0, hb, true_and]
  refine ip_WP_mono ?_ ?_ hc
  · rintro r h' ⟨v, X', y', I', J', rfl, rfl, hp⟩
    simp only [s198_7, s198_8, s198_9, s198_18, s198_19, a_72, Option.toList_some, Option.toList_none, List.cons_append, List.nil_append, List.append_nil, ip_on_some, true_and, and_true, if_true, if_false, not_true_eq_false, not_false_eq_true, decide_true, true_or, or_true, or_self, Bool.false_eq_true]
    simpa using hp
  · rintro E h' ⟨X', y', I', J', rfl, hp⟩
    rcases hp with ⟨rfl, hp⟩ | ⟨rfl, hp⟩
    · rw [show ip_hd 2 198 4 "java/lang/IllegalArgumentException" = some (some (13, 3)) from by decide +kernel]
      exact h198_13.mpr hp
    · rw [show ip_hd 2 198 4 "java/lang/IllegalStateException" = some (some (16, 3)) from by decide +kernel]
      exact h198_16.mpr hp
theorem h199_12 {x0 : Nat}  {x1 : Nat} : ip_WP 199 12 [some (.ref x0), some (.ref x1), none] [] (G, F, I, J) b post px ↔ post (some (.int 1)) (G, F, I, J) := (ip_s_iconst (S := []) f199_12 (by decide : Int32.ofInt 1 = (1 : Int32))).trans (ip_rt_iff ((ip_st_of f199_13).trans rfl))
theorem lw_199  (hb : ip_bud 3 b = true) (hc : ip_WP 3 0 [some (.ref 0)] [] (g0, fld X y, I, J) (1, 6) (fun r h' => ∃ v X' y' I' J', r = some (.int v) ∧ h' = (g0, fld X' y', I', J') ∧ post (some (.int 0)) (g0, fld X' y', I', ip_up J' 72 0 v.toInt64)) (fun E h' => ∃ X' y' I' J', h' = (g0, fld X' y', I', J') ∧ ((E = "java/lang/IllegalArgumentException" ∧ post (some (.int 1)) (g0, fld X' y', I', J'))))) : ip_WP 199 0 [some (.ref 0), some (.ref 72), none] [] (g0, fld X y, I, J) b post px := by
  simp only [s199_0, s199_1, s199_2, s199_3, o_0, hb, true_and]
  refine ip_WP_mono ?_ ?_ hc
  · rintro r h' ⟨v, X', y', I', J', rfl, rfl, hp⟩
    simp only [s199_6, s199_7, s199_8, s199_14, s199_15, a_72, Option.toList_some, Option.toList_none, List.cons_append, List.nil_append, List.append_nil, ip_on_some, true_and, and_true, if_true, if_false, not_true_eq_false, not_false_eq_true, decide_true, true_or, or_true, or_self, Bool.false_eq_true]
    simpa using hp
  · rintro E h' ⟨X', y', I', J', rfl, hp⟩
    obtain ⟨rfl, hp⟩ := hp
    rw [show ip_hd 3 199 3 "java/lang/IllegalArgumentException" = some (some (12, 2)) from by decide +kernel]
    exact h199_12.mpr hp
theorem h200_13 {x0 : Nat} {x1 : Int32} {x2 : Nat} : ip_WP 200 13 [some (.ref x0), some (.int x1), some (.ref x2), none] [] (G, F, I, J) b post px ↔ post (some (.int 1)) (G, F, I, J) := (ip_s_iconst (S := []) f200_13 (by decide : Int32.ofInt 1 = (1 : Int32))).trans (ip_rt_iff ((ip_st_of f200_14).trans rfl))
theorem lw_200 {p1 : Int32} (hb : ip_bud 4 b = true) (hc : ip_WP 4 0 [some (.ref 0), some (.int p1)] [] (g0, fld X y, I, J) (1, 6) (fun r h' => ∃ v X' y' I' J', r = some (.int v) ∧ h' = (g0, fld X' y', I', J') ∧ post (some (.int 0)) (g0, fld X' y', I', ip_up J' 72 0 v.toInt64)) (fun E h' => ∃ X' y' I' J', h' = (g0, fld X' y', I', J') ∧ ((E = "java/lang/IndexOutOfBoundsException" ∧ post (some (.int 1)) (g0, fld X' y', I', J'))))) : ip_WP 200 0 [some (.ref 0), some (.int p1), some (.ref 72), none] [] (g0, fld X y, I, J) b post px := by
  simp only [s200_0, s200_1, s200_2, s200_3, s200_4, o_0, hb, true_and]
  refine ip_WP_mono ?_ ?_ hc
  · rintro r h' ⟨v, X', y', I', J', rfl, rfl, hp⟩
    simp only [s200_7, s200_8, s200_9, s200_15, s200_16, a_72, Option.toList_some, Option.toList_none, List.cons_append, List.nil_append, List.append_nil, ip_on_some, true_and, and_true, if_true, if_false, not_true_eq_false, not_false_eq_true, decide_true, true_or, or_true, or_self, Bool.false_eq_true]
    simpa using hp
  · rintro E h' ⟨X', y', I', J', rfl, hp⟩
    obtain ⟨rfl, hp⟩ := hp
    rw [show ip_hd 4 200 4 "java/lang/IndexOutOfBoundsException" = some (some (13, 3)) from by decide +kernel]
    exact h200_13.mpr hp
theorem h201_15 {x0 : Nat} {x1 : Int32} {x2 : Int32} {x3 : Nat} : ip_WP 201 15 [some (.ref x0), some (.int x1), some (.int x2), some (.ref x3), none] [] (G, F, I, J) b post px ↔ post (some (.int 1)) (G, F, I, J) := (ip_s_iconst (S := []) f201_15 (by decide : Int32.ofInt 1 = (1 : Int32))).trans (ip_rt_iff ((ip_st_of f201_16).trans rfl))
theorem lw_201 {p1 p2 : Int32} (hb : ip_bud 5 b = true) (hc : ip_WP 5 0 [some (.ref 0), some (.int p1), some (.int p2)] [] (g0, fld X y, I, J) (2, 12) (fun r h' => ∃ v X' y' I' J', r = some (.int v) ∧ h' = (g0, fld X' y', I', J') ∧ post (some (.int 0)) (g0, fld X' y', I', ip_up J' 72 0 v.toInt64)) (fun E h' => ∃ X' y' I' J', h' = (g0, fld X' y', I', J') ∧ ((E = "java/lang/IndexOutOfBoundsException" ∧ post (some (.int 1)) (g0, fld X' y', I', J'))))) : ip_WP 201 0 [some (.ref 0), some (.int p1), some (.int p2), some (.ref 72), none] [] (g0, fld X y, I, J) b post px := by
  simp only [s201_0, s201_1, s201_2, s201_3, s201_4, s201_5, o_0, hb, true_and]
  refine ip_WP_mono ?_ ?_ hc
  · rintro r h' ⟨v, X', y', I', J', rfl, rfl, hp⟩
    simp only [s201_8, s201_9, s201_10, s201_17, s201_18, a_72, Option.toList_some, Option.toList_none, List.cons_append, List.nil_append, List.append_nil, ip_on_some, true_and, and_true, if_true, if_false, not_true_eq_false, not_false_eq_true, decide_true, true_or, or_true, or_self, Bool.false_eq_true]
    simpa using hp
  · rintro E h' ⟨X', y', I', J', rfl, hp⟩
    obtain ⟨rfl, hp⟩ := hp
    rw [show ip_hd 5 201 5 "java/lang/IndexOutOfBoundsException" = some (some (15, 4)) from by decide +kernel]
    exact h201_15.mpr hp
theorem h202_13 {x0 : Nat} {x1 : Int32} {x2 : Nat} : ip_WP 202 13 [some (.ref x0), some (.int x1), some (.ref x2), none] [] (G, F, I, J) b post px ↔ post (some (.int 1)) (G, F, I, J) := (ip_s_iconst (S := []) f202_13 (by decide : Int32.ofInt 1 = (1 : Int32))).trans (ip_rt_iff ((ip_st_of f202_14).trans rfl))
theorem lw_202 {p1 : Int32} (hb : ip_bud 6 b = true) (hc : ip_WP 6 0 [some (.ref 0), some (.int p1)] [] (g0, fld X y, I, J) (1, 6) (fun r h' => ∃ v X' y' I' J', r = some (.int v) ∧ h' = (g0, fld X' y', I', J') ∧ post (some (.int 0)) (g0, fld X' y', I', ip_up J' 72 0 v.toInt64)) (fun E h' => ∃ X' y' I' J', h' = (g0, fld X' y', I', J') ∧ ((E = "java/lang/IndexOutOfBoundsException" ∧ post (some (.int 1)) (g0, fld X' y', I', J'))))) : ip_WP 202 0 [some (.ref 0), some (.int p1), some (.ref 72), none] [] (g0, fld X y, I, J) b post px := by
  simp only [s202_0, s202_1, s202_2, s202_3, s202_4, o_0, hb, true_and]
  refine ip_WP_mono ?_ ?_ hc
  · rintro r h' ⟨v, X', y', I', J', rfl, rfl, hp⟩
    simp only [s202_7, s202_8, s202_9, s202_15, s202_16, a_72, Option.toList_some, Option.toList_none, List.cons_append, List.nil_append, List.append_nil, ip_on_some, true_and, and_true, if_true, if_false, not_true_eq_false, not_false_eq_true, decide_true, true_or, or_true, or_self, Bool.false_eq_true]
    simpa using hp
  · rintro E h' ⟨X', y', I', J', rfl, hp⟩
    obtain ⟨rfl, hp⟩ := hp
    rw [show ip_hd 6 202 4 "java/lang/IndexOutOfBoundsException" = some (some (13, 3)) from by decide +kernel]
    exact h202_13.mpr hp
theorem h203_15 {x0 : Nat} {x1 : Int32} {x2 : Int32} {x3 : Nat} : ip_WP 203 15 [some (.ref x0), some (.int x1), some (.int x2), some (.ref x3), none] [] (G, F, I, J) b post px ↔ post (some (.int 1)) (G, F, I, J) := (ip_s_iconst (S := []) f203_15 (by decide : Int32.ofInt 1 = (1 : Int32))).trans (ip_rt_iff ((ip_st_of f203_16).trans rfl))
theorem lw_203 {p1 p2 : Int32} (hb : ip_bud 7 b = true) (hc : ip_WP 7 0 [some (.ref 0), some (.int p1), some (.int p2)] [] (g0, fld X y, I, J) (2, 12) (fun r h' => ∃ v X' y' I' J', r = some (.int v) ∧ h' = (g0, fld X' y', I', J') ∧ post (some (.int 0)) (g0, fld X' y', I', ip_up J' 72 0 v.toInt64)) (fun E h' => ∃ X' y' I' J', h' = (g0, fld X' y', I', J') ∧ ((E = "java/lang/IndexOutOfBoundsException" ∧ post (some (.int 1)) (g0, fld X' y', I', J'))))) : ip_WP 203 0 [some (.ref 0), some (.int p1), some (.int p2), some (.ref 72), none] [] (g0, fld X y, I, J) b post px := by
  simp only [s203_0, s203_1, s203_2, s203_3, s203_4, s203_5, o_0, hb, true_and]
  refine ip_WP_mono ?_ ?_ hc
  · rintro r h' ⟨v, X', y', I', J', rfl, rfl, hp⟩
    simp only [s203_8, s203_9, s203_10, s203_17, s203_18, a_72, Option.toList_some, Option.toList_none, List.cons_append, List.nil_append, List.append_nil, ip_on_some, true_and, and_true, if_true, if_false, not_true_eq_false, not_false_eq_true, decide_true, true_or, or_true, or_self, Bool.false_eq_true]
    simpa using hp
  · rintro E h' ⟨X', y', I', J', rfl, hp⟩
    obtain ⟨rfl, hp⟩ := hp
    rw [show ip_hd 7 203 5 "java/lang/IndexOutOfBoundsException" = some (some (15, 4)) from by decide +kernel]
    exact h203_15.mpr hp
theorem h204_15 {x0 : Nat} {x1 : Int32} {x2 : Int32} {x3 : Nat} : ip_WP 204 15 [some (.ref x0), some (.int x1), some (.int x2), some (.ref x3), none] [] (G, F, I, J) b post px ↔ post (some (.int 1)) (G, F, I, J) := (ip_s_iconst (S := []) f204_15 (by decide : Int32.ofInt 1 = (1 : Int32))).trans (ip_rt_iff ((ip_st_of f204_16).trans rfl))
theorem lw_204 {p1 p2 : Int32} (hb : ip_bud 8 b = true) (hc : ip_WP 8 0 [some (.ref 0), some (.int p1), some (.int p2)] [] (g0, fld X y, I, J) (2, 12) (fun r h' => ∃ v X' y' I' J', r = some (.int v) ∧ h' = (g0, fld X' y', I', J') ∧ post (some (.int 0)) (g0, fld X' y', I', ip_up J' 72 0 v.toInt64)) (fun E h' => ∃ X' y' I' J', h' = (g0, fld X' y', I', J') ∧ ((E = "java/lang/IndexOutOfBoundsException" ∧ post (some (.int 1)) (g0, fld X' y', I', J'))))) : ip_WP 204 0 [some (.ref 0), some (.int p1), some (.int p2), some (.ref 72), none] [] (g0, fld X y, I, J) b post px := by
  simp only [s204_0, s204_1, s204_2, s204_3, s204_4, s204_5, o_0, hb, true_and]
  refine ip_WP_mono ?_ ?_ hc
  · rintro r h' ⟨v, X', y', I', J', rfl, rfl, hp⟩
    simp only [s204_8, s204_9, s204_10, s204_17, s204_18, a_72, Option.toList_some, Option.toList_none, List.cons_append, List.nil_append, List.append_nil, ip_on_some, true_and, and_true, if_true, if_false, not_true_eq_false, not_false_eq_true, decide_true, true_or, or_true, or_self, Bool.false_eq_true]
    simpa using hp
  · rintro E h' ⟨X', y', I', J', rfl, hp⟩
    obtain ⟨rfl, hp⟩ := hp
    rw [show ip_hd 8 204 5 "java/lang/IndexOutOfBoundsException" = some (some (15, 4)) from by decide +kernel]
    exact h204_15.mpr hp
theorem h205_22 {x0 : Nat} {x1 : Int32} {x2 : Int32} {x3 : Nat} : ip_WP 205 22 [some (.ref x0), some (.int x1), some (.int x2), some (.ref x3), none] [] (G, F, I, J) b post px ↔ post (some (.int 1)) (G, F, I, J) := (ip_s_iconst (S := []) f205_22 (by decide : Int32.ofInt 1 = (1 : Int32))).trans (ip_rt_iff ((ip_st_of f205_23).trans rfl))
theorem lw_205 {p1 p2 : Int32} (hb : ip_bud 9 b = true) (hc : ip_WP 9 0 [some (.ref 0), some (.int p1), some (.int p2)] [] (g0, fld X y, I, J) (2, 12) (fun r h' => ∃ v X' y' I' J', r = some (.int v) ∧ h' = (g0, fld X' y', I', J') ∧ post (some (.int 0)) (g0, fld X' y', I', ip_up J' 72 0 (if v = 0 then 0 else 1 : Int64))) (fun E h' => ∃ X' y' I' J', h' = (g0, fld X' y', I', J') ∧ ((E = "java/lang/IndexOutOfBoundsException" ∧ post (some (.int 1)) (g0, fld X' y', I', J'))))) : ip_WP 205 0 [some (.ref 0), some (.int p1), some (.int p2), some (.ref 72), none] [] (g0, fld X y, I, J) b post px := by
  simp only [s205_0, s205_1, s205_2, s205_3, s205_4, s205_5, o_0, hb, true_and]
  refine ip_WP_mono ?_ ?_ hc
  · rintro r h' ⟨v, X', y', I', J', rfl, rfl, hp⟩
    by_cases hv : v = 0
    · rw [if_pos hv] at hp
      simp only [s205_8, s205_11, s205_12, s205_15, s205_16, s205_17, s205_24, s205_25, a_72, hv, Option.toList_some, Option.toList_none, List.cons_append, List.nil_append, List.append_nil, ip_on_some, true_and, and_true, if_true, if_false, not_true_eq_false, not_false_eq_true, decide_true, true_or, or_true, or_self, Bool.false_eq_true]
      simpa using hp
    · rw [if_neg hv] at hp
      simp only [s205_8, s205_11, s205_12, s205_15, s205_16, s205_17, s205_24, s205_25, a_72, hv, Option.toList_some, Option.toList_none, List.cons_append, List.nil_append, List.append_nil, ip_on_some, true_and, and_true, if_true, if_false, not_true_eq_false, not_false_eq_true, decide_true, true_or, or_true, or_self, Bool.false_eq_true]
      simpa using hp
  · rintro E h' ⟨X', y', I', J', rfl, hp⟩
    obtain ⟨rfl, hp⟩ := hp
    rw [show ip_hd 9 205 5 "java/lang/IndexOutOfBoundsException" = some (some (22, 4)) from by decide +kernel]
    exact h205_22.mpr hp
theorem h206_15 {x0 : Nat} {x1 : Int32} {x2 : Int32} {x3 : Nat} : ip_WP 206 15 [some (.ref x0), some (.int x1), some (.int x2), some (.ref x3), none] [] (G, F, I, J) b post px ↔ post (some (.int 1)) (G, F, I, J) := (ip_s_iconst (S := []) f206_15 (by decide : Int32.ofInt 1 = (1 : Int32))).trans (ip_rt_iff ((ip_st_of f206_16).trans rfl))
theorem lw_206 {p1 p2 : Int32} (hb : ip_bud 11 b = true) (hc : ip_WP 11 0 [some (.ref 0), some (.int p1), some (.int p2)] [] (g0, fld X y, I, J) (2, 12) (fun r h' => ∃ v X' y' I' J', r = some (.int v) ∧ h' = (g0, fld X' y', I', J') ∧ post (some (.int 0)) (g0, fld X' y', I', ip_up J' 72 0 v.toInt64)) (fun E h' => ∃ X' y' I' J', h' = (g0, fld X' y', I', J') ∧ ((E = "java/lang/IndexOutOfBoundsException" ∧ post (some (.int 1)) (g0, fld X' y', I', J'))))) : ip_WP 206 0 [some (.ref 0), some (.int p1), some (.int p2), some (.ref 72), none] [] (g0, fld X y, I, J) b post px := by
  simp only [s206_0, s206_1, s206_2, s206_3, s206_4, s206_5, o_0, hb, true_and]
  refine ip_WP_mono ?_ ?_ hc
  · rintro r h' ⟨v, X', y', I', J', rfl, rfl, hp⟩
    simp only [s206_8, s206_9, s206_10, s206_17, s206_18, a_72, Option.toList_some, Option.toList_none, List.cons_append, List.nil_append, List.append_nil, ip_on_some, true_and, and_true, if_true, if_false, not_true_eq_false, not_false_eq_true, decide_true, true_or, or_true, or_self, Bool.false_eq_true]
    simpa using hp
  · rintro E h' ⟨X', y', I', J', rfl, hp⟩
    obtain ⟨rfl, hp⟩ := hp
    rw [show ip_hd 11 206 5 "java/lang/IndexOutOfBoundsException" = some (some (15, 4)) from by decide +kernel]
    exact h206_15.mpr hp
theorem h207_15 {x0 : Nat} {x1 : Int32} {x2 : Int32} {x3 : Nat} : ip_WP 207 15 [some (.ref x0), some (.int x1), some (.int x2), some (.ref x3), none] [] (G, F, I, J) b post px ↔ post (some (.int 1)) (G, F, I, J) := (ip_s_iconst (S := []) f207_15 (by decide : Int32.ofInt 1 = (1 : Int32))).trans (ip_rt_iff ((ip_st_of f207_16).trans rfl))
theorem lw_207 {p1 p2 : Int32} (hb : ip_bud 12 b = true) (hc : ip_WP 12 0 [some (.ref 0), some (.int p1), some (.int p2)] [] (g0, fld X y, I, J) (2, 12) (fun r h' => ∃ v X' y' I' J', r = some (.int v) ∧ h' = (g0, fld X' y', I', J') ∧ post (some (.int 0)) (g0, fld X' y', I', ip_up J' 72 0 v.toInt64)) (fun E h' => ∃ X' y' I' J', h' = (g0, fld X' y', I', J') ∧ ((E = "java/lang/IndexOutOfBoundsException" ∧ post (some (.int 1)) (g0, fld X' y', I', J'))))) : ip_WP 207 0 [some (.ref 0), some (.int p1), some (.int p2), some (.ref 72), none] [] (g0, fld X y, I, J) b post px := by
  simp only [s207_0, s207_1, s207_2, s207_3, s207_4, s207_5, o_0, hb, true_and]
  refine ip_WP_mono ?_ ?_ hc
  · rintro r h' ⟨v, X', y', I', J', rfl, rfl, hp⟩
    simp only [s207_8, s207_9, s207_10, s207_17, s207_18, a_72, Option.toList_some, Option.toList_none, List.cons_append, List.nil_append, List.append_nil, ip_on_some, true_and, and_true, if_true, if_false, not_true_eq_false, not_false_eq_true, decide_true, true_or, or_true, or_self, Bool.false_eq_true]
    simpa using hp
  · rintro E h' ⟨X', y', I', J', rfl, hp⟩
    obtain ⟨rfl, hp⟩ := hp
    rw [show ip_hd 12 207 5 "java/lang/IndexOutOfBoundsException" = some (some (15, 4)) from by decide +kernel]
    exact h207_15.mpr hp
theorem h208_13 {x0 : Nat} {x1 : Int32} {x2 : Nat} : ip_WP 208 13 [some (.ref x0), some (.int x1), some (.ref x2), none] [] (G, F, I, J) b post px ↔ post (some (.int 1)) (G, F, I, J) := (ip_s_iconst (S := []) f208_13 (by decide : Int32.ofInt 1 = (1 : Int32))).trans (ip_rt_iff ((ip_st_of f208_14).trans rfl))
theorem lw_208 {p1 : Int32} (hb : ip_bud 14 b = true) (hc : ip_WP 14 0 [some (.ref 0), some (.int p1)] [] (g0, fld X y, I, J) (1, 6) (fun r h' => ∃ v X' y' I' J', r = some (.int v) ∧ h' = (g0, fld X' y', I', J') ∧ post (some (.int 0)) (g0, fld X' y', I', ip_up J' 72 0 v.toInt64)) (fun E h' => ∃ X' y' I' J', h' = (g0, fld X' y', I', J') ∧ ((E = "java/lang/IndexOutOfBoundsException" ∧ post (some (.int 1)) (g0, fld X' y', I', J'))))) : ip_WP 208 0 [some (.ref 0), some (.int p1), some (.ref 72), none] [] (g0, fld X y, I, J) b post px := by
  simp only [s208_0, s208_1, s208_2, s208_3, s208_4, o_0, hb, true_and]
  refine ip_WP_mono ?_ ?_ hc
  · rintro r h' ⟨v, X', y', I', J', rfl, rfl, hp⟩
    simp only [s208_7, s208_8, s208_9, s208_15, s208_16, a_72, Option.toList_some, Option.toList_none, List.cons_append, List.nil_append, List.append_nil, ip_on_some, true_and, and_true, if_true, if_false, not_true_eq_false, not_false_eq_true, decide_true, true_or, or_true, or_self, Bool.false_eq_true]
    simpa using hp
  · rintro E h' ⟨X', y', I', J', rfl, hp⟩
    obtain ⟨rfl, hp⟩ := hp
    rw [show ip_hd 14 208 4 "java/lang/IndexOutOfBoundsException" = some (some (13, 3)) from by decide +kernel]
    exact h208_13.mpr hp
end
