/-! CoreText$Printer (more) -/
def kAt (X : Nat → Nat → Int32) (J : Nat → Nat → Int64) (c : Nat) (v : Int32) : Int64 := if 0 ≤ v ∧ v < X c 1 then J (c + 1) (v.toNatClampNeg) else 0
section
variable (X : Nat → Nat → Int32) (I : Nat → Nat → Int32) (J : Nat → Nat → Int64)
noncomputable def clsB : BL := (List.range ((X 6 1).toNatClampNeg)).flatMap (fun i => (if i = 0 then str 6 else str 7) ++ nmB (kAt X J 6 (nI i)))
def clsE : BL := if 0 < X 6 1 then str 20 else []
noncomputable def stgB (s : Nat) : BL := str 8 ++ (nmB (kAt X J 8 (nI s)) ++ (tkB (fun t => decide (I 21 t = nI s)) (str 9) (str 7) (fun t => str (31 + t)) 7 0 true ++ str 20))
noncomputable def trtB (i : Nat) : BL := str 10 ++ (nmB (kAt X J 6 (nI i)) ++ (str 11 ++ (nbB (latO I (nI i)) ++ (str 20 ++ ((if I 17 i = -1 then [] else str 12 ++ (nmB (kAt X J 6 (nI i)) ++ (str 13 ++ (nmB (kAt X J 8 (I 17 i)) ++ str 20)))) ++ (if I 19 i = 0 then [] else str 14 ++ (nmB (kAt X J 6 (nI i)) ++ str 20)))))))
noncomputable def pthB (i : Nat) : BL := str 15 ++ (nmB (kAt X J 8 (I 23 i)) ++ (str 13 ++ (nmB (kAt X J 8 (I 25 i)) ++ str 20)))
noncomputable def queB (i : Nat) : BL := str 16 ++ (nmB (kAt X J 10 (nI i)) ++ (str 11 ++ (nbB (I 27 i) ++ ((if I 29 i = -1 then [] else str 17 ++ nmB (kAt X J 8 (I 29 i))) ++ str 20))))
noncomputable def prtB (i : Nat) : BL := str 18 ++ (nmB (kAt X J 12 (nI i)) ++ (tkB (fun k => bitP (I 31 i) (nI k)) (str 19) (str 7) (fun k => nmB (kAt X J 6 (nI k))) ((X 6 1).toNatClampNeg) 0 true ++ str 20))
/-- all that is printed -/
noncomputable def prnB : BL := (((((clsB X J ++ clsE X) ++ (List.range ((X 8 1).toNatClampNeg)).flatMap (stgB X I J)) ++ (List.range ((X 6 1).toNatClampNeg)).flatMap (trtB X I J)) ++ (List.range ((X 5 13).toNatClampNeg)).flatMap (pthB X I J)) ++ (List.range ((X 10 1).toNatClampNeg)).flatMap (queB X I J)) ++ (List.range ((X 12 1).toNatClampNeg)).flatMap (prtB X I J)
end
theorem len_l {a b : BL} {n : Nat} (h : (a ++ b).length ≤ n) : a.length ≤ n := by
  rw [List.length_append] at h
  omega
section
variable {G : List ip_K} {F : Nat → Nat → Value} {I : Nat → Nat → Int32} {J : Nat → Nat → Int64} {b : ip_B} {post : Option Value → ip_H → Prop} {px : String → ip_H → Prop}
theorem ct_Nm_keyAt3 {k a n : Nat} {x v : Int32} (hN : cNm G F k a n) (hs : F k 1 = .int x) (hx : x ≤ nI n) : ip_WP 147 0 [some (.ref k), some (.int v)] [] (G, F, I, J) b post px ↔ post (some (.long (if 0 ≤ v ∧ v < x then J a (v.toNatClampNeg) else 0))) (G, F, I, J) := by
  obtain ⟨h1, h2, h3, h4⟩ := hN
  simp only [s147_0, s147_1, s147_4, s147_5, s147_6, s147_9, s147_12, s147_13, s147_16, s147_17, s147_18, s147_21, s147_22, ip_isO_eq h1, h2, hs, ip_inA_eq h3, true_and]
  by_cases c0 : v < 0
  · rw [if_pos c0, if_neg (fun q => Int32.not_le.mpr c0 q.1)]
  · have c0' : 0 ≤ v := Int32.not_lt.mp c0
    rw [if_neg c0]
    by_cases c1 : x ≤ v
    · rw [if_pos c1, if_neg (fun q => Int32.not_le.mpr q.2 c1)]
    · have hlt : v < x := Int32.not_le.mp c1
      rw [if_neg c1, if_pos ⟨c0', hlt⟩]
      have hin : v.toNatClampNeg < n := Nat.not_le.mp (fun q => cl_in c0' (Int32.lt_of_lt_of_le hlt hx) h4 (Or.inr q))
      simp [hin, c0]
end
section
variable {X : Nat → Nat → Int32} {y : Int64} {I : Nat → Nat → Int32} {J : Nat → Nat → Int64} {b : ip_B} {post : Option Value → ip_H → Prop} {px : String → ip_H → Prop}
theorem pr_name6 (hb : Bd X) {l : BL} {v : Int32} (hl : (l ++ nmB (kAt X J 6 v)).length ≤ 4160) (hk : ∀ h, CP X y I J (l ++ nmB (kAt X J 6 v)) h → post none h) : ∀ h, CP X y I J l h → ip_WP 157 0 [some (.ref 36), some (.ref 6), some (.int v), none, none, none, none] [] h b post px := by
  intro h hC
  obtain ⟨X', I', rfl, h1, h2, hX, hI⟩ := id hC
  have hb' : X' 6 1 ≤ nI 12 := by rw [hX 6 (by decide)]; exact hb.b6
  have hk' := fun (b : ip_B) (post : Option Value → ip_H → Prop) (px : String → ip_H → Prop) => ct_Nm_keyAt3 (I := I') (J := J) (b := b) (post := post) (px := px) (v := v) (hN_6 (X := X') (y := y)) rfl hb'
  have e : (if 0 ≤ v ∧ v < X' 6 1 then J 7 (v.toNatClampNeg) else 0) = kAt X J 6 v := by rw [hX 6 (by decide)]; rfl
  simp only [s157_0, s157_1, s157_2, s157_5, s157_6, s157_7, o_6, hk', e, Option.toList_some, Option.toList_none, List.cons_append, List.nil_append, List.append_nil, ip_on_some, true_and, and_true, if_true, if_false, not_true_eq_false, not_false_eq_true, decide_true, true_or, or_true, or_self, Bool.false_eq_true]
  rw [← nI_0]
  rw [nmB_eq] at hl hk
  exact pr_dgs 12 0 _ none l rfl hl hk _ hC
theorem pr_name8 (hb : Bd X) {l : BL} {v : Int32} (hl : (l ++ nmB (kAt X J 8 v)).length ≤ 4160) (hk : ∀ h, CP X y I J (l ++ nmB (kAt X J 8 v)) h → post none h) : ∀ h, CP X y I J l h → ip_WP 157 0 [some (.ref 36), some (.ref 8), some (.int v), none, none, none, none] [] h b post px := by
  intro h hC
  obtain ⟨X', I', rfl, h1, h2, hX, hI⟩ := id hC
  have hb' : X' 8 1 ≤ nI 12 := by rw [hX 8 (by decide)]; exact hb.b8
  have hk' := fun (b : ip_B) (post : Option Value → ip_H → Prop) (px : String → ip_H → Prop) => ct_Nm_keyAt3 (I := I') (J := J) (b := b) (post := post) (px := px) (v := v) (hN_8 (X := X') (y := y)) rfl hb'
  have e : (if 0 ≤ v ∧ v < X' 8 1 then J 9 (v.toNatClampNeg) else 0) = kAt X J 8 v := by rw [hX 8 (by decide)]; rfl
  simp only [s157_0, s157_1, s157_2, s157_5, s157_6, s157_7, o_8, hk', e, Option.toList_some, Option.toList_none, List.cons_append, List.nil_append, List.append_nil, ip_on_some, true_and, and_true, if_true, if_false, not_true_eq_false, not_false_eq_true, decide_true, true_or, or_true, or_self, Bool.false_eq_true]
  rw [← nI_0]
  rw [nmB_eq] at hl hk
  exact pr_dgs 12 0 _ none l rfl hl hk _ hC
theorem pr_name10 (hb : Bd X) {l : BL} {v : Int32} (hl : (l ++ nmB (kAt X J 10 v)).length ≤ 4160) (hk : ∀ h, CP X y I J (l ++ nmB (kAt X J 10 v)) h → post none h) : ∀ h, CP X y I J l h → ip_WP 157 0 [some (.ref 36), some (.ref 10), some (.int v), none, none, none, none] [] h b post px := by
  intro h hC
  obtain ⟨X', I', rfl, h1, h2, hX, hI⟩ := id hC
  have hb' : X' 10 1 ≤ nI 8 := by rw [hX 10 (by decide)]; exact hb.b10
  have hk' := fun (b : ip_B) (post : Option Value → ip_H → Prop) (px : String → ip_H → Prop) => ct_Nm_keyAt3 (I := I') (J := J) (b := b) (post := post) (px := px) (v := v) (hN_10 (X := X') (y := y)) rfl hb'
  have e : (if 0 ≤ v ∧ v < X' 10 1 then J 11 (v.toNatClampNeg) else 0) = kAt X J 10 v := by rw [hX 10 (by decide)]; rfl
  simp only [s157_0, s157_1, s157_2, s157_5, s157_6, s157_7, o_10, hk', e, Option.toList_some, Option.toList_none, List.cons_append, List.nil_append, List.append_nil, ip_on_some, true_and, and_true, if_true, if_false, not_true_eq_false, not_false_eq_true, decide_true, true_or, or_true, or_self, Bool.false_eq_true]
  rw [← nI_0]
  rw [nmB_eq] at hl hk
  exact pr_dgs 12 0 _ none l rfl hl hk _ hC
theorem pr_name12 (hb : Bd X) {l : BL} {v : Int32} (hl : (l ++ nmB (kAt X J 12 v)).length ≤ 4160) (hk : ∀ h, CP X y I J (l ++ nmB (kAt X J 12 v)) h → post none h) : ∀ h, CP X y I J l h → ip_WP 157 0 [some (.ref 36), some (.ref 12), some (.int v), none, none, none, none] [] h b post px := by
  intro h hC
  obtain ⟨X', I', rfl, h1, h2, hX, hI⟩ := id hC
  have hb' : X' 12 1 ≤ nI 8 := by rw [hX 12 (by decide)]; exact hb.b12
  have hk' := fun (b : ip_B) (post : Option Value → ip_H → Prop) (px : String → ip_H → Prop) => ct_Nm_keyAt3 (I := I') (J := J) (b := b) (post := post) (px := px) (v := v) (hN_12 (X := X') (y := y)) rfl hb'
  have e : (if 0 ≤ v ∧ v < X' 12 1 then J 13 (v.toNatClampNeg) else 0) = kAt X J 12 v := by rw [hX 12 (by decide)]; rfl
  simp only [s157_0, s157_1, s157_2, s157_5, s157_6, s157_7, o_12, hk', e, Option.toList_some, Option.toList_none, List.cons_append, List.nil_append, List.append_nil, ip_on_some, true_and, and_true, if_true, if_false, not_true_eq_false, not_false_eq_true, decide_true, true_or, or_true, or_self, Bool.false_eq_true]
  rw [← nI_0]
  rw [nmB_eq] at hl hk
  exact pr_dgs 12 0 _ none l rfl hl hk _ hC
theorem pr_task {t : Nat} (ht : t < 7) {h : ip_H} : ip_WP 195 0 [some (.int (nI t))] [] h b post px ↔ post (some (.ref (1000001 + (31 + t)))) h := by
  obtain ⟨G, F, I, J⟩ := h
  have hc : t = 0 ∨ t = 1 ∨ t = 2 ∨ t = 3 ∨ t = 4 ∨ t = 5 ∨ t = 6 := by omega
  rcases hc with rfl | rfl | rfl | rfl | rfl | rfl | rfl
  · simp only [s195_0, s195_1, s195_40, s195_42, s195_43, s195_45, s195_46, s195_48, s195_49, s195_51, s195_52, s195_54, s195_55, s195_57, s195_58, s195_60, show nI 0 = 0 from rfl, qe_m1_0, qe_m1_1, qe_m1_2, qe_m1_3, qe_m1_4, qe_m1_5, qe_m1_6, qe_m1_7, qe_m1_8, qe_0_m1, qe_0_1, qe_0_2, qe_0_3, qe_0_4, qe_0_5, qe_0_6, qe_0_7, qe_0_8, qe_1_m1, qe_1_0, qe_1_2, qe_1_3, qe_1_4, qe_1_5, qe_1_6, qe_1_7, qe_1_8, qe_2_m1, qe_2_0, qe_2_1, qe_2_3, qe_2_4, qe_2_5, qe_2_6, qe_2_7, qe_2_8, qe_3_m1, qe_3_0, qe_3_1, qe_3_2, qe_3_4, qe_3_5, qe_3_6, qe_3_7, qe_3_8, qe_4_m1, qe_4_0, qe_4_1, qe_4_2, qe_4_3, qe_4_5, qe_4_6, qe_4_7, qe_4_8, qe_5_m1, qe_5_0, qe_5_1, qe_5_2, qe_5_3, qe_5_4, qe_5_6, qe_5_7, qe_5_8, qe_6_m1, qe_6_0, qe_6_1, qe_6_2, qe_6_3, qe_6_4, qe_6_5, qe_6_7, qe_6_8, qe_7_m1, qe_7_0, qe_7_1, qe_7_2, qe_7_3, qe_7_4, qe_7_5, qe_7_6, qe_7_8, qe_8_m1, qe_8_0, qe_8_1, qe_8_2, qe_8_3, qe_8_4, qe_8_5, qe_8_6, qe_8_7, Option.toList_some, Option.toList_none, List.cons_append, List.nil_append, List.append_nil, ip_on_some, true_and, and_true, if_true, if_false, not_true_eq_false, not_false_eq_true, decide_true, true_or, or_true, or_self, Bool.false_eq_true]
  · simp only [s195_0, s195_1, s195_40, s195_42, s195_43, s195_45, s195_46, s195_48, s195_49, s195_51, s195_52, s195_54, s195_55, s195_57, s195_58, s195_60, show nI 1 = 1 from rfl, qe_m1_0, qe_m1_1, qe_m1_2, qe_m1_3, qe_m1_4, qe_m1_5, qe_m1_6, qe_m1_7, qe_m1_8, qe_0_m1, qe_0_1, qe_0_2, qe_0_3, qe_0_4, qe_0_5, qe_0_6, qe_0_7, qe_0_8, qe_1_m1, qe_1_0, qe_1_2, qe_1_3, qe_1_4, qe_1_5, qe_1_6, qe_1_7, qe_1_8, qe_2_m1, qe_2_0, qe_2_1, qe_2_3, qe_2_4, qe_2_5, qe_2_6, qe_2_7, qe_2_8, qe_3_m1, qe_3_0, qe_3_1, qe_3_2, qe_3_4, qe_3_5, qe_3_6, qe_3_7, qe_3_8, qe_4_m1, qe_4_0, qe_4_1, qe_4_2, qe_4_3, qe_4_5, qe_4_6, qe_4_7, qe_4_8, qe_5_m1, qe_5_0, qe_5_1, qe_5_2, qe_5_3, qe_5_4, qe_5_6, qe_5_7, qe_5_8, qe_6_m1, qe_6_0, qe_6_1, qe_6_2, qe_6_3, qe_6_4, qe_6_5, qe_6_7, qe_6_8, qe_7_m1, qe_7_0, qe_7_1, qe_7_2, qe_7_3, qe_7_4, qe_7_5, qe_7_6, qe_7_8, qe_8_m1, qe_8_0, qe_8_1, qe_8_2, qe_8_3, qe_8_4, qe_8_5, qe_8_6, qe_8_7, Option.toList_some, Option.toList_none, List.cons_append, List.nil_append, List.append_nil, ip_on_some, true_and, and_true, if_true, if_false, not_true_eq_false, not_false_eq_true, decide_true, true_or, or_true, or_self, Bool.false_eq_true]
  · simp only [s195_0, s195_1, s195_40, s195_42, s195_43, s195_45, s195_46, s195_48, s195_49, s195_51, s195_52, s195_54, s195_55, s195_57, s195_58, s195_60, show nI 2 = 2 from rfl, qe_m1_0, qe_m1_1, qe_m1_2, qe_m1_3, qe_m1_4, qe_m1_5, qe_m1_6, qe_m1_7, qe_m1_8, qe_0_m1, qe_0_1, qe_0_2, qe_0_3, qe_0_4, qe_0_5, qe_0_6, qe_0_7, qe_0_8, qe_1_m1, qe_1_0, qe_1_2, qe_1_3, qe_1_4, qe_1_5, qe_1_6, qe_1_7, qe_1_8, qe_2_m1, qe_2_0, qe_2_1, qe_2_3, qe_2_4, qe_2_5, qe_2_6, qe_2_7, qe_2_8, qe_3_m1, qe_3_0, qe_3_1, qe_3_2, qe_3_4, qe_3_5, qe_3_6, qe_3_7, qe_3_8, qe_4_m1, qe_4_0, qe_4_1, qe_4_2, qe_4_3, qe_4_5, qe_4_6, qe_4_7, qe_4_8, qe_5_m1, qe_5_0, qe_5_1, qe_5_2, qe_5_3, qe_5_4, qe_5_6, qe_5_7, qe_5_8, qe_6_m1, qe_6_0, qe_6_1, qe_6_2, qe_6_3, qe_6_4, qe_6_5, qe_6_7, qe_6_8, qe_7_m1, qe_7_0, qe_7_1, qe_7_2, qe_7_3, qe_7_4, qe_7_5, qe_7_6, qe_7_8, qe_8_m1, qe_8_0, qe_8_1, qe_8_2, qe_8_3, qe_8_4, qe_8_5, qe_8_6, qe_8_7, Option.toList_some, Option.toList_none, List.cons_append, List.nil_append, List.append_nil, ip_on_some, true_and, and_true, if_true, if_false, not_true_eq_false, not_false_eq_true, decide_true, true_or, or_true, or_self, Bool.false_eq_true]
  · simp only [s195_0, s195_1, s195_40, s195_42, s195_43, s195_45, s195_46, s195_48, s195_49, s195_51, s195_52, s195_54, s195_55, s195_57, s195_58, s195_60, show nI 3 = 3 from rfl, qe_m1_0, qe_m1_1, qe_m1_2, qe_m1_3, qe_m1_4, qe_m1_5, qe_m1_6, qe_m1_7, qe_m1_8, qe_0_m1, qe_0_1, qe_0_2, qe_0_3, qe_0_4, qe_0_5, qe_0_6, qe_0_7, qe_0_8, qe_1_m1, qe_1_0, qe_1_2, qe_1_3, qe_1_4, qe_1_5, qe_1_6, qe_1_7, qe_1_8, qe_2_m1, qe_2_0, qe_2_1, qe_2_3, qe_2_4, qe_2_5, qe_2_6, qe_2_7, qe_2_8, qe_3_m1, qe_3_0, qe_3_1, qe_3_2, qe_3_4, qe_3_5, qe_3_6, qe_3_7, qe_3_8, qe_4_m1, qe_4_0, qe_4_1, qe_4_2, qe_4_3, qe_4_5, qe_4_6, qe_4_7, qe_4_8, qe_5_m1, qe_5_0, qe_5_1, qe_5_2, qe_5_3, qe_5_4, qe_5_6, qe_5_7, qe_5_8, qe_6_m1, qe_6_0, qe_6_1, qe_6_2, qe_6_3, qe_6_4, qe_6_5, qe_6_7, qe_6_8, qe_7_m1, qe_7_0, qe_7_1, qe_7_2, qe_7_3, qe_7_4, qe_7_5, qe_7_6, qe_7_8, qe_8_m1, qe_8_0, qe_8_1, qe_8_2, qe_8_3, qe_8_4, qe_8_5, qe_8_6, qe_8_7, Option.toList_some, Option.toList_none, List.cons_append, List.nil_append, List.append_nil, ip_on_some, true_and, and_true, if_true, if_false, not_true_eq_false, not_false_eq_true, decide_true, true_or, or_true, or_self, Bool.false_eq_true]
  · simp only [s195_0, s195_1, s195_40, s195_42, s195_43, s195_45, s195_46, s195_48, s195_49, s195_51, s195_52, s195_54, s195_55, s195_57, s195_58, s195_60, show nI 4 = 4 from rfl, qe_m1_0, qe_m1_1, qe_m1_2, qe_m1_3, qe_m1_4, qe_m1_5, qe_m1_6, qe_m1_7, qe_m1_8, qe_0_m1, qe_0_1, qe_0_2, qe_0_3, qe_0_4, qe_0_5, qe_0_6, qe_0_7, qe_0_8, qe_1_m1, qe_1_0, qe_1_2, qe_1_3, qe_1_4, qe_1_5, qe_1_6, qe_1_7, qe_1_8, qe_2_m1, qe_2_0, qe_2_1, qe_2_3, qe_2_4, qe_2_5, qe_2_6, qe_2_7, qe_2_8, qe_3_m1, qe_3_0, qe_3_1, qe_3_2, qe_3_4, qe_3_5, qe_3_6, qe_3_7, qe_3_8, qe_4_m1, qe_4_0, qe_4_1, qe_4_2, qe_4_3, qe_4_5, qe_4_6, qe_4_7, qe_4_8, qe_5_m1, qe_5_0, qe_5_1, qe_5_2, qe_5_3, qe_5_4, qe_5_6, qe_5_7, qe_5_8, qe_6_m1, qe_6_0, qe_6_1, qe_6_2, qe_6_3, qe_6_4, qe_6_5, qe_6_7, qe_6_8, qe_7_m1, qe_7_0, qe_7_1, qe_7_2, qe_7_3, qe_7_4, qe_7_5, qe_7_6, qe_7_8, qe_8_m1, qe_8_0, qe_8_1, qe_8_2, qe_8_3, qe_8_4, qe_8_5, qe_8_6, qe_8_7, Option.toList_some, Option.toList_none, List.cons_append, List.nil_append, List.append_nil, ip_on_some, true_and, and_true, if_true, if_false, not_true_eq_false, not_false_eq_true, decide_true, true_or, or_true, or_self, Bool.false_eq_true]
  · simp only [s195_0, s195_1, s195_40, s195_42, s195_43, s195_45, s195_46, s195_48, s195_49, s195_51, s195_52, s195_54, s195_55, s195_57, s195_58, s195_60, show nI 5 = 5 from rfl, qe_m1_0, qe_m1_1, qe_m1_2, qe_m1_3, qe_m1_4, qe_m1_5, qe_m1_6, qe_m1_7, qe_m1_8, qe_0_m1, qe_0_1, qe_0_2, qe_0_3, qe_0_4, qe_0_5, qe_0_6, qe_0_7, qe_0_8, qe_1_m1, qe_1_0, qe_1_2, qe_1_3, qe_1_4, qe_1_5, qe_1_6, qe_1_7, qe_1_8, qe_2_m1, qe_2_0, qe_2_1, qe_2_3, qe_2_4, qe_2_5, qe_2_6, qe_2_7, qe_2_8, qe_3_m1, qe_3_0, qe_3_1, qe_3_2, qe_3_4, qe_3_5, qe_3_6, qe_3_7, qe_3_8, qe_4_m1, qe_4_0, qe_4_1, qe_4_2, qe_4_3, qe_4_5, qe_4_6, qe_4_7, qe_4_8, qe_5_m1, qe_5_0, qe_5_1, qe_5_2, qe_5_3, qe_5_4, qe_5_6, qe_5_7, qe_5_8, qe_6_m1, qe_6_0, qe_6_1, qe_6_2, qe_6_3, qe_6_4, qe_6_5, qe_6_7, qe_6_8, qe_7_m1, qe_7_0, qe_7_1, qe_7_2, qe_7_3, qe_7_4, qe_7_5, qe_7_6, qe_7_8, qe_8_m1, qe_8_0, qe_8_1, qe_8_2, qe_8_3, qe_8_4, qe_8_5, qe_8_6, qe_8_7, Option.toList_some, Option.toList_none, List.cons_append, List.nil_append, List.append_nil, ip_on_some, true_and, and_true, if_true, if_false, not_true_eq_false, not_false_eq_true, decide_true, true_or, or_true, or_self, Bool.false_eq_true]
  · simp only [s195_0, s195_1, s195_40, s195_42, s195_43, s195_45, s195_46, s195_48, s195_49, s195_51, s195_52, s195_54, s195_55, s195_57, s195_58, s195_60, show nI 6 = 6 from rfl, qe_m1_0, qe_m1_1, qe_m1_2, qe_m1_3, qe_m1_4, qe_m1_5, qe_m1_6, qe_m1_7, qe_m1_8, qe_0_m1, qe_0_1, qe_0_2, qe_0_3, qe_0_4, qe_0_5, qe_0_6, qe_0_7, qe_0_8, qe_1_m1, qe_1_0, qe_1_2, qe_1_3, qe_1_4, qe_1_5, qe_1_6, qe_1_7, qe_1_8, qe_2_m1, qe_2_0, qe_2_1, qe_2_3, qe_2_4, qe_2_5, qe_2_6, qe_2_7, qe_2_8, qe_3_m1, qe_3_0, qe_3_1, qe_3_2, qe_3_4, qe_3_5, qe_3_6, qe_3_7, qe_3_8, qe_4_m1, qe_4_0, qe_4_1, qe_4_2, qe_4_3, qe_4_5, qe_4_6, qe_4_7, qe_4_8, qe_5_m1, qe_5_0, qe_5_1, qe_5_2, qe_5_3, qe_5_4, qe_5_6, qe_5_7, qe_5_8, qe_6_m1, qe_6_0, qe_6_1, qe_6_2, qe_6_3, qe_6_4, qe_6_5, qe_6_7, qe_6_8, qe_7_m1, qe_7_0, qe_7_1, qe_7_2, qe_7_3, qe_7_4, qe_7_5, qe_7_6, qe_7_8, qe_8_m1, qe_8_0, qe_8_1, qe_8_2, qe_8_3, qe_8_4, qe_8_5, qe_8_6, qe_8_7, Option.toList_some, Option.toList_none, List.cons_append, List.nil_append, List.append_nil, ip_on_some, true_and, and_true, if_true, if_false, not_true_eq_false, not_false_eq_true, decide_true, true_or, or_true, or_self, Bool.false_eq_true]
theorem pr_path (hb : Bd X) {i : Nat} (hi : i < (X 5 13).toNatClampNeg) {l : BL} (hl : (l ++ pthB X I J i).length ≤ 4160) (hk : ∀ h, CP X y I J (l ++ pthB X I J i) h → post none h) : ∀ h, CP X y I J l h → ip_WP 154 0 [some (.ref 36), some (.int (nI i))] [] h b post px := by
  have hn := cn_le (n := 24) hb.ap hb.bp (by decide)
  have g23 : ∀ I' : Nat → Nat → Int32, (∀ a, a ≠ 4 → I' a = I a) → rget (I' 23) 24 (-1) (nI i) = I 23 i := fun I' hI => by rw [hI 23 (by decide)]; exact rget_nI (by omega) (by decide)
  have g25 : ∀ I' : Nat → Nat → Int32, (∀ a, a ≠ 4 → I' a = I a) → rget (I' 25) 24 (-1) (nI i) = I 25 i := fun I' hI => by rw [hI 25 (by decide)]; exact rget_nI (by omega) (by decide)
  unfold pthB at hl hk
  simp only [← List.append_assoc] at hl hk
  intro h hC
  obtain ⟨X', I', rfl, h1, h2, hX, hI⟩ := id hC
  simp only [s154_0, s154_1, s154_4, s154_6, s154_9, s154_10, s154_11, s154_14, s154_17, s154_18, s154_21, s154_24, s154_25, s154_28, s154_31, s154_32, s154_35, s154_37, s154_40, s154_41, s154_42, s154_45, s154_48, s154_49, s154_52, s154_55, s154_56, s154_59, s154_62, s154_63, s154_66, f_3_0, f_3_1, u_3_1, f_5_0, f_5_1, f_5_2, f_5_3, f_5_4, f_5_5, f_5_6, f_5_7, f_5_8, f_5_9, f_5_10, f_5_11, f_5_12, f_5_13, u_5_13, f_5_14, u_5_14, f_8_0, f_8_1, u_8_1, f_22_0, f_22_1, f_24_0, f_24_1, f_36_0, f_36_1, o_3, o_5, o_8, o_22, o_24, o_36, rg_22, rg_24, g23 I' hI, g25 I' hI, Option.toList_some, Option.toList_none, List.cons_append, List.nil_append, List.append_nil, ip_on_some, true_and, and_true, if_true, if_false, not_true_eq_false, not_false_eq_true, decide_true, true_or, or_true, or_self, Bool.false_eq_true]
  refine pr_text (k := 15) rfl (by decide) (len_l (len_l (len_l (len_l hl)))) (fun h hC => ?_) _ hC
  obtain ⟨X', I', rfl, h1, h2, hX, hI⟩ := id hC
  simp only [s154_0, s154_1, s154_4, s154_6, s154_9, s154_10, s154_11, s154_14, s154_17, s154_18, s154_21, s154_24, s154_25, s154_28, s154_31, s154_32, s154_35, s154_37, s154_40, s154_41, s154_42, s154_45, s154_48, s154_49, s154_52, s154_55, s154_56, s154_59, s154_62, s154_63, s154_66, f_3_0, f_3_1, u_3_1, f_5_0, f_5_1, f_5_2, f_5_3, f_5_4, f_5_5, f_5_6, f_5_7, f_5_8, f_5_9, f_5_10, f_5_11, f_5_12, f_5_13, u_5_13, f_5_14, u_5_14, f_8_0, f_8_1, u_8_1, f_22_0, f_22_1, f_24_0, f_24_1, f_36_0, f_36_1, o_3, o_5, o_8, o_22, o_24, o_36, rg_22, rg_24, g23 I' hI, g25 I' hI, Option.toList_some, Option.toList_none, List.cons_append, List.nil_append, List.append_nil, ip_on_some, true_and, and_true, if_true, if_false, not_true_eq_false, not_false_eq_true, decide_true, true_or, or_true, or_self, Bool.false_eq_true]
  refine pr_name8 hb (len_l (len_l (len_l hl))) (fun h hC => ?_) _ hC
  obtain ⟨X', I', rfl, h1, h2, hX, hI⟩ := id hC
  simp only [s154_0, s154_1, s154_4, s154_6, s154_9, s154_10, s154_11, s154_14, s154_17, s154_18, s154_21, s154_24, s154_25, s154_28, s154_31, s154_32, s154_35, s154_37, s154_40, s154_41, s154_42, s154_45, s154_48, s154_49, s154_52, s154_55, s154_56, s154_59, s154_62, s154_63, s154_66, f_3_0, f_3_1, u_3_1, f_5_0, f_5_1, f_5_2, f_5_3, f_5_4, f_5_5, f_5_6, f_5_7, f_5_8, f_5_9, f_5_10, f_5_11, f_5_12, f_5_13, u_5_13, f_5_14, u_5_14, f_8_0, f_8_1, u_8_1, f_22_0, f_22_1, f_24_0, f_24_1, f_36_0, f_36_1, o_3, o_5, o_8, o_22, o_24, o_36, rg_22, rg_24, g23 I' hI, g25 I' hI, Option.toList_some, Option.toList_none, List.cons_append, List.nil_append, List.append_nil, ip_on_some, true_and, and_true, if_true, if_false, not_true_eq_false, not_false_eq_true, decide_true, true_or, or_true, or_self, Bool.false_eq_true]
  refine pr_text (k := 13) rfl (by decide) (len_l (len_l hl)) (fun h hC => ?_) _ hC
  obtain ⟨X', I', rfl, h1, h2, hX, hI⟩ := id hC
  simp only [s154_0, s154_1, s154_4, s154_6, s154_9, s154_10, s154_11, s154_14, s154_17, s154_18, s154_21, s154_24, s154_25, s154_28, s154_31, s154_32, s154_35, s154_37, s154_40, s154_41, s154_42, s154_45, s154_48, s154_49, s154_52, s154_55, s154_56, s154_59, s154_62, s154_63, s154_66, f_3_0, f_3_1, u_3_1, f_5_0, f_5_1, f_5_2, f_5_3, f_5_4, f_5_5, f_5_6, f_5_7, f_5_8, f_5_9, f_5_10, f_5_11, f_5_12, f_5_13, u_5_13, f_5_14, u_5_14, f_8_0, f_8_1, u_8_1, f_22_0, f_22_1, f_24_0, f_24_1, f_36_0, f_36_1, o_3, o_5, o_8, o_22, o_24, o_36, rg_22, rg_24, g23 I' hI, g25 I' hI, Option.toList_some, Option.toList_none, List.cons_append, List.nil_append, List.append_nil, ip_on_some, true_and, and_true, if_true, if_false, not_true_eq_false, not_false_eq_true, decide_true, true_or, or_true, or_self, Bool.false_eq_true]
  refine pr_name8 hb (len_l hl) (fun h hC => ?_) _ hC
  obtain ⟨X', I', rfl, h1, h2, hX, hI⟩ := id hC
  simp only [s154_0, s154_1, s154_4, s154_6, s154_9, s154_10, s154_11, s154_14, s154_17, s154_18, s154_21, s154_24, s154_25, s154_28, s154_31, s154_32, s154_35, s154_37, s154_40, s154_41, s154_42, s154_45, s154_48, s154_49, s154_52, s154_55, s154_56, s154_59, s154_62, s154_63, s154_66, f_3_0, f_3_1, u_3_1, f_5_0, f_5_1, f_5_2, f_5_3, f_5_4, f_5_5, f_5_6, f_5_7, f_5_8, f_5_9, f_5_10, f_5_11, f_5_12, f_5_13, u_5_13, f_5_14, u_5_14, f_8_0, f_8_1, u_8_1, f_22_0, f_22_1, f_24_0, f_24_1, f_36_0, f_36_1, o_3, o_5, o_8, o_22, o_24, o_36, rg_22, rg_24, g23 I' hI, g25 I' hI, Option.toList_some, Option.toList_none, List.cons_append, List.nil_append, List.append_nil, ip_on_some, true_and, and_true, if_true, if_false, not_true_eq_false, not_false_eq_true, decide_true, true_or, or_true, or_self, Bool.false_eq_true]
  refine pr_end hl (fun h hC => ?_) _ hC
  obtain ⟨X', I', rfl, h1, h2, hX, hI⟩ := id hC
  simp only [s154_0, s154_1, s154_4, s154_6, s154_9, s154_10, s154_11, s154_14, s154_17, s154_18, s154_21, s154_24, s154_25, s154_28, s154_31, s154_32, s154_35, s154_37, s154_40, s154_41, s154_42, s154_45, s154_48, s154_49, s154_52, s154_55, s154_56, s154_59, s154_62, s154_63, s154_66, Option.toList_some, Option.toList_none, List.cons_append, List.nil_append, List.append_nil, ip_on_some, true_and, and_true, if_true, if_false, not_true_eq_false, not_false_eq_true, decide_true, true_or, or_true, or_self, Bool.false_eq_true]
  exact hk _ hC
end
