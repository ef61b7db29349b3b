/-! steps that change the text -/
theorem bv_byte (x : BitVec 32) (s : Nat) (hs : s ≤ 24) : ((x >>> s).signExtend 8).signExtend 32 &&& 255#32 = x.sshiftRight s &&& 255#32 := by
  have h255 : ∀ i, i < 32 → (255#32).getLsbD i = decide (i < 8) := by decide
  apply BitVec.eq_of_getLsbD_eq
  intro i hi
  rw [BitVec.getLsbD_and, BitVec.getLsbD_and, h255 i hi]
  by_cases q : i < 8
  · rw [BitVec.getLsbD_signExtend, BitVec.getLsbD_signExtend, BitVec.getLsbD_ushiftRight, BitVec.getLsbD_sshiftRight]
    have a : s + i < 32 := by omega
    simp [q, hi, a]
  · simp [q]
abbrev shB (v s : Int32) : Int32 := (v.toUInt32 >>> (s.toUInt32 &&& Int32.toUInt32 31)).toInt32
theorem byte_eq (v s : Int32) (hs : s = 24 ∨ s = 16 ∨ s = 8 ∨ s = 0) : (shB v s).toInt8.toInt32 &&& 255 = v >>> (s &&& 31) &&& 255 := by
  rcases hs with rfl | rfl | rfl | rfl
  · have e : (shB v 24).toInt8.toInt32 &&& (255 : Int32) = Int32.ofBitVec (((v.toBitVec >>> 24).signExtend 8).signExtend 32 &&& 255#32) := rfl
    have e2 : v >>> ((24 : Int32) &&& 31) &&& (255 : Int32) = Int32.ofBitVec (v.toBitVec.sshiftRight 24 &&& 255#32) := rfl
    rw [e, e2, bv_byte _ _ (by decide)]
  · have e : (shB v 16).toInt8.toInt32 &&& (255 : Int32) = Int32.ofBitVec (((v.toBitVec >>> 16).signExtend 8).signExtend 32 &&& 255#32) := rfl
    have e2 : v >>> ((16 : Int32) &&& 31) &&& (255 : Int32) = Int32.ofBitVec (v.toBitVec.sshiftRight 16 &&& 255#32) := rfl
    rw [e, e2, bv_byte _ _ (by decide)]
  · have e : (shB v 8).toInt8.toInt32 &&& (255 : Int32) = Int32.ofBitVec (((v.toBitVec >>> 8).signExtend 8).signExtend 32 &&& 255#32) := rfl
    have e2 : v >>> ((8 : Int32) &&& 31) &&& (255 : Int32) = Int32.ofBitVec (v.toBitVec.sshiftRight 8 &&& 255#32) := rfl
    rw [e, e2, bv_byte _ _ (by decide)]
  · have e : (shB v 0).toInt8.toInt32 &&& (255 : Int32) = Int32.ofBitVec (((v.toBitVec >>> 0).signExtend 8).signExtend 32 &&& 255#32) := rfl
    have e2 : v >>> ((0 : Int32) &&& 31) &&& (255 : Int32) = Int32.ofBitVec (v.toBitVec.sshiftRight 0 &&& 255#32) := rfl
    rw [e, e2, bv_byte _ _ (by decide)]
def by4 (v : Int32) : BL := [shB v 24, shB v 16, shB v 8, shB v 0]
def by16 (p q r s : Int32) : BL := by4 p ++ (by4 q ++ (by4 r ++ by4 s))
def wrW (p q r s : Int32) (i : Nat) : Int32 := if i < 4 then p else if i < 8 then q else if i < 12 then r else s
def mBy (p q r s : Int32) (i : Nat) : Int32 := wrW p q r s i >>> ((24 - 8 * (nI i - nI i / 4 * 4)) &&& 31) &&& 255
theorem by_eq (p q r s : Int32) : ∀ i, i < 16 → ∃ v, (by16 p q r s)[i]? = some v ∧ v.toInt8.toInt32 &&& 255 = mBy p q r s i := by
  have t : ∀ i, i < 16 → (24 - 8 * (nI i - nI i / 4 * 4) : Int32) = [24, 16, 8, 0, 24, 16, 8, 0, 24, 16, 8, 0, 24, 16, 8, 0].getD i 0 := by decide +kernel
  intro i hi
  unfold mBy
  rw [t i hi]
  have hc : i = 0 ∨ i = 1 ∨ i = 2 ∨ i = 3 ∨ i = 4 ∨ i = 5 ∨ i = 6 ∨ i = 7 ∨ i = 8 ∨ i = 9 ∨ i = 10 ∨ i = 11 ∨ i = 12 ∨ i = 13 ∨ i = 14 ∨ i = 15 := by omega
  rcases hc with rfl | rfl | rfl | rfl | rfl | rfl | rfl | rfl | rfl | rfl | rfl | rfl | rfl | rfl | rfl | rfl
  · exact ⟨_, rfl, byte_eq p 24 (by decide)⟩
  · exact ⟨_, rfl, byte_eq p 16 (by decide)⟩
  · exact ⟨_, rfl, byte_eq p 8 (by decide)⟩
  · exact ⟨_, rfl, byte_eq p 0 (by decide)⟩
  · exact ⟨_, rfl, byte_eq q 24 (by decide)⟩
  · exact ⟨_, rfl, byte_eq q 16 (by decide)⟩
  · exact ⟨_, rfl, byte_eq q 8 (by decide)⟩
  · exact ⟨_, rfl, byte_eq q 0 (by decide)⟩
  · exact ⟨_, rfl, byte_eq r 24 (by decide)⟩
  · exact ⟨_, rfl, byte_eq r 16 (by decide)⟩
  · exact ⟨_, rfl, byte_eq r 8 (by decide)⟩
  · exact ⟨_, rfl, byte_eq r 0 (by decide)⟩
  · exact ⟨_, rfl, byte_eq s 24 (by decide)⟩
  · exact ⟨_, rfl, byte_eq s 16 (by decide)⟩
  · exact ⟨_, rfl, byte_eq s 8 (by decide)⟩
  · exact ⟨_, rfl, byte_eq s 0 (by decide)⟩
/-- the text (cells 1, 2) holds l behind n bytes -/
abbrev TB (X I : Nat → Nat → Int32) (n : Nat) (l : BL) (X' I' : Nat → Nat → Int32) : Prop := (X' 1 1 = nI (n + l.length)) ∧ (∀ i v, l[i]? = some v → I' 2 (n + i) = v.toInt8.toInt32) ∧ (∀ i, i < n → I' 2 i = I 2 i) ∧ (∀ c, c ≠ 1 → X' c = X c) ∧ (∀ a, a ≠ 2 → I' a = I a)
theorem TB.s {X I : Nat → Nat → Int32} {n : Nat} {l : BL} {X' I' : Nat → Nat → Int32} (h : TB X I n l X' I') : X' 1 1 = nI (n + l.length) := h.1
theorem TB.g {X I : Nat → Nat → Int32} {n : Nat} {l : BL} {X' I' : Nat → Nat → Int32} (h : TB X I n l X' I') : ∀ i v, l[i]? = some v → I' 2 (n + i) = v.toInt8.toInt32 := h.2.1
theorem TB.o {X I : Nat → Nat → Int32} {n : Nat} {l : BL} {X' I' : Nat → Nat → Int32} (h : TB X I n l X' I') : ∀ i, i < n → I' 2 i = I 2 i := h.2.2.1
theorem TB.c {X I : Nat → Nat → Int32} {n : Nat} {l : BL} {X' I' : Nat → Nat → Int32} (h : TB X I n l X' I') : ∀ c, c ≠ 1 → X' c = X c := h.2.2.2.1
theorem TB.a {X I : Nat → Nat → Int32} {n : Nat} {l : BL} {X' I' : Nat → Nat → Int32} (h : TB X I n l X' I') : ∀ a, a ≠ 2 → I' a = I a := h.2.2.2.2
def CT (X : Nat → Nat → Int32) (y : Int64) (I : Nat → Nat → Int32) (J : Nat → Nat → Int64) (n : Nat) (l : BL) (h : ip_H) : Prop := ∃ X' I', h = (g0, fld X' y, I', J) ∧ TB X I n l X' I'
section
variable {X X' : Nat → Nat → Int32} {y : Int64} {I I' : Nat → Nat → Int32} {J J' : Nat → Nat → Int64} {b : ip_B} {post : Option Value → ip_H → Prop} {px : String → ip_H → Prop} {n : Nat}
theorem tx_add {l : BL} {v : Int32} (hl : n + l.length < 4160) (hk : ∀ h, CT X y I J n (l ++ [v]) h → post none h) : ∀ h, CT X y I J n l h → ip_WP 91 0 [some (.ref 1), some (.int v)] [] h b post px := by
  rintro h ⟨X', I', rfl, t⟩
  rw [bd_1 t.s hl]
  refine hk _ ⟨_, _, rfl, ?_, ?_, ?_, fun c hc => by rw [up1, if_neg hc]; exact t.c c hc, fun a ha => by rw [up1, if_neg ha]; exact t.a a ha⟩
  · rw [up1, if_pos rfl, updF_ap, if_pos rfl, List.length_append]
    rfl
  · intro i u hu
    rw [up1, if_pos rfl, updF_ap]
    by_cases hi : i < l.length
    · rw [if_neg (by omega)]
      rw [List.getElem?_append_left hi] at hu
      exact t.g i u hu
    · rw [List.getElem?_append_right (by omega)] at hu
      have hz : i - l.length = 0 := by
        rcases hz : i - l.length with _ | z
        · rfl
        · rw [hz] at hu; simp at hu
      rw [hz] at hu
      have hu : v = u := by simpa using hu
      rw [if_pos (by omega), hu]
  · intro i hi
    rw [up1, if_pos rfl, updF_ap, if_neg (by omega)]
    exact t.o i hi
theorem tx_four {l : BL} {v : Int32} (hl : n + l.length + 4 ≤ 4160) (hk : ∀ h, CT X y I J n (l ++ by4 v) h → post none h) : ∀ h, CT X y I J n l h → ip_WP 92 0 [some (.ref 1), some (.int v), none] [] h b post px := by
  have stp : ∀ (s : Int32) (l : BL), ¬ s < 0 → n + l.length < 4160 → (∀ h, CT X y I J n (l ++ [shB v s]) h → ip_WP 92 3 [some (.ref 1), some (.int v), some (.int (s + (-8)))] [] h b post px) → ∀ h, CT X y I J n l h → ip_WP 92 3 [some (.ref 1), some (.int v), some (.int s)] [] h b post px := by
    intro s l c hl hk h hC
    obtain ⟨X', I', rfl, t⟩ := id hC
    rw [s92_3]
    simp only [s92_0, s92_2, s92_4, s92_7, s92_8, s92_9, s92_10, s92_11, s92_14, s92_17, s92_20, o_1, c, Option.toList_some, Option.toList_none, List.cons_append, List.nil_append, List.append_nil, ip_on_some, true_and, and_true, if_true, if_false, not_true_eq_false, not_false_eq_true, decide_true, true_or, or_true, or_self, Bool.false_eq_true]
    refine tx_add hl (fun h hC => ?_) _ hC
    obtain ⟨X', I', rfl, t⟩ := id hC
    simp only [s92_0, s92_2, s92_4, s92_7, s92_8, s92_9, s92_10, s92_11, s92_14, s92_17, s92_20, Option.toList_some, Option.toList_none, List.cons_append, List.nil_append, List.append_nil, ip_on_some, true_and, and_true, if_true, if_false, not_true_eq_false, not_false_eq_true, decide_true, true_or, or_true, or_self, Bool.false_eq_true]
    exact hk _ hC
  intro h hC
  obtain ⟨X', I', rfl, t⟩ := id hC
  rw [s92_0, s92_2]
  refine stp 24 l (by decide) (by omega) (fun h hC => ?_) _ hC
  rw [show (24 : Int32) + (-8) = 16 from by decide]
  refine stp 16 _ (by decide) (by simp only [List.length_append, List.length_singleton]; omega) (fun h hC => ?_) _ hC
  rw [show (16 : Int32) + (-8) = 8 from by decide]
  refine stp 8 _ (by decide) (by simp only [List.length_append, List.length_singleton]; omega) (fun h hC => ?_) _ hC
  rw [show (8 : Int32) + (-8) = 0 from by decide]
  refine stp 0 _ (by decide) (by simp only [List.length_append, List.length_singleton]; omega) (fun h hC => ?_) _ hC
  rw [show (0 : Int32) + (-8) = -8 from by decide]
  obtain ⟨X', I', rfl, t⟩ := id hC
  have c : (-8 : Int32) < 0 := by decide
  rw [s92_3]
  simp only [s92_0, s92_2, s92_4, s92_7, s92_8, s92_9, s92_10, s92_11, s92_14, s92_17, s92_20, c, Option.toList_some, Option.toList_none, List.cons_append, List.nil_append, List.append_nil, ip_on_some, true_and, and_true, if_true, if_false, not_true_eq_false, not_false_eq_true, decide_true, true_or, or_true, or_self, Bool.false_eq_true]
  refine hk _ ?_
  simp only [app_as, List.cons_append, List.nil_append] at hC
  exact hC
theorem kx_feed (h : RL X I J) {p q r s : Int32} (hno : ¬ X 1 1 + 16 ≤ 4096 → px "java/lang/IllegalStateException" (g0, fld X y, I, J)) (hyes : X 1 1 + 16 ≤ 4096 → ∀ X' I', TB X I (X 1 1).toNatClampNeg (by16 p q r s) X' I' → post (some (.int (X' 1 1))) (g0, fld X' y, I', J)) : ip_WP 1 0 [some (.ref 0), some (.int p), some (.int q), some (.int r), some (.int s)] [] (g0, fld X y, I, J) (1, 6) post px := by
  have hb := h.mn.bd
  have e := cn_eq hb.a1
  have hn := cn_le (n := 4160) hb.a1 hb.b1 (by decide)
  generalize (X 1 1).toNatClampNeg = n at e hn hyes
  by_cases c : X 1 1 + 16 ≤ 4096
  · have hyes := hyes c
    have hle : n + 16 ≤ 4096 := by
      have c' := c
      rw [e, show nI n + 16 = nI (n + 16) from nI_add n 16] at c'
      apply Nat.not_lt.mp
      intro z
      exact nI_ge (a := 4096) z (by omega) c'
    simp only [s1_0, s1_1, s1_4, s1_7, s1_9, s1_10, s1_13, s1_16, s1_26, s1_27, s1_30, s1_31, s1_34, s1_35, s1_38, s1_39, s1_42, s1_43, s1_46, s1_47, s1_50, s1_51, s1_54, s1_56, s1_59, s1_60, s1_63, s1_66, f_0_0, f_0_1, f_0_2, f_0_3, f_0_4, f_0_5, f_0_6, f_1_0, f_1_1, u_1_1, o_0, o_1, bs_1, c, Option.toList_some, Option.toList_none, List.cons_append, List.nil_append, List.append_nil, ip_on_some, true_and, and_true, if_true, if_false, not_true_eq_false, not_false_eq_true, decide_true, true_or, or_true, or_self, Bool.false_eq_true]
    have hC0 : CT X y I J n [] (g0, fld X y, I, J) := ⟨X, I, rfl, by rw [e]; rfl, fun i v hv => by simp at hv, fun _ _ => rfl, fun _ _ => rfl, fun _ _ => rfl⟩
    refine tx_four (by simp only [List.length_nil]; omega) (fun h hC => ?_) _ hC0
    obtain ⟨X', I', rfl, t⟩ := id hC
    simp only [s1_0, s1_1, s1_4, s1_7, s1_9, s1_10, s1_13, s1_16, s1_26, s1_27, s1_30, s1_31, s1_34, s1_35, s1_38, s1_39, s1_42, s1_43, s1_46, s1_47, s1_50, s1_51, s1_54, s1_56, s1_59, s1_60, s1_63, s1_66, f_0_0, f_0_1, f_0_2, f_0_3, f_0_4, f_0_5, f_0_6, f_1_0, f_1_1, u_1_1, o_0, o_1, Option.toList_some, Option.toList_none, List.cons_append, List.nil_append, List.append_nil, ip_on_some, true_and, and_true, if_true, if_false, not_true_eq_false, not_false_eq_true, decide_true, true_or, or_true, or_self, Bool.false_eq_true]
    refine tx_four (by simp only [by4, List.length_append, List.length_cons, List.length_nil]; omega) (fun h hC => ?_) _ hC
    obtain ⟨X', I', rfl, t⟩ := id hC
    simp only [s1_0, s1_1, s1_4, s1_7, s1_9, s1_10, s1_13, s1_16, s1_26, s1_27, s1_30, s1_31, s1_34, s1_35, s1_38, s1_39, s1_42, s1_43, s1_46, s1_47, s1_50, s1_51, s1_54, s1_56, s1_59, s1_60, s1_63, s1_66, f_0_0, f_0_1, f_0_2, f_0_3, f_0_4, f_0_5, f_0_6, f_1_0, f_1_1, u_1_1, o_0, o_1, Option.toList_some, Option.toList_none, List.cons_append, List.nil_append, List.append_nil, ip_on_some, true_and, and_true, if_true, if_false, not_true_eq_false, not_false_eq_true, decide_true, true_or, or_true, or_self, Bool.false_eq_true]
    refine tx_four (by simp only [by4, List.length_append, List.length_cons, List.length_nil]; omega) (fun h hC => ?_) _ hC
    obtain ⟨X', I', rfl, t⟩ := id hC
    simp only [s1_0, s1_1, s1_4, s1_7, s1_9, s1_10, s1_13, s1_16, s1_26, s1_27, s1_30, s1_31, s1_34, s1_35, s1_38, s1_39, s1_42, s1_43, s1_46, s1_47, s1_50, s1_51, s1_54, s1_56, s1_59, s1_60, s1_63, s1_66, f_0_0, f_0_1, f_0_2, f_0_3, f_0_4, f_0_5, f_0_6, f_1_0, f_1_1, u_1_1, o_0, o_1, Option.toList_some, Option.toList_none, List.cons_append, List.nil_append, List.append_nil, ip_on_some, true_and, and_true, if_true, if_false, not_true_eq_false, not_false_eq_true, decide_true, true_or, or_true, or_self, Bool.false_eq_true]
    refine tx_four (by simp only [by4, List.length_append, List.length_cons, List.length_nil]; omega) (fun h hC => ?_) _ hC
    obtain ⟨X', I', rfl, t⟩ := id hC
    simp only [s1_0, s1_1, s1_4, s1_7, s1_9, s1_10, s1_13, s1_16, s1_26, s1_27, s1_30, s1_31, s1_34, s1_35, s1_38, s1_39, s1_42, s1_43, s1_46, s1_47, s1_50, s1_51, s1_54, s1_56, s1_59, s1_60, s1_63, s1_66, f_0_0, f_0_1, f_0_2, f_0_3, f_0_4, f_0_5, f_0_6, f_1_0, f_1_1, u_1_1, o_0, o_1, bs_1, Option.toList_some, Option.toList_none, List.cons_append, List.nil_append, List.append_nil, ip_on_some, true_and, and_true, if_true, if_false, not_true_eq_false, not_false_eq_true, decide_true, true_or, or_true, or_self, Bool.false_eq_true]
    refine hyes X' I' ?_
    rw [List.nil_append, List.append_assoc, List.append_assoc] at t
    exact t
  · simp only [s1_0, s1_1, s1_4, s1_7, s1_9, s1_10, s1_13, s1_16, s1_26, s1_27, s1_30, s1_31, s1_34, s1_35, s1_38, s1_39, s1_42, s1_43, s1_46, s1_47, s1_50, s1_51, s1_54, s1_56, s1_59, s1_60, s1_63, s1_66, f_0_0, f_0_1, f_0_2, f_0_3, f_0_4, f_0_5, f_0_6, f_1_0, f_1_1, u_1_1, o_0, o_1, bs_1, c, Nat.reduceLeDiff, Nat.le_refl, and_self, Option.toList_some, Option.toList_none, List.cons_append, List.nil_append, List.append_nil, ip_on_some, true_and, and_true, if_true, if_false, not_true_eq_false, not_false_eq_true, decide_true, true_or, or_true, or_self, Bool.false_eq_true]
    exact hno c
theorem g_feed_no (h : RL X I J) {p q r s : Int32} (hn : ¬ X 1 1 + 16 ≤ 4096) (hk : ∀ X', Thr 1 X X' → post (some (.int 0)) (g0, fld X' y, I, J)) : ip_WP 23 0 [some (.ref 47), some (.int p), some (.int q), some (.int r), some (.int s), none, none] [] (g0, fld X y, I, J) b post px := by
  simp only [s23_0, s23_1, s23_2, s23_5, s23_6, s23_9, s23_11, s23_12, s23_15, s23_18, s23_19, s23_20, s23_23, s23_24, s23_25, s23_29, s23_31, s23_34, s23_36, s23_37, s23_40, s23_41, s23_44, s23_46, s23_48, s23_51, s23_52, s23_55, s23_57, s23_59, s23_62, s23_63, s23_66, s23_68, s23_70, s23_71, s23_74, s23_75, s23_78, s23_80, s23_81, s23_83, s23_85, s23_87, s23_89, s23_90, s23_91, s23_92, s23_93, s23_94, s23_97, s23_98, s23_99, s23_102, s23_105, s23_106, s23_107, s23_110, s23_112, s23_113, s23_116, s23_117, s23_120, f_47_0, f_47_1, u_47_1, f_47_2, u_47_2, f_47_3, f_47_4, u_47_4, f_47_5, f_47_6, u_47_6, f_47_7, u_47_7, f_47_8, u_47_8, f_47_9, u_47_9, f_47_10, u_47_10, f_47_11, f_47_12, f_47_13, f_47_14, f_47_15, f_47_16, f_47_17, f_47_18, f_47_19, f_47_20, f_47_21, f_47_22, f_47_23, u_47_23, f_47_24, f_47_25, f_47_26, f_47_27, f_47_28, f_47_29, u_47_29, f_47_30, u_47_30, f_47_31, f_47_32, f_47_33, f_47_34, f_47_35, u_47_35, f_47_36, u_47_36, f_47_37, u_47_37, f_47_38, u_47_38, o_47, md_fail, up47, Nat.reduceEqDiff, h.ts, hn, Option.toList_some, Option.toList_none, List.cons_append, List.nil_append, List.append_nil, ip_on_some, true_and, and_true, if_true, if_false, not_true_eq_false, not_false_eq_true, decide_true, true_or, or_true, or_self, Bool.false_eq_true]
  exact hk _ thr2
theorem g_feed (h : RL X I J) {p q r s : Int32} (hc : X 1 1 + 16 ≤ 4096) (t : TB X I (X 1 1).toNatClampNeg (by16 p q r s) X' I') (hJ : ∀ a, a < 48 → J' a = J a) (hk : ∀ X2 I2, RL X2 I2 J' → X2 47 1 = 0 → post (some (.int (X' 1 1))) (g0, fld X2 y, I2, J')) : ip_WP 23 0 [some (.ref 47), some (.int p), some (.int q), some (.int r), some (.int s), none, none] [] (g0, fld X' y, I', J') b post px := by
  have hb := h.mn.bd
  have e := cn_eq hb.a1
  have hn := cn_le (n := 4160) hb.a1 hb.b1 (by decide)
  have htx := h.tx
  generalize (X 1 1).toNatClampNeg = n at e hn t htx
  have x47 : X' 47 2 = nI n := by rw [t.c 47 (by decide), h.ts]; exact e
  have n16 : nI n + 16 = nI (n + 16) := nI_add n 16
  have hle : n + 16 ≤ 4096 := by
    have c' := hc
    rw [e, n16] at c'
    apply Nat.not_lt.mp
    intro z
    exact nI_ge (a := 4096) z (by omega) c'
  have c1 : nI (n + 16) ≤ 4096 := nI_le (b := 4096) hle (by decide)
  have l16 : (by16 p q r s).length = 16 := rfl
  have x11 : X' 1 1 = nI (n + 16) := by rw [t.s, l16]
  have loop : ∀ m i, i + m = 16 → ∀ (I2 : Nat → Nat → Int32) (x : Option Value), (∀ j, j < i → I2 49 (n + j) = mBy p q r s j) → (∀ j, j < n → I2 49 j = I 49 j) → (∀ a, a ≠ 49 → I2 a = I' a) → ip_WP 23 27 [some (.ref 47), some (.int p), some (.int q), some (.int r), some (.int s), some (.int (nI i)), x] [] (g0, fld (ip_up X' 47 1 0) y, I2, J') b post px := by
    intro m
    induction m with
    | zero =>
      intro i hi I2 x g1 g2 g3
      have ei : i = 16 := by omega
      subst ei
      have c2 : (16 : Int32) ≤ nI 16 := by decide
      rw [s23_27]
      simp only [s23_0, s23_1, s23_2, s23_5, s23_6, s23_9, s23_11, s23_12, s23_15, s23_18, s23_19, s23_20, s23_23, s23_24, s23_25, s23_29, s23_31, s23_34, s23_36, s23_37, s23_40, s23_41, s23_44, s23_46, s23_48, s23_51, s23_52, s23_55, s23_57, s23_59, s23_62, s23_63, s23_66, s23_68, s23_70, s23_71, s23_74, s23_75, s23_78, s23_80, s23_81, s23_83, s23_85, s23_87, s23_89, s23_90, s23_91, s23_92, s23_93, s23_94, s23_97, s23_98, s23_99, s23_102, s23_105, s23_106, s23_107, s23_110, s23_112, s23_113, s23_116, s23_117, s23_120, f_47_0, f_47_1, u_47_1, f_47_2, u_47_2, f_47_3, f_47_4, u_47_4, f_47_5, f_47_6, u_47_6, f_47_7, u_47_7, f_47_8, u_47_8, f_47_9, u_47_9, f_47_10, u_47_10, f_47_11, f_47_12, f_47_13, f_47_14, f_47_15, f_47_16, f_47_17, f_47_18, f_47_19, f_47_20, f_47_21, f_47_22, f_47_23, u_47_23, f_47_24, f_47_25, f_47_26, f_47_27, f_47_28, f_47_29, u_47_29, f_47_30, u_47_30, f_47_31, f_47_32, f_47_33, f_47_34, f_47_35, u_47_35, f_47_36, u_47_36, f_47_37, u_47_37, f_47_38, u_47_38, o_47, up47, Nat.reduceEqDiff, c2, x47, n16, Option.toList_some, Option.toList_none, List.cons_append, List.nil_append, List.append_nil, ip_on_some, true_and, and_true, if_true, if_false, not_true_eq_false, not_false_eq_true, decide_true, true_or, or_true, or_self, Bool.false_eq_true]
      rw [x11] at hk
      refine hk _ _ ?_ (by rw [up47, if_neg (by decide), up47, if_pos rfl])
      have xc : ∀ c, c ≠ 1 → c ≠ 47 → ip_up (ip_up X' 47 1 0) 47 2 (nI (n + 16)) c = X c := fun c a1 a2 => by rw [up1, if_neg a2, up1, if_neg a2]; exact t.c c a1
      have xm : ∀ j, j ≠ 1 → j ≠ 2 → ip_up (ip_up X' 47 1 0) 47 2 (nI (n + 16)) 47 j = X 47 j := fun j a1 a2 => by rw [up47, if_neg a2, up47, if_neg a1, t.c 47 (by decide)]
      have x1 : ip_up (ip_up X' 47 1 0) 47 2 (nI (n + 16)) 1 1 = nI (n + 16) := by rw [up1, if_neg (by decide), up1, if_neg (by decide)]; exact x11
      have ia : ∀ a, a ≠ 2 → a ≠ 49 → I2 a = I a := fun a a1 a2 => by rw [g3 a a2]; exact t.a a a1
      refine h.of (fun c a1 _ a47 => xc c a1 a47) (fun j a1 a2 _ => xm j a1 a2) (fun a a2 _ a49 _ => ia a a2 a49) hJ ?_ ?_ ?_ ?_ ?_ ?_ ?_ ?_ ?_
      · rw [x1]; exact nI_pos' (by omega)
      · rw [x1]; exact nI_le (b := 4160) (by omega) (by decide)
      · rw [xc 3 (by decide) (by decide)]; exact hb.a3
      · rw [xc 3 (by decide) (by decide)]; exact hb.b3
      · rw [x1, up47, if_pos rfl]
      · rw [x1, nI_clamp (by omega)]
        intro j hj
        unfold txt
        rw [g3 2 (by decide)]
        by_cases z : j < n
        · rw [g2 j z, t.o j z]
          exact htx j z
        · obtain ⟨v, hv, ev⟩ := by_eq p q r s (j - n) (by omega)
          have e1 := g1 (j - n) (by omega)
          have e2 := t.g (j - n) v hv
          rw [show n + (j - n) = j from by omega] at e1 e2
          rw [e1, e2, ev]
      · rw [xm 4 (by decide) (by decide), xc 3 (by decide) (by decide)]; exact h.ps
      · rw [xc 3 (by decide) (by decide), ia 50 (by decide) (by decide), ia 4 (by decide) (by decide)]; exact h.px
      · rw [xc 3 (by decide) (by decide), ia 4 (by decide) (by decide)]; exact h.pf
    | succ m ih =>
      intro i hi I2 x g1 g2 g3
      have c2 : ¬ (16 : Int32) ≤ nI i := nI_ge (b := 16) (by omega) (by decide)
      have z4 : ¬ (4 : Int32) = 0 := by decide
      have d1 : ¬ nI (n + i) < 0 := nI_pos (by omega)
      have d2 : ¬ 4400 ≤ n + i := by omega
      have ncl := nI_clamp (show n + i < 2 ^ 31 by omega)
      have next : ∀ x', ip_WP 23 27 [some (.ref 47), some (.int p), some (.int q), some (.int r), some (.int s), some (.int (nI (i + 1))), x'] [] (g0, fld (ip_up X' 47 1 0) y, ip_up I2 49 (n + i) (mBy p q r s i), J') b post px := by
        intro x'
        refine ih (i + 1) (by omega) _ x' ?_ ?_ ?_
        · intro j hj
          rw [up1, if_pos rfl, updF_ap]
          by_cases z : j = i
          · rw [if_pos (by omega), z]
          · rw [if_neg (by omega)]; exact g1 j (by omega)
        · intro j hj
          rw [up1, if_pos rfl, updF_ap, if_neg (by omega)]
          exact g2 j hj
        · intro a ha
          rw [up1, if_neg ha]
          exact g3 a ha
      unfold mBy wrW at next
      rw [s23_27]
      by_cases q4 : i < 4
      · have k4 : ¬ (4 : Int32) ≤ nI i := nI_ge (b := 4) q4 (by decide)
        simp only [q4, if_true] at next
        simp only [s23_0, s23_1, s23_2, s23_5, s23_6, s23_9, s23_11, s23_12, s23_15, s23_18, s23_19, s23_20, s23_23, s23_24, s23_25, s23_29, s23_31, s23_34, s23_36, s23_37, s23_40, s23_41, s23_44, s23_46, s23_48, s23_51, s23_52, s23_55, s23_57, s23_59, s23_62, s23_63, s23_66, s23_68, s23_70, s23_71, s23_74, s23_75, s23_78, s23_80, s23_81, s23_83, s23_85, s23_87, s23_89, s23_90, s23_91, s23_92, s23_93, s23_94, s23_97, s23_98, s23_99, s23_102, s23_105, s23_106, s23_107, s23_110, s23_112, s23_113, s23_116, s23_117, s23_120, f_47_0, f_47_1, u_47_1, f_47_2, u_47_2, f_47_3, f_47_4, u_47_4, f_47_5, f_47_6, u_47_6, f_47_7, u_47_7, f_47_8, u_47_8, f_47_9, u_47_9, f_47_10, u_47_10, f_47_11, f_47_12, f_47_13, f_47_14, f_47_15, f_47_16, f_47_17, f_47_18, f_47_19, f_47_20, f_47_21, f_47_22, f_47_23, u_47_23, f_47_24, f_47_25, f_47_26, f_47_27, f_47_28, f_47_29, u_47_29, f_47_30, u_47_30, f_47_31, f_47_32, f_47_33, f_47_34, f_47_35, u_47_35, f_47_36, u_47_36, f_47_37, u_47_37, f_47_38, u_47_38, o_47, a_49, l_49, up47, Nat.reduceEqDiff, c2, k4, z4, x47, nI_add, ncl, d1, d2, nI_1, Option.toList_some, Option.toList_none, List.cons_append, List.nil_append, List.append_nil, ip_on_some, true_and, and_true, if_true, if_false, not_true_eq_false, not_false_eq_true, decide_true, true_or, or_true, or_self, Bool.false_eq_true]
        exact next _
      · have k4 : (4 : Int32) ≤ nI i := nI_le (a := 4) (by omega) (by omega)
        by_cases q8 : i < 8
        · have k8 : ¬ (8 : Int32) ≤ nI i := nI_ge (b := 8) q8 (by decide)
          simp only [q4, q8, if_true, if_false] at next
          simp only [s23_0, s23_1, s23_2, s23_5, s23_6, s23_9, s23_11, s23_12, s23_15, s23_18, s23_19, s23_20, s23_23, s23_24, s23_25, s23_29, s23_31, s23_34, s23_36, s23_37, s23_40, s23_41, s23_44, s23_46, s23_48, s23_51, s23_52, s23_55, s23_57, s23_59, s23_62, s23_63, s23_66, s23_68, s23_70, s23_71, s23_74, s23_75, s23_78, s23_80, s23_81, s23_83, s23_85, s23_87, s23_89, s23_90, s23_91, s23_92, s23_93, s23_94, s23_97, s23_98, s23_99, s23_102, s23_105, s23_106, s23_107, s23_110, s23_112, s23_113, s23_116, s23_117, s23_120, f_47_0, f_47_1, u_47_1, f_47_2, u_47_2, f_47_3, f_47_4, u_47_4, f_47_5, f_47_6, u_47_6, f_47_7, u_47_7, f_47_8, u_47_8, f_47_9, u_47_9, f_47_10, u_47_10, f_47_11, f_47_12, f_47_13, f_47_14, f_47_15, f_47_16, f_47_17, f_47_18, f_47_19, f_47_20, f_47_21, f_47_22, f_47_23, u_47_23, f_47_24, f_47_25, f_47_26, f_47_27, f_47_28, f_47_29, u_47_29, f_47_30, u_47_30, f_47_31, f_47_32, f_47_33, f_47_34, f_47_35, u_47_35, f_47_36, u_47_36, f_47_37, u_47_37, f_47_38, u_47_38, o_47, a_49, l_49, up47, Nat.reduceEqDiff, c2, k4, k8, z4, x47, nI_add, ncl, d1, d2, nI_1, Option.toList_some, Option.toList_none, List.cons_append, List.nil_append, List.append_nil, ip_on_some, true_and, and_true, if_true, if_false, not_true_eq_false, not_false_eq_true, decide_true, true_or, or_true, or_self, Bool.false_eq_true]
          exact next _
        · have k8 : (8 : Int32) ≤ nI i := nI_le (a := 8) (by omega) (by omega)
          by_cases q12 : i < 12
          · have k12 : ¬ (12 : Int32) ≤ nI i := nI_ge (b := 12) q12 (by decide)
            simp only [q4, q8, q12, if_true, if_false] at next
            simp only [s23_0, s23_1, s23_2, s23_5, s23_6, s23_9, s23_11, s23_12, s23_15, s23_18, s23_19, s23_20, s23_23, s23_24, s23_25, s23_29, s23_31, s23_34, s23_36, s23_37, s23_40, s23_41, s23_44, s23_46, s23_48, s23_51, s23_52, s23_55, s23_57, s23_59, s23_62, s23_63, s23_66, s23_68, s23_70, s23_71, s23_74, s23_75, s23_78, s23_80, s23_81, s23_83, s23_85, s23_87, s23_89, s23_90, s23_91, s23_92, s23_93, s23_94, s23_97, s23_98, s23_99, s23_102, s23_105, s23_106, s23_107, s23_110, s23_112, s23_113, s23_116, s23_117, s23_120, f_47_0, f_47_1, u_47_1, f_47_2, u_47_2, f_47_3, f_47_4, u_47_4, f_47_5, f_47_6, u_47_6, f_47_7, u_47_7, f_47_8, u_47_8, f_47_9, u_47_9, f_47_10, u_47_10, f_47_11, f_47_12, f_47_13, f_47_14, f_47_15, f_47_16, f_47_17, f_47_18, f_47_19, f_47_20, f_47_21, f_47_22, f_47_23, u_47_23, f_47_24, f_47_25, f_47_26, f_47_27, f_47_28, f_47_29, u_47_29, f_47_30, u_47_30, f_47_31, f_47_32, f_47_33, f_47_34, f_47_35, u_47_35, f_47_36, u_47_36, f_47_37, u_47_37, f_47_38, u_47_38, o_47, a_49, l_49, up47, Nat.reduceEqDiff, c2, k4, k8, k12, z4, x47, nI_add, ncl, d1, d2, nI_1, Option.toList_some, Option.toList_none, List.cons_append, List.nil_append, List.append_nil, ip_on_some, true_and, and_true, if_true, if_false, not_true_eq_false, not_false_eq_true, decide_true, true_or, or_true, or_self, Bool.false_eq_true]
            exact next _
          · have k12 : (12 : Int32) ≤ nI i := nI_le (a := 12) (by omega) (by omega)
            simp only [q4, q8, q12, if_false] at next
            simp only [s23_0, s23_1, s23_2, s23_5, s23_6, s23_9, s23_11, s23_12, s23_15, s23_18, s23_19, s23_20, s23_23, s23_24, s23_25, s23_29, s23_31, s23_34, s23_36, s23_37, s23_40, s23_41, s23_44, s23_46, s23_48, s23_51, s23_52, s23_55, s23_57, s23_59, s23_62, s23_63, s23_66, s23_68, s23_70, s23_71, s23_74, s23_75, s23_78, s23_80, s23_81, s23_83, s23_85, s23_87, s23_89, s23_90, s23_91, s23_92, s23_93, s23_94, s23_97, s23_98, s23_99, s23_102, s23_105, s23_106, s23_107, s23_110, s23_112, s23_113, s23_116, s23_117, s23_120, f_47_0, f_47_1, u_47_1, f_47_2, u_47_2, f_47_3, f_47_4, u_47_4, f_47_5, f_47_6, u_47_6, f_47_7, u_47_7, f_47_8, u_47_8, f_47_9, u_47_9, f_47_10, u_47_10, f_47_11, f_47_12, f_47_13, f_47_14, f_47_15, f_47_16, f_47_17, f_47_18, f_47_19, f_47_20, f_47_21, f_47_22, f_47_23, u_47_23, f_47_24, f_47_25, f_47_26, f_47_27, f_47_28, f_47_29, u_47_29, f_47_30, u_47_30, f_47_31, f_47_32, f_47_33, f_47_34, f_47_35, u_47_35, f_47_36, u_47_36, f_47_37, u_47_37, f_47_38, u_47_38, o_47, a_49, l_49, up47, Nat.reduceEqDiff, c2, k4, k8, k12, z4, x47, nI_add, ncl, d1, d2, nI_1, Option.toList_some, Option.toList_none, List.cons_append, List.nil_append, List.append_nil, ip_on_some, true_and, and_true, if_true, if_false, not_true_eq_false, not_false_eq_true, decide_true, true_or, or_true, or_self, Bool.false_eq_true]
            exact next _
  simp only [s23_0, s23_1, s23_2, s23_5, s23_6, s23_9, s23_11, s23_12, s23_15, s23_18, s23_19, s23_20, s23_23, s23_24, s23_25, s23_29, s23_31, s23_34, s23_36, s23_37, s23_40, s23_41, s23_44, s23_46, s23_48, s23_51, s23_52, s23_55, s23_57, s23_59, s23_62, s23_63, s23_66, s23_68, s23_70, s23_71, s23_74, s23_75, s23_78, s23_80, s23_81, s23_83, s23_85, s23_87, s23_89, s23_90, s23_91, s23_92, s23_93, s23_94, s23_97, s23_98, s23_99, s23_102, s23_105, s23_106, s23_107, s23_110, s23_112, s23_113, s23_116, s23_117, s23_120, f_47_0, f_47_1, u_47_1, f_47_2, u_47_2, f_47_3, f_47_4, u_47_4, f_47_5, f_47_6, u_47_6, f_47_7, u_47_7, f_47_8, u_47_8, f_47_9, u_47_9, f_47_10, u_47_10, f_47_11, f_47_12, f_47_13, f_47_14, f_47_15, f_47_16, f_47_17, f_47_18, f_47_19, f_47_20, f_47_21, f_47_22, f_47_23, u_47_23, f_47_24, f_47_25, f_47_26, f_47_27, f_47_28, f_47_29, u_47_29, f_47_30, u_47_30, f_47_31, f_47_32, f_47_33, f_47_34, f_47_35, u_47_35, f_47_36, u_47_36, f_47_37, u_47_37, f_47_38, u_47_38, o_47, md_fail, up47, Nat.reduceEqDiff, x47, n16, c1, Option.toList_some, Option.toList_none, List.cons_append, List.nil_append, List.append_nil, ip_on_some, true_and, and_true, if_true, if_false, not_true_eq_false, not_false_eq_true, decide_true, true_or, or_true, or_self, Bool.false_eq_true]
  have h0 := loop 16 0 rfl I' none (fun j hj => absurd hj (Nat.not_lt_zero j)) (fun j hj => by rw [t.a 49 (by decide)]) (fun _ _ => rfl)
  rw [nI_0] at h0
  exact h0
end
