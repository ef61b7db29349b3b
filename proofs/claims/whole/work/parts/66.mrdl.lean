/-! readLatency, readResult, readPath, readQueue -/
theorem lat_1 {s : SS} : rPart (X1S s) s.2.1 s.2.2.1 s.2.2.2 259 0 = rWout (X1S s) s.2.1 s.2.2.1 s.2.2.2 15 := by simp [rPart, pLat]
theorem lat_2 {s : SS} : rPart (X1S s) s.2.1 s.2.2.1 s.2.2.2 259 1 = rSign (X1S s) s.2.2.1 s.2.2.2 61 := by simp [rPart, pLat]
theorem lat_3 {s : SS} : rPart (X1S s) s.2.1 s.2.2.1 s.2.2.2 259 2 = rNum (X1S s) s.2.2.1 s.2.2.2 15 12 99 := by simp [rPart, pLat]
theorem lat_4 {s : SS} : rPart (X1S s) s.2.1 s.2.2.1 s.2.2.2 259 3 = rClose (X1S s) s.2.2.1 s.2.2.2 := by simp [rPart, pLat]
theorem res_1 {s : SS} : rPart (X1S s) s.2.1 s.2.2.1 s.2.2.2 260 0 = rWout (X1S s) s.2.1 s.2.2.1 s.2.2.2 17 := by simp [rPart, pRes]
theorem res_2 {s : SS} : rPart (X1S s) s.2.1 s.2.2.1 s.2.2.2 260 1 = rSign (X1S s) s.2.2.1 s.2.2.2 62 := by simp [rPart, pRes]
theorem res_3 {s : SS} : rPart (X1S s) s.2.1 s.2.2.1 s.2.2.2 260 2 = rStg (X1S s) s.2.1 s.2.2.1 s.2.2.2 17 12 := by simp [rPart, pRes]
theorem res_4 {s : SS} : rPart (X1S s) s.2.1 s.2.2.1 s.2.2.2 260 3 = rClose (X1S s) s.2.2.1 s.2.2.2 := by simp [rPart, pRes]
section
variable {N : Nat} {s : SS} {X : Nat → Nat → Int32} {y : Int64} {I : Nat → Nat → Int32} {J : Nat → Nat → Int64} {b : ip_B} {post : Option Value → ip_H → Prop} {px : String → ip_H → Prop}
theorem st_num (h : LR N s X I) (h5 : ¬ s.1 32 5 = -1) {hi : Int32} {a n : Nat} (hp : takeS s = rNum (X1S s) s.2.2.1 s.2.2.2 a n hi)
    (hft : ∀ X' r, MF X X' → FT (out1 N s) X' → post (some (.int r)) (g0, fld X' y, I, J))
    (hgo : ∀ X' s2, MF X X' → LR N s2 X' I → ST N s s2 → CE s.1 s2.1 → s2.2.2 = (rset s.2.2.1 a n (s.1 32 7) (s.1 33 6), s.2.2.2) → s2.1 32 5 = s.1 32 5 → s2.1 32 6 = s.1 32 6 + 1 → s2.1 32 7 = s.1 32 7 → 1 ≤ s.1 33 6 → s.1 33 6 ≤ hi → post (some (.int (s.1 33 6))) (g0, fld X' y, I, J)) : ip_WP 36 0 [some (.ref 47), some (.int hi), none] [] (g0, fld X y, I, J) b post px := by
  have e33 : X1S s 33 = s.1 33 := x1_ne (by decide)
  refine md_num h h5 (hi := hi) ?_ (fun X' r mf hr => ?_)
  · rw [hp]
    unfold rNum
    rw [e33]
    (repeat' split) <;> rfl
  · rcases hr with hr | ⟨ht, hL, h3, rfl⟩
    · exact hft X' r mf hr
    · have q : ¬ (s.1 33 6 < 1 ∨ hi < s.1 33 6) := fun q => by
        rw [hp] at ht
        unfold rNum at ht
        rw [e33, if_pos h3, if_pos q] at ht
        exact absurd (show (8 : Int32) = 0 from ht) (by decide)
      have hx : takeS s = (0, X1S s, rset s.2.2.1 a n (s.1 32 7) (s.1 33 6), s.2.2.2) := by
        rw [hp]
        unfold rNum
        rw [e33, if_pos h3, if_neg q, x1_7]
      have hn := nex_eq hx
      simp only [not_or] at q
      refine hgo X' (advS (nexS s)) mf hL (h.st ht hL) ?_ ?_ ?_ ?_ ?_ (Int32.not_lt.mp q.1) (Int32.not_lt.mp q.2)
      · refine CE.trans ?_ (ce_adv _)
        rw [hn]
        exact ce_x1
      · show (nexS s).2.2 = _
        rw [hn]
      · rw [adv_ne (by decide), hn]; exact x1_5
      · rw [adv_ne (by decide), hn]; exact x1_6
      · rw [adv_ne (by decide), hn]; exact x1_7
/-- the state behind classWithout or pathStart -/
theorem x87_7 {v w : Int32} : ip_up (ip_up (X1S s) 32 8 v) 32 7 w 32 7 = w := by simp only [up1, updF_ap, if_true]
theorem x87_5 {v w : Int32} : ip_up (ip_up (X1S s) 32 8 v) 32 7 w 32 5 = s.1 32 5 := by
  simp only [up1, updF_ap, if_true, Nat.reduceEqDiff, if_false]
  exact x1_5
theorem x87_6 {v w : Int32} : ip_up (ip_up (X1S s) 32 8 v) 32 7 w 32 6 = s.1 32 6 + 1 := by
  simp only [up1, updF_ap, if_true, Nat.reduceEqDiff, if_false]
  exact x1_6
theorem x87_ne {v w : Int32} {k : Nat} (h : k ≠ 32) : ip_up (ip_up (X1S s) 32 8 v) 32 7 w k = s.1 k := by rw [up1, if_neg h, up1, if_neg h, x1_ne h]
theorem wout_0 {i a : Nat} (hi : i < 12) (hkd : s.1 33 3 = 2) (hnf : nfi (s.2.2.2 7) s.2.1 (cnt s.1 0) 0 = nI i) (q : s.2.2.1 a i = -1) : rWout (X1S s) s.2.1 s.2.2.1 s.2.2.2 a = (0, ip_up (ip_up (X1S s) 32 8 (nI i)) 32 7 (nI i), s.2.2.1, s.2.2.2) := by
  have eo := old_eq (t := 0) (by decide) (show i < 2 ^ 31 by omega) hkd hnf
  unfold rWout
  rw [show rOld (X1S s) s.2.1 s.2.2.1 s.2.2.2 6 = (0, ip_up (X1S s) 32 8 (nI i), s.2.2.1, s.2.2.2) from eo, if_pos rfl]
  simp only [x8_8]
  rw [rget_nI hi (by decide), if_pos q]
theorem wout_7 {i a : Nat} (hi : i < 12) (hkd : s.1 33 3 = 2) (hnf : nfi (s.2.2.2 7) s.2.1 (cnt s.1 0) 0 = nI i) (q : ¬ s.2.2.1 a i = -1) : (rWout (X1S s) s.2.1 s.2.2.1 s.2.2.2 a).1 = 7 := by
  have eo := old_eq (t := 0) (by decide) (show i < 2 ^ 31 by omega) hkd hnf
  unfold rWout
  rw [show rOld (X1S s) s.2.1 s.2.2.1 s.2.2.2 6 = (0, ip_up (X1S s) 32 8 (nI i), s.2.2.1, s.2.2.2) from eo, if_pos rfl]
  simp only [x8_8]
  rw [rget_nI hi (by decide), if_neg q]
theorem wout_f {a : Nat} (z : ¬ (rOld (X1S s) s.2.1 s.2.2.1 s.2.2.2 6).1 = 0) : (rWout (X1S s) s.2.1 s.2.2.1 s.2.2.2 a).1 = (rOld (X1S s) s.2.1 s.2.2.1 s.2.2.2 6).1 := by
  unfold rWout
  rw [if_neg z]
theorem md_rdL (h : LR N s X I) (hm : MN s.1 s.2.2.2 X I) (hv : MVf s.1 s.2.2.1 X I) (h5 : s.1 32 5 = 259) (h6 : s.1 32 6 = 0)
    (hk : ∀ X' I', RDp N (out1 N s) X I (s.1 5 14) ((s.1 33 2).toNatClampNeg) X' I' → post none (g0, fld X' y, I', J)) : ip_WP 45 0 [some (.ref 47), none, none] [] (g0, fld X y, I, J) b post px := by
  have hp : takeS s = rWout (X1S s) s.2.1 s.2.2.1 s.2.2.2 15 := by rw [h.part, h5, h6, lat_1]
  have h5' : ¬ s.1 32 5 = -1 := by rw [h5]; decide
  have bad : ∀ (X' : Nat → Nat → Int32) (k2 : Nat), FR X X' I I → FT (out1 N s) X' → ip_WP 45 45 [some (.ref 47), some (.int (nI k2)), some (.int 0)] [] (g0, fld X' y, I, J) b post px := by
    intro X' k2 hf hF
    have hf' : ¬ X' 47 6 ≤ 0 := Int32.not_le.mpr hF.pos
    simp only [s45_0, s45_1, s45_2, s45_5, s45_6, s45_7, s45_8, s45_11, s45_14, s45_15, s45_18, s45_19, s45_20, s45_23, s45_24, s45_27, s45_28, s45_31, s45_32, s45_33, s45_35, s45_38, s45_39, s45_41, s45_44, s45_45, s45_46, s45_49, s45_52, s45_53, s45_54, s45_57, s45_58, s45_59, s45_60, s45_61, s45_64, s45_65, s45_66, s45_67, f_47_0, f_47_1, u_47_1, f_47_2, u_47_2, f_47_3, f_47_4, u_47_4, f_47_5, f_47_6, u_47_6, f_47_7, u_47_7, f_47_8, u_47_8, f_47_9, u_47_9, f_47_10, u_47_10, f_47_11, f_47_12, f_47_13, f_47_14, f_47_15, f_47_16, f_47_17, f_47_18, f_47_19, f_47_20, f_47_21, f_47_22, f_47_23, u_47_23, f_47_24, f_47_25, f_47_26, f_47_27, f_47_28, f_47_29, u_47_29, f_47_30, u_47_30, f_47_31, f_47_32, f_47_33, f_47_34, f_47_35, u_47_35, f_47_36, u_47_36, f_47_37, u_47_37, f_47_38, u_47_38, o_47, hf', Option.toList_some, Option.toList_none, List.cons_append, List.nil_append, List.append_nil, ip_on_some, true_and, and_true, if_true, if_false, not_true_eq_false, not_false_eq_true, decide_true, true_or, or_true, or_self, Bool.false_eq_true]
    exact hk X' I (rdp_ft hf hF)
  simp only [s45_0, s45_1, s45_2, s45_5, s45_6, s45_7, s45_8, s45_11, s45_14, s45_15, s45_18, s45_19, s45_20, s45_23, s45_24, s45_27, s45_28, s45_31, s45_32, s45_33, s45_35, s45_38, s45_39, s45_41, s45_44, s45_45, s45_46, s45_49, s45_52, s45_53, s45_54, s45_57, s45_58, s45_59, s45_60, s45_61, s45_64, s45_65, s45_66, s45_67, f_47_0, f_47_1, u_47_1, f_47_2, u_47_2, f_47_3, f_47_4, u_47_4, f_47_5, f_47_6, u_47_6, f_47_7, u_47_7, f_47_8, u_47_8, f_47_9, u_47_9, f_47_10, u_47_10, f_47_11, f_47_12, f_47_13, f_47_14, f_47_15, f_47_16, f_47_17, f_47_18, f_47_19, f_47_20, f_47_21, f_47_22, f_47_23, u_47_23, f_47_24, f_47_25, f_47_26, f_47_27, f_47_28, f_47_29, u_47_29, f_47_30, u_47_30, f_47_31, f_47_32, f_47_33, f_47_34, f_47_35, u_47_35, f_47_36, u_47_36, f_47_37, u_47_37, f_47_38, u_47_38, o_47, Option.toList_some, Option.toList_none, List.cons_append, List.nil_append, List.append_nil, ip_on_some, true_and, and_true, if_true, if_false, not_true_eq_false, not_false_eq_true, decide_true, true_or, or_true, or_self, Bool.false_eq_true]
  refine md_old (t := 0) h hm h5' (by decide) (fun z => by rw [hp]; exact wout_f z) (fun X' mf hF => ?_) (fun i hi hkd hkey hnf => ?_)
  · have := bad X' 0 mf.toF hF
    rw [nI_0] at this
    simp only [s45_0, s45_1, s45_2, s45_5, s45_6, s45_7, s45_8, s45_11, s45_14, s45_15, s45_18, s45_19, s45_20, s45_23, s45_24, s45_27, s45_28, s45_31, s45_32, s45_33, s45_35, s45_38, s45_39, s45_41, s45_44, s45_46, s45_49, s45_52, s45_53, s45_54, s45_57, s45_58, s45_59, s45_60, s45_61, s45_64, s45_65, s45_66, s45_67, f_47_0, f_47_1, u_47_1, f_47_2, u_47_2, f_47_3, f_47_4, u_47_4, f_47_5, f_47_6, u_47_6, f_47_7, u_47_7, f_47_8, u_47_8, f_47_9, u_47_9, f_47_10, u_47_10, f_47_11, f_47_12, f_47_13, f_47_14, f_47_15, f_47_16, f_47_17, f_47_18, f_47_19, f_47_20, f_47_21, f_47_22, f_47_23, u_47_23, f_47_24, f_47_25, f_47_26, f_47_27, f_47_28, f_47_29, u_47_29, f_47_30, u_47_30, f_47_31, f_47_32, f_47_33, f_47_34, f_47_35, u_47_35, f_47_36, u_47_36, f_47_37, u_47_37, f_47_38, u_47_38, o_47, ne0 hF.pos, md_takeF hF.pos, md_signF hF.pos, md_numF hF.pos, Option.toList_some, Option.toList_none, List.cons_append, List.nil_append, List.append_nil, ip_on_some, true_and, and_true, if_true, if_false, not_true_eq_false, not_false_eq_true, decide_true, true_or, or_true, or_self, Bool.false_eq_true]
    exact this
  · have hb := (hm.bd.c 0 (by decide)).2.1
    simp only [Nat.reduceLT, if_true] at hb
    have hi12 : i < 12 := by omega
    have c2 : ¬ nI i < 0 := nI_pos (by omega)
    have c3 : ¬ 12 ≤ i := by omega
    have e59 : I 59 i = bI (¬ s.2.2.1 15 i = -1) := (hv.hla i hi12).1
    have rest : ∀ (X' : Nat → Nat → Int32) (s1 : SS), MF X X' → LR N s1 X' I → ST N s s1 → CE s.1 s1.1 → s1.2.2 = s.2.2 → s1.1 32 5 = 259 → s1.1 32 6 = 1 → s1.1 32 7 = nI i → ip_WP 45 32 [some (.ref 47), some (.int (nI i)), none] [] (g0, fld X' y, I, J) b post px := by
      intro X' s1 mf hL hs ce e2 a5 a6 a7
      have b5 : ¬ s1.1 32 5 = -1 := by rw [a5]; decide
      have hp1 : takeS s1 = rSign (X1S s1) s1.2.2.1 s1.2.2.2 61 := by rw [hL.part, a5, a6, lat_2]
      simp only [s45_0, s45_1, s45_2, s45_5, s45_6, s45_7, s45_8, s45_11, s45_14, s45_15, s45_18, s45_19, s45_20, s45_23, s45_24, s45_27, s45_28, s45_31, s45_32, s45_33, s45_35, s45_38, s45_39, s45_41, s45_44, s45_46, s45_49, s45_52, s45_53, s45_54, s45_57, s45_58, s45_59, s45_60, s45_61, s45_64, s45_65, s45_66, s45_67, f_47_0, f_47_1, u_47_1, f_47_2, u_47_2, f_47_3, f_47_4, u_47_4, f_47_5, f_47_6, u_47_6, f_47_7, u_47_7, f_47_8, u_47_8, f_47_9, u_47_9, f_47_10, u_47_10, f_47_11, f_47_12, f_47_13, f_47_14, f_47_15, f_47_16, f_47_17, f_47_18, f_47_19, f_47_20, f_47_21, f_47_22, f_47_23, u_47_23, f_47_24, f_47_25, f_47_26, f_47_27, f_47_28, f_47_29, u_47_29, f_47_30, u_47_30, f_47_31, f_47_32, f_47_33, f_47_34, f_47_35, u_47_35, f_47_36, u_47_36, f_47_37, u_47_37, f_47_38, u_47_38, o_47, Option.toList_some, Option.toList_none, List.cons_append, List.nil_append, List.append_nil, ip_on_some, true_and, and_true, if_true, if_false, not_true_eq_false, not_false_eq_true, decide_true, true_or, or_true, or_self, Bool.false_eq_true]
      refine st_sign hL (by decide) b5 hp1 (fun X2 mf2 hF => ?_) (fun X2 s2 mf2 hL2 hs2 ce2 e3 d5 d6 d7 => ?_)
      · rw [hs.out] at hF
        simp only [s45_0, s45_1, s45_2, s45_5, s45_6, s45_7, s45_8, s45_11, s45_14, s45_15, s45_18, s45_19, s45_20, s45_23, s45_24, s45_27, s45_28, s45_31, s45_32, s45_33, s45_35, s45_38, s45_39, s45_41, s45_44, s45_46, s45_49, s45_52, s45_53, s45_54, s45_57, s45_58, s45_59, s45_60, s45_61, s45_64, s45_65, s45_66, s45_67, f_47_0, f_47_1, u_47_1, f_47_2, u_47_2, f_47_3, f_47_4, u_47_4, f_47_5, f_47_6, u_47_6, f_47_7, u_47_7, f_47_8, u_47_8, f_47_9, u_47_9, f_47_10, u_47_10, f_47_11, f_47_12, f_47_13, f_47_14, f_47_15, f_47_16, f_47_17, f_47_18, f_47_19, f_47_20, f_47_21, f_47_22, f_47_23, u_47_23, f_47_24, f_47_25, f_47_26, f_47_27, f_47_28, f_47_29, u_47_29, f_47_30, u_47_30, f_47_31, f_47_32, f_47_33, f_47_34, f_47_35, u_47_35, f_47_36, u_47_36, f_47_37, u_47_37, f_47_38, u_47_38, o_47, md_numF hF.pos, Option.toList_some, Option.toList_none, List.cons_append, List.nil_append, List.append_nil, ip_on_some, true_and, and_true, if_true, if_false, not_true_eq_false, not_false_eq_true, decide_true, true_or, or_true, or_self, Bool.false_eq_true]
        exact bad X2 i (mf.toF.trans mf2.toF) hF
      · have f5 : ¬ s2.1 32 5 = -1 := by rw [d5]; exact b5
        have hp2 : takeS s2 = rNum (X1S s2) s2.2.2.1 s2.2.2.2 15 12 99 := by
          rw [hL2.part, d5, a5, d6, a6]
          exact lat_3
        simp only [s45_0, s45_1, s45_2, s45_5, s45_6, s45_7, s45_8, s45_11, s45_14, s45_15, s45_18, s45_19, s45_20, s45_23, s45_24, s45_27, s45_28, s45_31, s45_32, s45_33, s45_35, s45_38, s45_39, s45_41, s45_44, s45_46, s45_49, s45_52, s45_53, s45_54, s45_57, s45_58, s45_59, s45_60, s45_61, s45_64, s45_65, s45_66, s45_67, f_47_0, f_47_1, u_47_1, f_47_2, u_47_2, f_47_3, f_47_4, u_47_4, f_47_5, f_47_6, u_47_6, f_47_7, u_47_7, f_47_8, u_47_8, f_47_9, u_47_9, f_47_10, u_47_10, f_47_11, f_47_12, f_47_13, f_47_14, f_47_15, f_47_16, f_47_17, f_47_18, f_47_19, f_47_20, f_47_21, f_47_22, f_47_23, u_47_23, f_47_24, f_47_25, f_47_26, f_47_27, f_47_28, f_47_29, u_47_29, f_47_30, u_47_30, f_47_31, f_47_32, f_47_33, f_47_34, f_47_35, u_47_35, f_47_36, u_47_36, f_47_37, u_47_37, f_47_38, u_47_38, o_47, Option.toList_some, Option.toList_none, List.cons_append, List.nil_append, List.append_nil, ip_on_some, true_and, and_true, if_true, if_false, not_true_eq_false, not_false_eq_true, decide_true, true_or, or_true, or_self, Bool.false_eq_true]
        refine st_num hL2 f5 hp2 (fun X3 r mf3 hF => ?_) (fun X3 s3 mf3 hL3 hs3 ce3 e4 g5 g6 g7 l1 l2 => ?_)
        · rw [hs2.out, hs.out] at hF
          have hf' : ¬ X3 47 6 ≤ 0 := Int32.not_le.mpr hF.pos
          simp only [s45_0, s45_1, s45_2, s45_5, s45_6, s45_7, s45_8, s45_11, s45_14, s45_15, s45_18, s45_19, s45_20, s45_23, s45_24, s45_27, s45_28, s45_31, s45_32, s45_33, s45_35, s45_38, s45_39, s45_41, s45_44, s45_45, s45_46, s45_49, s45_52, s45_53, s45_54, s45_57, s45_58, s45_59, s45_60, s45_61, s45_64, s45_65, s45_66, s45_67, f_47_0, f_47_1, u_47_1, f_47_2, u_47_2, f_47_3, f_47_4, u_47_4, f_47_5, f_47_6, u_47_6, f_47_7, u_47_7, f_47_8, u_47_8, f_47_9, u_47_9, f_47_10, u_47_10, f_47_11, f_47_12, f_47_13, f_47_14, f_47_15, f_47_16, f_47_17, f_47_18, f_47_19, f_47_20, f_47_21, f_47_22, f_47_23, u_47_23, f_47_24, f_47_25, f_47_26, f_47_27, f_47_28, f_47_29, u_47_29, f_47_30, u_47_30, f_47_31, f_47_32, f_47_33, f_47_34, f_47_35, u_47_35, f_47_36, u_47_36, f_47_37, u_47_37, f_47_38, u_47_38, o_47, hf', Option.toList_some, Option.toList_none, List.cons_append, List.nil_append, List.append_nil, ip_on_some, true_and, and_true, if_true, if_false, not_true_eq_false, not_false_eq_true, decide_true, true_or, or_true, or_self, Bool.false_eq_true]
          exact hk X3 I (rdp_ft ((mf.toF.trans mf2.toF).trans mf3.toF) hF)
        · have hf' : X3 47 6 ≤ 0 := by rw [hL3.b.f]; decide
          simp only [s45_0, s45_1, s45_2, s45_5, s45_6, s45_7, s45_8, s45_11, s45_14, s45_15, s45_18, s45_19, s45_20, s45_23, s45_24, s45_27, s45_28, s45_31, s45_32, s45_33, s45_35, s45_38, s45_39, s45_41, s45_44, s45_45, s45_46, s45_49, s45_52, s45_53, s45_54, s45_57, s45_58, s45_59, s45_60, s45_61, s45_64, s45_65, s45_66, s45_67, f_47_0, f_47_1, u_47_1, f_47_2, u_47_2, f_47_3, f_47_4, u_47_4, f_47_5, f_47_6, u_47_6, f_47_7, u_47_7, f_47_8, u_47_8, f_47_9, u_47_9, f_47_10, u_47_10, f_47_11, f_47_12, f_47_13, f_47_14, f_47_15, f_47_16, f_47_17, f_47_18, f_47_19, f_47_20, f_47_21, f_47_22, f_47_23, u_47_23, f_47_24, f_47_25, f_47_26, f_47_27, f_47_28, f_47_29, u_47_29, f_47_30, u_47_30, f_47_31, f_47_32, f_47_33, f_47_34, f_47_35, u_47_35, f_47_36, u_47_36, f_47_37, u_47_37, f_47_38, u_47_38, o_47, a_58, l_58, a_59, l_59, an_59, hf', nI_clamp (show i < 2 ^ 31 by omega), c2, c3, vn1, Option.toList_some, Option.toList_none, List.cons_append, List.nil_append, List.append_nil, ip_on_some, true_and, and_true, if_true, if_false, not_true_eq_false, not_false_eq_true, decide_true, true_or, or_true, or_self, Bool.false_eq_true]
          have ceA : CE s.1 s3.1 := (ce.trans ce2).trans ce3
          have eI : s3.2.2.1 = ip_up s.2.2.1 15 i (s2.1 33 6) := by
            rw [e4]
            show rset s2.2.2.1 15 12 (s2.1 32 7) (s2.1 33 6) = _
            rw [d7, a7, rset_nI hi12 (by decide), show s2.2.2.1 = s.2.2.1 from (congrArg Prod.fst e3).trans (congrArg Prod.fst e2)]
          have eJ : s3.2.2.2 = s.2.2.2 := by
            rw [e4]
            show s2.2.2.2 = _
            exact (congrArg Prod.snd e3).trans (congrArg Prod.snd e2)
          refine hk _ _ ⟨((mf.toF.trans mf2.toF).trans mf3.toF).trans ((FR.arr (by decide) (by decide)).trans (FR.arr (by decide) (by decide))), Or.inr ⟨s3, ?_, ?_, ?_, ?_, ?_, ?_, ?_, Nat.le_trans hs.pos (Nat.le_trans hs2.pos hs3.pos)⟩⟩
          · exact hL3.of (fun _ _ => rfl) (by rw [up1, if_neg (by decide), up1, if_neg (by decide)]) (by rw [up1, if_neg (by decide), up1, if_neg (by decide)])
          · rw [eJ]
            exact ((((hm.xc ceA).mf mf).mf mf2).mf mf3).fr rfl (fun a h1 h2 => by rw [up1, if_neg (by omega), up1, if_neg (by omega)])
          · rw [eI]
            exact MVf.xc (MV.lat_up (MV.mf (MV.mf (MV.mf hv mf) mf2) mf3) hi l1 l2) ceA
          · rw [hs3.out, hs2.out, hs.out]
          · rw [g5]; exact f5
          · rw [hL3.part, g5, d5, a5, g6, d6, a6]
            exact lat_4
          · rw [ceA 5 (by decide) (by decide)]
    by_cases q : s.2.2.1 15 i = -1
    · have hst : takeS s = (0, ip_up (ip_up (X1S s) 32 8 (nI i)) 32 7 (nI i), s.2.2.1, s.2.2.2) := by rw [hp]; exact wout_0 hi12 hkd hnf q
      have z59 : I 59 i = 0 := by rw [e59]; exact bI_f (fun z => z q)
      simp only [s45_0, s45_1, s45_2, s45_5, s45_6, s45_7, s45_8, s45_11, s45_14, s45_15, s45_18, s45_19, s45_20, s45_23, s45_24, s45_27, s45_28, s45_31, s45_33, s45_35, s45_38, s45_39, s45_41, s45_44, s45_46, s45_49, s45_52, s45_53, s45_54, s45_57, s45_58, s45_59, s45_60, s45_61, s45_64, s45_65, s45_66, s45_67, f_47_0, f_47_1, u_47_1, f_47_2, u_47_2, f_47_3, f_47_4, u_47_4, f_47_5, f_47_6, u_47_6, f_47_7, u_47_7, f_47_8, u_47_8, f_47_9, u_47_9, f_47_10, u_47_10, f_47_11, f_47_12, f_47_13, f_47_14, f_47_15, f_47_16, f_47_17, f_47_18, f_47_19, f_47_20, f_47_21, f_47_22, f_47_23, u_47_23, f_47_24, f_47_25, f_47_26, f_47_27, f_47_28, f_47_29, u_47_29, f_47_30, u_47_30, f_47_31, f_47_32, f_47_33, f_47_34, f_47_35, u_47_35, f_47_36, u_47_36, f_47_37, u_47_37, f_47_38, u_47_38, o_47, a_59, l_59, an_59, h.b.f, nI_clamp (show i < 2 ^ 31 by omega), c2, c3, Bool.false_or, z59, Option.toList_some, Option.toList_none, List.cons_append, List.nil_append, List.append_nil, ip_on_some, true_and, and_true, if_true, if_false, not_true_eq_false, not_false_eq_true, decide_true, true_or, or_true, or_self, Bool.false_eq_true]
      refine st_take (v := False) h h5' (fun z => z.elim) (fun _ => hst) (fun X' r mf hF => ?_) (fun X' s1 _ mf hL hs e1 e2 => ?_)
      · simp only [s45_0, s45_1, s45_2, s45_5, s45_6, s45_7, s45_8, s45_11, s45_14, s45_15, s45_18, s45_19, s45_20, s45_23, s45_24, s45_27, s45_28, s45_31, s45_32, s45_33, s45_35, s45_38, s45_39, s45_41, s45_44, s45_46, s45_49, s45_52, s45_53, s45_54, s45_57, s45_58, s45_59, s45_60, s45_61, s45_64, s45_65, s45_66, s45_67, f_47_0, f_47_1, u_47_1, f_47_2, u_47_2, f_47_3, f_47_4, u_47_4, f_47_5, f_47_6, u_47_6, f_47_7, u_47_7, f_47_8, u_47_8, f_47_9, u_47_9, f_47_10, u_47_10, f_47_11, f_47_12, f_47_13, f_47_14, f_47_15, f_47_16, f_47_17, f_47_18, f_47_19, f_47_20, f_47_21, f_47_22, f_47_23, u_47_23, f_47_24, f_47_25, f_47_26, f_47_27, f_47_28, f_47_29, u_47_29, f_47_30, u_47_30, f_47_31, f_47_32, f_47_33, f_47_34, f_47_35, u_47_35, f_47_36, u_47_36, f_47_37, u_47_37, f_47_38, u_47_38, o_47, md_signF hF.pos, md_numF hF.pos, Option.toList_some, Option.toList_none, List.cons_append, List.nil_append, List.append_nil, ip_on_some, true_and, and_true, if_true, if_false, not_true_eq_false, not_false_eq_true, decide_true, true_or, or_true, or_self, Bool.false_eq_true]
        exact bad X' i mf.toF hF
      · simp only [s45_0, s45_1, s45_2, s45_5, s45_6, s45_7, s45_8, s45_11, s45_14, s45_15, s45_18, s45_19, s45_20, s45_23, s45_24, s45_27, s45_28, s45_31, s45_33, s45_35, s45_38, s45_39, s45_41, s45_44, s45_46, s45_49, s45_52, s45_53, s45_54, s45_57, s45_58, s45_59, s45_60, s45_61, s45_64, s45_65, s45_66, s45_67, f_47_0, f_47_1, u_47_1, f_47_2, u_47_2, f_47_3, f_47_4, u_47_4, f_47_5, f_47_6, u_47_6, f_47_7, u_47_7, f_47_8, u_47_8, f_47_9, u_47_9, f_47_10, u_47_10, f_47_11, f_47_12, f_47_13, f_47_14, f_47_15, f_47_16, f_47_17, f_47_18, f_47_19, f_47_20, f_47_21, f_47_22, f_47_23, u_47_23, f_47_24, f_47_25, f_47_26, f_47_27, f_47_28, f_47_29, u_47_29, f_47_30, u_47_30, f_47_31, f_47_32, f_47_33, f_47_34, f_47_35, u_47_35, f_47_36, u_47_36, f_47_37, u_47_37, f_47_38, u_47_38, o_47, Option.toList_some, Option.toList_none, List.cons_append, List.nil_append, List.append_nil, ip_on_some, true_and, and_true, if_true, if_false, not_true_eq_false, not_false_eq_true, decide_true, true_or, or_true, or_self, Bool.false_eq_true]
        exact rest X' s1 mf hL hs (fun k h1 h2 => by rw [e1 k h2, x87_ne h1]) e2 (by rw [e1 32 (by decide), x87_5, h5]) (by rw [e1 32 (by decide), x87_6, h6]; rfl) (by rw [e1 32 (by decide), x87_7])
    · have hst : (takeS s).1 = 7 := by rw [hp]; exact wout_7 hi12 hkd hnf q
      have z59 : I 59 i = 1 := by rw [e59]; exact bI_t q
      simp only [s45_0, s45_1, s45_2, s45_5, s45_6, s45_7, s45_8, s45_11, s45_14, s45_15, s45_18, s45_19, s45_20, s45_23, s45_24, s45_27, s45_28, s45_31, s45_33, s45_35, s45_38, s45_39, s45_41, s45_44, s45_46, s45_49, s45_52, s45_53, s45_54, s45_57, s45_58, s45_59, s45_60, s45_61, s45_64, s45_65, s45_66, s45_67, f_47_0, f_47_1, u_47_1, f_47_2, u_47_2, f_47_3, f_47_4, u_47_4, f_47_5, f_47_6, u_47_6, f_47_7, u_47_7, f_47_8, u_47_8, f_47_9, u_47_9, f_47_10, u_47_10, f_47_11, f_47_12, f_47_13, f_47_14, f_47_15, f_47_16, f_47_17, f_47_18, f_47_19, f_47_20, f_47_21, f_47_22, f_47_23, u_47_23, f_47_24, f_47_25, f_47_26, f_47_27, f_47_28, f_47_29, u_47_29, f_47_30, u_47_30, f_47_31, f_47_32, f_47_33, f_47_34, f_47_35, u_47_35, f_47_36, u_47_36, f_47_37, u_47_37, f_47_38, u_47_38, o_47, a_59, l_59, an_59, h.b.f, nI_clamp (show i < 2 ^ 31 by omega), c2, c3, Bool.false_or, z59, qe_m1_0, qe_m1_1, qe_m1_2, qe_m1_3, qe_m1_4, qe_m1_5, qe_m1_6, qe_m1_7, qe_m1_8, qe_0_m1, qe_0_1, qe_0_2, qe_0_3, qe_0_4, qe_0_5, qe_0_6, qe_0_7, qe_0_8, qe_1_m1, qe_1_0, qe_1_2, qe_1_3, qe_1_4, qe_1_5, qe_1_6, qe_1_7, qe_1_8, qe_2_m1, qe_2_0, qe_2_1, qe_2_3, qe_2_4, qe_2_5, qe_2_6, qe_2_7, qe_2_8, qe_3_m1, qe_3_0, qe_3_1, qe_3_2, qe_3_4, qe_3_5, qe_3_6, qe_3_7, qe_3_8, qe_4_m1, qe_4_0, qe_4_1, qe_4_2, qe_4_3, qe_4_5, qe_4_6, qe_4_7, qe_4_8, qe_5_m1, qe_5_0, qe_5_1, qe_5_2, qe_5_3, qe_5_4, qe_5_6, qe_5_7, qe_5_8, qe_6_m1, qe_6_0, qe_6_1, qe_6_2, qe_6_3, qe_6_4, qe_6_5, qe_6_7, qe_6_8, qe_7_m1, qe_7_0, qe_7_1, qe_7_2, qe_7_3, qe_7_4, qe_7_5, qe_7_6, qe_7_8, qe_8_m1, qe_8_0, qe_8_1, qe_8_2, qe_8_3, qe_8_4, qe_8_5, qe_8_6, qe_8_7, Option.toList_some, Option.toList_none, List.cons_append, List.nil_append, List.append_nil, ip_on_some, true_and, and_true, if_true, if_false, not_true_eq_false, not_false_eq_true, decide_true, true_or, or_true, or_self, Bool.false_eq_true]
      refine st_take (v := True) (X'' := X) (I'' := I) (J'' := J) h h5' (fun _ => hst) (fun z => absurd trivial z) (fun X' r mf hF => ?_) (fun X' s1 z => absurd trivial z)
      simp only [s45_0, s45_1, s45_2, s45_5, s45_6, s45_7, s45_8, s45_11, s45_14, s45_15, s45_18, s45_19, s45_20, s45_23, s45_24, s45_27, s45_28, s45_31, s45_32, s45_33, s45_35, s45_38, s45_39, s45_41, s45_44, s45_46, s45_49, s45_52, s45_53, s45_54, s45_57, s45_58, s45_59, s45_60, s45_61, s45_64, s45_65, s45_66, s45_67, f_47_0, f_47_1, u_47_1, f_47_2, u_47_2, f_47_3, f_47_4, u_47_4, f_47_5, f_47_6, u_47_6, f_47_7, u_47_7, f_47_8, u_47_8, f_47_9, u_47_9, f_47_10, u_47_10, f_47_11, f_47_12, f_47_13, f_47_14, f_47_15, f_47_16, f_47_17, f_47_18, f_47_19, f_47_20, f_47_21, f_47_22, f_47_23, u_47_23, f_47_24, f_47_25, f_47_26, f_47_27, f_47_28, f_47_29, u_47_29, f_47_30, u_47_30, f_47_31, f_47_32, f_47_33, f_47_34, f_47_35, u_47_35, f_47_36, u_47_36, f_47_37, u_47_37, f_47_38, u_47_38, o_47, md_signF hF.pos, md_numF hF.pos, Option.toList_some, Option.toList_none, List.cons_append, List.nil_append, List.append_nil, ip_on_some, true_and, and_true, if_true, if_false, not_true_eq_false, not_false_eq_true, decide_true, true_or, or_true, or_self, Bool.false_eq_true]
      exact bad X' i mf.toF hF
end
