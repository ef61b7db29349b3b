/-! readResult, readQueue -/
theorem que_1 {s : SS} : rPart (X1S s) s.2.1 s.2.2.1 s.2.2.2 263 0 = rNew (X1S s) s.2.1 s.2.2.1 s.2.2.2 10 8 := by simp [rPart, pQue]
theorem que_2 {s : SS} : rPart (X1S s) s.2.1 s.2.2.1 s.2.2.2 263 1 = rSign (X1S s) s.2.2.1 s.2.2.2 61 := by simp [rPart, pQue]
theorem que_3 {s : SS} : rPart (X1S s) s.2.1 s.2.2.1 s.2.2.2 263 2 = rNum (X1S s) s.2.2.1 s.2.2.2 27 8 999 := by simp [rPart, pQue]
theorem que_4 {s : SS} : rPart (X1S s) s.2.1 s.2.2.1 s.2.2.2 263 3 = rWord (X1S s) s.2.2.1 s.2.2.2 264 := by simp [rPart, pQue]
theorem que_5 {s : SS} : rPart (X1S s) s.2.1 s.2.2.1 s.2.2.2 263 4 = rStg (X1S s) s.2.1 s.2.2.1 s.2.2.2 29 8 := by simp [rPart, pQue]
theorem que_6 {s : SS} : rPart (X1S s) s.2.1 s.2.2.1 s.2.2.2 263 5 = rClose (X1S s) s.2.2.1 s.2.2.2 := by simp [rPart, pQue]
section
variable {N : Nat} {s : SS} {X : Nat → Nat → Int32} {y : Int64} {I : Nat → Nat → Int32} {J : Nat → Nat → Int64} {b : ip_B} {post : Option Value → ip_H → Prop} {px : String → ip_H → Prop}
theorem stg_f {a n : Nat} (z : ¬ (rOld (X1S s) s.2.1 s.2.2.1 s.2.2.2 8).1 = 0) : (rStg (X1S s) s.2.1 s.2.2.1 s.2.2.2 a n).1 = (rOld (X1S s) s.2.1 s.2.2.1 s.2.2.2 8).1 := by
  unfold rStg
  rw [if_neg z]
theorem stg_0 {i u a n : Nat} (hi : i < n) (hn : n < 2 ^ 31) (hu : u < 2 ^ 31) (h7 : s.1 32 7 = nI i) (hkd : s.1 33 3 = 2) (hnf : nfi (s.2.2.2 9) s.2.1 (cnt s.1 1) 0 = nI u) : rStg (X1S s) s.2.1 s.2.2.1 s.2.2.2 a n = (0, ip_up (X1S s) 32 8 (nI u), ip_up s.2.2.1 a i (nI u), s.2.2.2) := by
  have eo := old_eq (t := 1) (by decide) hu hkd hnf
  unfold rStg
  rw [show rOld (X1S s) s.2.1 s.2.2.1 s.2.2.2 8 = (0, ip_up (X1S s) 32 8 (nI u), s.2.2.1, s.2.2.2) from eo, if_pos rfl]
  simp only [x8_8, x8_7]
  rw [h7, rset_nI hi hn]
theorem lt_m1 {x : Int32} (h : x = -1 ∨ ∃ u, u < 12 ∧ x = nI u) : (x < 0) = (x = -1) := by
  rcases h with h | ⟨u, hu, h⟩
  · rw [h]; decide
  · have h1 : ¬ nI u < 0 := nI_pos (by omega)
    have h2 := nI_nm1 (i := u) (by omega)
    rw [h]
    simp only [h1, h2]
theorem md_rdR (h : LR N s X I) (hm : MN s.1 s.2.2.2 X I) (hv : MVf s.1 s.2.2.1 X I) (h5 : s.1 32 5 = 260) (h6 : s.1 32 6 = 0)
    (hk : ∀ X' I', RDp N (out1 N s) X I (s.1 5 14) ((s.1 33 2).toNatClampNeg) X' I' → post none (g0, fld X' y, I', J)) : ip_WP 46 0 [some (.ref 47), none, none] [] (g0, fld X y, I, J) b post px := by
  have hp : takeS s = rWout (X1S s) s.2.1 s.2.2.1 s.2.2.2 17 := by rw [h.part, h5, h6, res_1]
  have h5' : ¬ s.1 32 5 = -1 := by rw [h5]; decide
  have hb1 := (hm.bd.c 1 (by decide)).2.1
  simp only [Nat.reduceLT, if_true] at hb1
  simp only [s46_0, s46_1, s46_2, s46_5, s46_6, s46_7, s46_8, s46_11, s46_14, s46_15, s46_18, s46_19, s46_20, s46_23, s46_24, s46_27, s46_28, s46_31, s46_32, s46_33, s46_35, s46_38, s46_39, s46_40, s46_43, s46_44, s46_45, s46_46, s46_49, s46_52, s46_53, s46_56, s46_57, s46_58, s46_59, f_47_0, f_47_1, u_47_1, f_47_2, u_47_2, f_47_3, f_47_4, u_47_4, f_47_5, f_47_6, u_47_6, f_47_7, u_47_7, f_47_8, u_47_8, f_47_9, u_47_9, f_47_10, u_47_10, f_47_11, f_47_12, f_47_13, f_47_14, f_47_15, f_47_16, f_47_17, f_47_18, f_47_19, f_47_20, f_47_21, f_47_22, f_47_23, u_47_23, f_47_24, f_47_25, f_47_26, f_47_27, f_47_28, f_47_29, u_47_29, f_47_30, u_47_30, f_47_31, f_47_32, f_47_33, f_47_34, f_47_35, u_47_35, f_47_36, u_47_36, f_47_37, u_47_37, f_47_38, u_47_38, o_47, Option.toList_some, Option.toList_none, List.cons_append, List.nil_append, List.append_nil, ip_on_some, true_and, and_true, if_true, if_false, not_true_eq_false, not_false_eq_true, decide_true, true_or, or_true, or_self, Bool.false_eq_true]
  refine md_old (t := 0) h hm h5' (by decide) (fun z => by rw [hp]; exact wout_f z) (fun X' mf hF => ?_) (fun i hi hkd hkey hnf => ?_)
  · simp only [s46_0, s46_1, s46_2, s46_5, s46_6, s46_7, s46_8, s46_11, s46_14, s46_15, s46_18, s46_19, s46_20, s46_23, s46_24, s46_27, s46_28, s46_31, s46_32, s46_33, s46_35, s46_38, s46_39, s46_40, s46_43, s46_44, s46_45, s46_46, s46_49, s46_52, s46_53, s46_56, s46_57, s46_58, s46_59, f_47_0, f_47_1, u_47_1, f_47_2, u_47_2, f_47_3, f_47_4, u_47_4, f_47_5, f_47_6, u_47_6, f_47_7, u_47_7, f_47_8, u_47_8, f_47_9, u_47_9, f_47_10, u_47_10, f_47_11, f_47_12, f_47_13, f_47_14, f_47_15, f_47_16, f_47_17, f_47_18, f_47_19, f_47_20, f_47_21, f_47_22, f_47_23, u_47_23, f_47_24, f_47_25, f_47_26, f_47_27, f_47_28, f_47_29, u_47_29, f_47_30, u_47_30, f_47_31, f_47_32, f_47_33, f_47_34, f_47_35, u_47_35, f_47_36, u_47_36, f_47_37, u_47_37, f_47_38, u_47_38, o_47, ne0 hF.pos, md_takeF hF.pos, md_signF hF.pos, md_oldF hF.pos, Option.toList_some, Option.toList_none, List.cons_append, List.nil_append, List.append_nil, ip_on_some, true_and, and_true, if_true, if_false, not_true_eq_false, not_false_eq_true, decide_true, true_or, or_true, or_self, Bool.false_eq_true]
    exact hk X' I (rdp_ft mf.toF hF)
  · have hb := (hm.bd.c 0 (by decide)).2.1
    simp only [Nat.reduceLT, if_true] at hb
    have hi12 : i < 12 := by omega
    have c2 : ¬ nI i < 0 := nI_pos (by omega)
    have c3 : ¬ 12 ≤ i := by omega
    have e60 : I 60 i = s.2.2.1 17 i := (hv.res i hi12).1
    have elt : (s.2.2.1 17 i < 0) = (s.2.2.1 17 i = -1) := lt_m1 ((hv.res i hi12).2.imp id (fun ⟨u, hu, e⟩ => ⟨u, by omega, e⟩))
    have rest : ∀ (X' : Nat → Nat → Int32) (s1 : SS), MF X X' → LR N s1 X' I → ST N s s1 → CE s.1 s1.1 → s1.2.2 = s.2.2 → s1.1 32 5 = 260 → s1.1 32 6 = 1 → s1.1 32 7 = nI i → ip_WP 46 32 [some (.ref 47), some (.int (nI i)), none] [] (g0, fld X' y, I, J) b post px := by
      intro X' s1 mf hL hs ce e2 a5 a6 a7
      have b5 : ¬ s1.1 32 5 = -1 := by rw [a5]; decide
      have hp1 : takeS s1 = rSign (X1S s1) s1.2.2.1 s1.2.2.2 62 := by rw [hL.part, a5, a6, res_2]
      simp only [s46_0, s46_1, s46_2, s46_5, s46_6, s46_7, s46_8, s46_11, s46_14, s46_15, s46_18, s46_19, s46_20, s46_23, s46_24, s46_27, s46_28, s46_31, s46_32, s46_33, s46_35, s46_38, s46_39, s46_40, s46_43, s46_44, s46_45, s46_46, s46_49, s46_52, s46_53, s46_56, s46_57, s46_58, s46_59, f_47_0, f_47_1, u_47_1, f_47_2, u_47_2, f_47_3, f_47_4, u_47_4, f_47_5, f_47_6, u_47_6, f_47_7, u_47_7, f_47_8, u_47_8, f_47_9, u_47_9, f_47_10, u_47_10, f_47_11, f_47_12, f_47_13, f_47_14, f_47_15, f_47_16, f_47_17, f_47_18, f_47_19, f_47_20, f_47_21, f_47_22, f_47_23, u_47_23, f_47_24, f_47_25, f_47_26, f_47_27, f_47_28, f_47_29, u_47_29, f_47_30, u_47_30, f_47_31, f_47_32, f_47_33, f_47_34, f_47_35, u_47_35, f_47_36, u_47_36, f_47_37, u_47_37, f_47_38, u_47_38, o_47, Option.toList_some, Option.toList_none, List.cons_append, List.nil_append, List.append_nil, ip_on_some, true_and, and_true, if_true, if_false, not_true_eq_false, not_false_eq_true, decide_true, true_or, or_true, or_self, Bool.false_eq_true]
      refine st_sign hL (by decide) b5 hp1 (fun X2 mf2 hF => ?_) (fun X2 s2 mf2 hL2 hs2 ce2 e3 d5 d6 d7 => ?_)
      · rw [hs.out] at hF
        simp only [s46_0, s46_1, s46_2, s46_5, s46_6, s46_7, s46_8, s46_11, s46_14, s46_15, s46_18, s46_19, s46_20, s46_23, s46_24, s46_27, s46_28, s46_31, s46_32, s46_33, s46_35, s46_38, s46_39, s46_40, s46_43, s46_44, s46_45, s46_46, s46_49, s46_52, s46_53, s46_56, s46_57, s46_58, s46_59, f_47_0, f_47_1, u_47_1, f_47_2, u_47_2, f_47_3, f_47_4, u_47_4, f_47_5, f_47_6, u_47_6, f_47_7, u_47_7, f_47_8, u_47_8, f_47_9, u_47_9, f_47_10, u_47_10, f_47_11, f_47_12, f_47_13, f_47_14, f_47_15, f_47_16, f_47_17, f_47_18, f_47_19, f_47_20, f_47_21, f_47_22, f_47_23, u_47_23, f_47_24, f_47_25, f_47_26, f_47_27, f_47_28, f_47_29, u_47_29, f_47_30, u_47_30, f_47_31, f_47_32, f_47_33, f_47_34, f_47_35, u_47_35, f_47_36, u_47_36, f_47_37, u_47_37, f_47_38, u_47_38, o_47, md_oldF hF.pos, md_takeF hF.pos, Option.toList_some, Option.toList_none, List.cons_append, List.nil_append, List.append_nil, ip_on_some, true_and, and_true, if_true, if_false, not_true_eq_false, not_false_eq_true, decide_true, true_or, or_true, or_self, Bool.false_eq_true]
        exact hk X2 I (rdp_ft (mf.toF.trans mf2.toF) hF)
      · have f5 : ¬ s2.1 32 5 = -1 := by rw [d5]; exact b5
        have hp2 : takeS s2 = rStg (X1S s2) s2.2.1 s2.2.2.1 s2.2.2.2 17 12 := by
          rw [hL2.part, d5, a5, d6, a6]
          exact res_3
        have eI2 : s2.2.2.1 = s.2.2.1 := (congrArg Prod.fst e3).trans (congrArg Prod.fst e2)
        have eJ2 : s2.2.2.2 = s.2.2.2 := (congrArg Prod.snd e3).trans (congrArg Prod.snd e2)
        have ce12 : CE s.1 s2.1 := ce.trans ce2
        have hMN2 : MN s2.1 s2.2.2.2 X2 I := by rw [eJ2]; exact ((hm.xc ce12).mf mf).mf mf2
        simp only [s46_0, s46_1, s46_2, s46_5, s46_6, s46_7, s46_8, s46_11, s46_14, s46_15, s46_18, s46_19, s46_20, s46_23, s46_24, s46_27, s46_28, s46_31, s46_32, s46_33, s46_35, s46_38, s46_39, s46_40, s46_43, s46_44, s46_45, s46_46, s46_49, s46_52, s46_53, s46_56, s46_57, s46_58, s46_59, f_47_0, f_47_1, u_47_1, f_47_2, u_47_2, f_47_3, f_47_4, u_47_4, f_47_5, f_47_6, u_47_6, f_47_7, u_47_7, f_47_8, u_47_8, f_47_9, u_47_9, f_47_10, u_47_10, f_47_11, f_47_12, f_47_13, f_47_14, f_47_15, f_47_16, f_47_17, f_47_18, f_47_19, f_47_20, f_47_21, f_47_22, f_47_23, u_47_23, f_47_24, f_47_25, f_47_26, f_47_27, f_47_28, f_47_29, u_47_29, f_47_30, u_47_30, f_47_31, f_47_32, f_47_33, f_47_34, f_47_35, u_47_35, f_47_36, u_47_36, f_47_37, u_47_37, f_47_38, u_47_38, o_47, Option.toList_some, Option.toList_none, List.cons_append, List.nil_append, List.append_nil, ip_on_some, true_and, and_true, if_true, if_false, not_true_eq_false, not_false_eq_true, decide_true, true_or, or_true, or_self, Bool.false_eq_true]
        refine md_old (t := 1) hL2 hMN2 f5 (by decide) (fun z => by rw [hp2]; exact stg_f z) (fun X3 mf3 hF => ?_) (fun u hu hkd2 hkey2 hnf2 => ?_)
        · rw [hs2.out, hs.out] at hF
          simp only [s46_0, s46_1, s46_2, s46_5, s46_6, s46_7, s46_8, s46_11, s46_14, s46_15, s46_18, s46_19, s46_20, s46_23, s46_24, s46_27, s46_28, s46_31, s46_32, s46_33, s46_35, s46_38, s46_39, s46_40, s46_43, s46_44, s46_45, s46_46, s46_49, s46_52, s46_53, s46_56, s46_57, s46_58, s46_59, f_47_0, f_47_1, u_47_1, f_47_2, u_47_2, f_47_3, f_47_4, u_47_4, f_47_5, f_47_6, u_47_6, f_47_7, u_47_7, f_47_8, u_47_8, f_47_9, u_47_9, f_47_10, u_47_10, f_47_11, f_47_12, f_47_13, f_47_14, f_47_15, f_47_16, f_47_17, f_47_18, f_47_19, f_47_20, f_47_21, f_47_22, f_47_23, u_47_23, f_47_24, f_47_25, f_47_26, f_47_27, f_47_28, f_47_29, u_47_29, f_47_30, u_47_30, f_47_31, f_47_32, f_47_33, f_47_34, f_47_35, u_47_35, f_47_36, u_47_36, f_47_37, u_47_37, f_47_38, u_47_38, o_47, md_takeF hF.pos, Option.toList_some, Option.toList_none, List.cons_append, List.nil_append, List.append_nil, ip_on_some, true_and, and_true, if_true, if_false, not_true_eq_false, not_false_eq_true, decide_true, true_or, or_true, or_self, Bool.false_eq_true]
          exact hk X3 I (rdp_ft ((mf.toF.trans mf2.toF).trans mf3.toF) hF)
        · have hu1 : u < cnt s.1 1 := by rw [← ce12.n (by decide)]; exact hu
          have hst2 : takeS s2 = (0, ip_up (X1S s2) 32 8 (nI u), ip_up s2.2.2.1 17 i (nI u), s2.2.2.2) := by
            rw [hp2]
            exact stg_0 hi12 (by decide) (by omega) (by rw [d7, a7]) hkd2 hnf2
          simp only [s46_0, s46_1, s46_2, s46_5, s46_6, s46_7, s46_8, s46_11, s46_14, s46_15, s46_18, s46_19, s46_20, s46_23, s46_24, s46_27, s46_28, s46_31, s46_32, s46_33, s46_35, s46_38, s46_39, s46_40, s46_43, s46_44, s46_45, s46_46, s46_49, s46_52, s46_53, s46_56, s46_57, s46_58, s46_59, f_47_0, f_47_1, u_47_1, f_47_2, u_47_2, f_47_3, f_47_4, u_47_4, f_47_5, f_47_6, u_47_6, f_47_7, u_47_7, f_47_8, u_47_8, f_47_9, u_47_9, f_47_10, u_47_10, f_47_11, f_47_12, f_47_13, f_47_14, f_47_15, f_47_16, f_47_17, f_47_18, f_47_19, f_47_20, f_47_21, f_47_22, f_47_23, u_47_23, f_47_24, f_47_25, f_47_26, f_47_27, f_47_28, f_47_29, u_47_29, f_47_30, u_47_30, f_47_31, f_47_32, f_47_33, f_47_34, f_47_35, u_47_35, f_47_36, u_47_36, f_47_37, u_47_37, f_47_38, u_47_38, o_47, Option.toList_some, Option.toList_none, List.cons_append, List.nil_append, List.append_nil, ip_on_some, true_and, and_true, if_true, if_false, not_true_eq_false, not_false_eq_true, decide_true, true_or, or_true, or_self, Bool.false_eq_true]
          refine st_take (v := False) hL2 f5 (fun z => z.elim) (fun _ => hst2) (fun X3 r mf3 hF => ?_) (fun X3 s3 _ mf3 hL3 hs3 e4 e5 => ?_)
          · rw [hs2.out, hs.out] at hF
            cases r with
            | false =>
              simp only [s46_0, s46_1, s46_2, s46_5, s46_6, s46_7, s46_8, s46_11, s46_14, s46_15, s46_18, s46_19, s46_20, s46_23, s46_24, s46_27, s46_28, s46_31, s46_32, s46_33, s46_35, s46_38, s46_39, s46_40, s46_43, s46_44, s46_45, s46_46, s46_49, s46_52, s46_53, s46_56, s46_57, s46_58, s46_59, f_47_0, f_47_1, u_47_1, f_47_2, u_47_2, f_47_3, f_47_4, u_47_4, f_47_5, f_47_6, u_47_6, f_47_7, u_47_7, f_47_8, u_47_8, f_47_9, u_47_9, f_47_10, u_47_10, f_47_11, f_47_12, f_47_13, f_47_14, f_47_15, f_47_16, f_47_17, f_47_18, f_47_19, f_47_20, f_47_21, f_47_22, f_47_23, u_47_23, f_47_24, f_47_25, f_47_26, f_47_27, f_47_28, f_47_29, u_47_29, f_47_30, u_47_30, f_47_31, f_47_32, f_47_33, f_47_34, f_47_35, u_47_35, f_47_36, u_47_36, f_47_37, u_47_37, f_47_38, u_47_38, o_47, bI_ff, Option.toList_some, Option.toList_none, List.cons_append, List.nil_append, List.append_nil, ip_on_some, true_and, and_true, if_true, if_false, not_true_eq_false, not_false_eq_true, decide_true, true_or, or_true, or_self, Bool.false_eq_true]
              exact hk X3 I (rdp_ft ((mf.toF.trans mf2.toF).trans mf3.toF) hF)
            | true =>
              simp only [s46_0, s46_1, s46_2, s46_5, s46_6, s46_7, s46_8, s46_11, s46_14, s46_15, s46_18, s46_19, s46_20, s46_23, s46_24, s46_27, s46_28, s46_31, s46_32, s46_33, s46_35, s46_38, s46_39, s46_40, s46_43, s46_44, s46_45, s46_46, s46_49, s46_52, s46_53, s46_56, s46_57, s46_58, s46_59, f_47_0, f_47_1, u_47_1, f_47_2, u_47_2, f_47_3, f_47_4, u_47_4, f_47_5, f_47_6, u_47_6, f_47_7, u_47_7, f_47_8, u_47_8, f_47_9, u_47_9, f_47_10, u_47_10, f_47_11, f_47_12, f_47_13, f_47_14, f_47_15, f_47_16, f_47_17, f_47_18, f_47_19, f_47_20, f_47_21, f_47_22, f_47_23, u_47_23, f_47_24, f_47_25, f_47_26, f_47_27, f_47_28, f_47_29, u_47_29, f_47_30, u_47_30, f_47_31, f_47_32, f_47_33, f_47_34, f_47_35, u_47_35, f_47_36, u_47_36, f_47_37, u_47_37, f_47_38, u_47_38, o_47, a_60, l_60, bI_tt, qe_m1_0, qe_m1_1, qe_m1_2, qe_m1_3, qe_m1_4, qe_m1_5, qe_m1_6, qe_m1_7, qe_m1_8, qe_0_m1, qe_0_1, qe_0_2, qe_0_3, qe_0_4, qe_0_5, qe_0_6, qe_0_7, qe_0_8, qe_1_m1, qe_1_0, qe_1_2, qe_1_3, qe_1_4, qe_1_5, qe_1_6, qe_1_7, qe_1_8, qe_2_m1, qe_2_0, qe_2_1, qe_2_3, qe_2_4, qe_2_5, qe_2_6, qe_2_7, qe_2_8, qe_3_m1, qe_3_0, qe_3_1, qe_3_2, qe_3_4, qe_3_5, qe_3_6, qe_3_7, qe_3_8, qe_4_m1, qe_4_0, qe_4_1, qe_4_2, qe_4_3, qe_4_5, qe_4_6, qe_4_7, qe_4_8, qe_5_m1, qe_5_0, qe_5_1, qe_5_2, qe_5_3, qe_5_4, qe_5_6, qe_5_7, qe_5_8, qe_6_m1, qe_6_0, qe_6_1, qe_6_2, qe_6_3, qe_6_4, qe_6_5, qe_6_7, qe_6_8, qe_7_m1, qe_7_0, qe_7_1, qe_7_2, qe_7_3, qe_7_4, qe_7_5, qe_7_6, qe_7_8, qe_8_m1, qe_8_0, qe_8_1, qe_8_2, qe_8_3, qe_8_4, qe_8_5, qe_8_6, qe_8_7, nI_clamp (show i < 2 ^ 31 by omega), c2, c3, Option.toList_some, Option.toList_none, List.cons_append, List.nil_append, List.append_nil, ip_on_some, true_and, and_true, if_true, if_false, not_true_eq_false, not_false_eq_true, decide_true, true_or, or_true, or_self, Bool.false_eq_true]
              exact hk X3 _ (rdp_ft (((mf.toF.trans mf2.toF).trans mf3.toF).trans (FR.arr (by decide) (by decide))) hF)
          · simp only [s46_0, s46_1, s46_2, s46_5, s46_6, s46_7, s46_8, s46_11, s46_14, s46_15, s46_18, s46_19, s46_20, s46_23, s46_24, s46_27, s46_28, s46_31, s46_32, s46_33, s46_35, s46_38, s46_39, s46_40, s46_43, s46_44, s46_45, s46_46, s46_49, s46_52, s46_53, s46_56, s46_57, s46_58, s46_59, f_47_0, f_47_1, u_47_1, f_47_2, u_47_2, f_47_3, f_47_4, u_47_4, f_47_5, f_47_6, u_47_6, f_47_7, u_47_7, f_47_8, u_47_8, f_47_9, u_47_9, f_47_10, u_47_10, f_47_11, f_47_12, f_47_13, f_47_14, f_47_15, f_47_16, f_47_17, f_47_18, f_47_19, f_47_20, f_47_21, f_47_22, f_47_23, u_47_23, f_47_24, f_47_25, f_47_26, f_47_27, f_47_28, f_47_29, u_47_29, f_47_30, u_47_30, f_47_31, f_47_32, f_47_33, f_47_34, f_47_35, u_47_35, f_47_36, u_47_36, f_47_37, u_47_37, f_47_38, u_47_38, o_47, a_60, l_60, qe_m1_0, qe_m1_1, qe_m1_2, qe_m1_3, qe_m1_4, qe_m1_5, qe_m1_6, qe_m1_7, qe_m1_8, qe_0_m1, qe_0_1, qe_0_2, qe_0_3, qe_0_4, qe_0_5, qe_0_6, qe_0_7, qe_0_8, qe_1_m1, qe_1_0, qe_1_2, qe_1_3, qe_1_4, qe_1_5, qe_1_6, qe_1_7, qe_1_8, qe_2_m1, qe_2_0, qe_2_1, qe_2_3, qe_2_4, qe_2_5, qe_2_6, qe_2_7, qe_2_8, qe_3_m1, qe_3_0, qe_3_1, qe_3_2, qe_3_4, qe_3_5, qe_3_6, qe_3_7, qe_3_8, qe_4_m1, qe_4_0, qe_4_1, qe_4_2, qe_4_3, qe_4_5, qe_4_6, qe_4_7, qe_4_8, qe_5_m1, qe_5_0, qe_5_1, qe_5_2, qe_5_3, qe_5_4, qe_5_6, qe_5_7, qe_5_8, qe_6_m1, qe_6_0, qe_6_1, qe_6_2, qe_6_3, qe_6_4, qe_6_5, qe_6_7, qe_6_8, qe_7_m1, qe_7_0, qe_7_1, qe_7_2, qe_7_3, qe_7_4, qe_7_5, qe_7_6, qe_7_8, qe_8_m1, qe_8_0, qe_8_1, qe_8_2, qe_8_3, qe_8_4, qe_8_5, qe_8_6, qe_8_7, nI_clamp (show i < 2 ^ 31 by omega), c2, c3, Option.toList_some, Option.toList_none, List.cons_append, List.nil_append, List.append_nil, ip_on_some, true_and, and_true, if_true, if_false, not_true_eq_false, not_false_eq_true, decide_true, true_or, or_true, or_self, Bool.false_eq_true]
            have ceA : CE s.1 s3.1 := ce12.trans (fun k h1 h2 => by rw [e4 k h2, x8_ne h1])
            have eI : s3.2.2.1 = ip_up s.2.2.1 17 i (nI u) := by rw [e5, ← eI2]
            have eJ : s3.2.2.2 = s.2.2.2 := by rw [e5]; exact eJ2
            refine hk _ _ ⟨((mf.toF.trans mf2.toF).trans mf3.toF).trans (FR.arr (by decide) (by decide)), Or.inr ⟨s3, ?_, ?_, ?_, ?_, ?_, ?_, ?_, Nat.le_trans hs.pos (Nat.le_trans hs2.pos hs3.pos)⟩⟩
            · exact hL3.of (fun _ _ => rfl) (by rw [up1, if_neg (by decide)]) (by rw [up1, if_neg (by decide)])
            · rw [eJ]
              exact ((((hm.xc ceA).mf mf).mf mf2).mf mf3).fr rfl (fun a h1 h2 => by rw [up1, if_neg (by omega)])
            · rw [eI]
              exact MVf.xc (MV.res_up (MV.mf (MV.mf (MV.mf hv mf) mf2) mf3) hu1) ceA
            · rw [hs3.out, hs2.out, hs.out]
            · rw [e4 32 (by decide), x8_5]; exact f5
            · rw [hL3.part, e4 32 (by decide), x8_5, x8_6, d5, a5, d6, a6]
              exact res_4
            · rw [ceA 5 (by decide) (by decide)]
    by_cases q : s.2.2.1 17 i = -1
    · have hst : takeS s = (0, ip_up (ip_up (X1S s) 32 8 (nI i)) 32 7 (nI i), s.2.2.1, s.2.2.2) := by rw [hp]; exact wout_0 hi12 hkd hnf q
      have q' : s.2.2.1 17 i < 0 := by rw [elt]; exact q
      simp only [s46_0, s46_1, s46_2, s46_5, s46_6, s46_7, s46_8, s46_11, s46_14, s46_15, s46_18, s46_19, s46_20, s46_23, s46_24, s46_27, s46_28, s46_31, s46_33, s46_35, s46_38, s46_39, s46_40, s46_43, s46_44, s46_45, s46_46, s46_49, s46_52, s46_53, s46_56, s46_57, s46_58, s46_59, f_47_0, f_47_1, u_47_1, f_47_2, u_47_2, f_47_3, f_47_4, u_47_4, f_47_5, f_47_6, u_47_6, f_47_7, u_47_7, f_47_8, u_47_8, f_47_9, u_47_9, f_47_10, u_47_10, f_47_11, f_47_12, f_47_13, f_47_14, f_47_15, f_47_16, f_47_17, f_47_18, f_47_19, f_47_20, f_47_21, f_47_22, f_47_23, u_47_23, f_47_24, f_47_25, f_47_26, f_47_27, f_47_28, f_47_29, u_47_29, f_47_30, u_47_30, f_47_31, f_47_32, f_47_33, f_47_34, f_47_35, u_47_35, f_47_36, u_47_36, f_47_37, u_47_37, f_47_38, u_47_38, o_47, a_60, l_60, h.b.f, nI_clamp (show i < 2 ^ 31 by omega), c2, c3, e60, q', Option.toList_some, Option.toList_none, List.cons_append, List.nil_append, List.append_nil, ip_on_some, true_and, and_true, if_true, if_false, not_true_eq_false, not_false_eq_true, decide_true, true_or, or_true, or_self, Bool.false_eq_true]
      refine st_take (v := False) h h5' (fun z => z.elim) (fun _ => hst) (fun X' r mf hF => ?_) (fun X' s1 _ mf hL hs e1 e2 => ?_)
      · simp only [s46_0, s46_1, s46_2, s46_5, s46_6, s46_7, s46_8, s46_11, s46_14, s46_15, s46_18, s46_19, s46_20, s46_23, s46_24, s46_27, s46_28, s46_31, s46_32, s46_33, s46_35, s46_38, s46_39, s46_40, s46_43, s46_44, s46_45, s46_46, s46_49, s46_52, s46_53, s46_56, s46_57, s46_58, s46_59, f_47_0, f_47_1, u_47_1, f_47_2, u_47_2, f_47_3, f_47_4, u_47_4, f_47_5, f_47_6, u_47_6, f_47_7, u_47_7, f_47_8, u_47_8, f_47_9, u_47_9, f_47_10, u_47_10, f_47_11, f_47_12, f_47_13, f_47_14, f_47_15, f_47_16, f_47_17, f_47_18, f_47_19, f_47_20, f_47_21, f_47_22, f_47_23, u_47_23, f_47_24, f_47_25, f_47_26, f_47_27, f_47_28, f_47_29, u_47_29, f_47_30, u_47_30, f_47_31, f_47_32, f_47_33, f_47_34, f_47_35, u_47_35, f_47_36, u_47_36, f_47_37, u_47_37, f_47_38, u_47_38, o_47, md_signF hF.pos, md_oldF hF.pos, md_takeF hF.pos, Option.toList_some, Option.toList_none, List.cons_append, List.nil_append, List.append_nil, ip_on_some, true_and, and_true, if_true, if_false, not_true_eq_false, not_false_eq_true, decide_true, true_or, or_true, or_self, Bool.false_eq_true]
        exact hk X' I (rdp_ft mf.toF hF)
      · simp only [s46_0, s46_1, s46_2, s46_5, s46_6, s46_7, s46_8, s46_11, s46_14, s46_15, s46_18, s46_19, s46_20, s46_23, s46_24, s46_27, s46_28, s46_31, s46_33, s46_35, s46_38, s46_39, s46_40, s46_43, s46_44, s46_45, s46_46, s46_49, s46_52, s46_53, s46_56, s46_57, s46_58, s46_59, f_47_0, f_47_1, u_47_1, f_47_2, u_47_2, f_47_3, f_47_4, u_47_4, f_47_5, f_47_6, u_47_6, f_47_7, u_47_7, f_47_8, u_47_8, f_47_9, u_47_9, f_47_10, u_47_10, f_47_11, f_47_12, f_47_13, f_47_14, f_47_15, f_47_16, f_47_17, f_47_18, f_47_19, f_47_20, f_47_21, f_47_22, f_47_23, u_47_23, f_47_24, f_47_25, f_47_26, f_47_27, f_47_28, f_47_29, u_47_29, f_47_30, u_47_30, f_47_31, f_47_32, f_47_33, f_47_34, f_47_35, u_47_35, f_47_36, u_47_36, f_47_37, u_47_37, f_47_38, u_47_38, o_47, Option.toList_some, Option.toList_none, List.cons_append, List.nil_append, List.append_nil, ip_on_some, true_and, and_true, if_true, if_false, not_true_eq_false, not_false_eq_true, decide_true, true_or, or_true, or_self, Bool.false_eq_true]
        exact rest X' s1 mf hL hs (fun k h1 h2 => by rw [e1 k h2, x87_ne h1]) e2 (by rw [e1 32 (by decide), x87_5, h5]) (by rw [e1 32 (by decide), x87_6, h6]; rfl) (by rw [e1 32 (by decide), x87_7])
    · have hst : (takeS s).1 = 7 := by rw [hp]; exact wout_7 hi12 hkd hnf q
      have q' : ¬ s.2.2.1 17 i < 0 := by rw [elt]; exact q
      simp only [s46_0, s46_1, s46_2, s46_5, s46_6, s46_7, s46_8, s46_11, s46_14, s46_15, s46_18, s46_19, s46_20, s46_23, s46_24, s46_27, s46_28, s46_31, s46_33, s46_35, s46_38, s46_39, s46_40, s46_43, s46_44, s46_45, s46_46, s46_49, s46_52, s46_53, s46_56, s46_57, s46_58, s46_59, f_47_0, f_47_1, u_47_1, f_47_2, u_47_2, f_47_3, f_47_4, u_47_4, f_47_5, f_47_6, u_47_6, f_47_7, u_47_7, f_47_8, u_47_8, f_47_9, u_47_9, f_47_10, u_47_10, f_47_11, f_47_12, f_47_13, f_47_14, f_47_15, f_47_16, f_47_17, f_47_18, f_47_19, f_47_20, f_47_21, f_47_22, f_47_23, u_47_23, f_47_24, f_47_25, f_47_26, f_47_27, f_47_28, f_47_29, u_47_29, f_47_30, u_47_30, f_47_31, f_47_32, f_47_33, f_47_34, f_47_35, u_47_35, f_47_36, u_47_36, f_47_37, u_47_37, f_47_38, u_47_38, o_47, a_60, l_60, h.b.f, nI_clamp (show i < 2 ^ 31 by omega), c2, c3, e60, q', qe_m1_0, qe_m1_1, qe_m1_2, qe_m1_3, qe_m1_4, qe_m1_5, qe_m1_6, qe_m1_7, qe_m1_8, qe_0_m1, qe_0_1, qe_0_2, qe_0_3, qe_0_4, qe_0_5, qe_0_6, qe_0_7, qe_0_8, qe_1_m1, qe_1_0, qe_1_2, qe_1_3, qe_1_4, qe_1_5, qe_1_6, qe_1_7, qe_1_8, qe_2_m1, qe_2_0, qe_2_1, qe_2_3, qe_2_4, qe_2_5, qe_2_6, qe_2_7, qe_2_8, qe_3_m1, qe_3_0, qe_3_1, qe_3_2, qe_3_4, qe_3_5, qe_3_6, qe_3_7, qe_3_8, qe_4_m1, qe_4_0, qe_4_1, qe_4_2, qe_4_3, qe_4_5, qe_4_6, qe_4_7, qe_4_8, qe_5_m1, qe_5_0, qe_5_1, qe_5_2, qe_5_3, qe_5_4, qe_5_6, qe_5_7, qe_5_8, qe_6_m1, qe_6_0, qe_6_1, qe_6_2, qe_6_3, qe_6_4, qe_6_5, qe_6_7, qe_6_8, qe_7_m1, qe_7_0, qe_7_1, qe_7_2, qe_7_3, qe_7_4, qe_7_5, qe_7_6, qe_7_8, qe_8_m1, qe_8_0, qe_8_1, qe_8_2, qe_8_3, qe_8_4, qe_8_5, qe_8_6, qe_8_7, Option.toList_some, Option.toList_none, List.cons_append, List.nil_append, List.append_nil, ip_on_some, true_and, and_true, if_true, if_false, not_true_eq_false, not_false_eq_true, decide_true, true_or, or_true, or_self, Bool.false_eq_true]
      refine st_take (v := True) (X'' := X) (I'' := I) (J'' := J) h h5' (fun _ => hst) (fun z => absurd trivial z) (fun X' r mf hF => ?_) (fun X' s1 z => absurd trivial z)
      simp only [s46_0, s46_1, s46_2, s46_5, s46_6, s46_7, s46_8, s46_11, s46_14, s46_15, s46_18, s46_19, s46_20, s46_23, s46_24, s46_27, s46_28, s46_31, s46_32, s46_33, s46_35, s46_38, s46_39, s46_40, s46_43, s46_44, s46_45, s46_46, s46_49, s46_52, s46_53, s46_56, s46_57, s46_58, s46_59, f_47_0, f_47_1, u_47_1, f_47_2, u_47_2, f_47_3, f_47_4, u_47_4, f_47_5, f_47_6, u_47_6, f_47_7, u_47_7, f_47_8, u_47_8, f_47_9, u_47_9, f_47_10, u_47_10, f_47_11, f_47_12, f_47_13, f_47_14, f_47_15, f_47_16, f_47_17, f_47_18, f_47_19, f_47_20, f_47_21, f_47_22, f_47_23, u_47_23, f_47_24, f_47_25, f_47_26, f_47_27, f_47_28, f_47_29, u_47_29, f_47_30, u_47_30, f_47_31, f_47_32, f_47_33, f_47_34, f_47_35, u_47_35, f_47_36, u_47_36, f_47_37, u_47_37, f_47_38, u_47_38, o_47, md_signF hF.pos, md_oldF hF.pos, md_takeF hF.pos, Option.toList_some, Option.toList_none, List.cons_append, List.nil_append, List.append_nil, ip_on_some, true_and, and_true, if_true, if_false, not_true_eq_false, not_false_eq_true, decide_true, true_or, or_true, or_self, Bool.false_eq_true]
      exact hk X' I (rdp_ft mf.toF hF)
theorem w_tab : ∀ w, w < 17 → mKind (256 + nI w) = 4 ∧ (256 : Int32) ≤ 256 + nI w ∧ (256 + nI w) - 256 = nI w := by decide +kernel
theorem LR.word (h : LR N s X I) {w : Nat} (hw : w < 17) : (X 47 35 = 4 ∧ X 47 38 = nI w) = (s.1 33 3 = 256 + nI w) := by
  refine propext ⟨fun ⟨h1, h2⟩ => ?_, fun e => ⟨?_, ?_⟩⟩
  · have hk : mKind (s.1 33 3) = 4 := h.ml.kd.symm.trans h1
    rcases h.kd with e | e | e | e | ⟨v, hv, e⟩
    · rw [e] at hk; exact absurd hk (by decide)
    · rw [e] at hk; exact absurd hk (by decide)
    · rw [e] at hk; exact absurd hk (by decide)
    · rcases e with e | e | e | e | e <;> rw [e] at hk <;> exact absurd hk (by decide)
    · have t := w_tab v hv
      have hwo := h.ml.wo (by show (256 : Int32) ≤ s.1 33 3; rw [e]; exact t.2.1)
      have : X 47 38 = nI v := hwo.trans (by show s.1 33 3 - 256 = nI v; rw [e]; exact t.2.2)
      rw [e, ← this, h2]
  · rw [h.ml.kd]
    show mKind (s.1 33 3) = 4
    rw [e]
    exact (w_tab w hw).1
  · rw [h.ml.wo (by show (256 : Int32) ≤ s.1 33 3; rw [e]; exact (w_tab w hw).2.1)]
    show s.1 33 3 - 256 = nI w
    rw [e]
    exact (w_tab w hw).2.2
/-- advance, the step's end known -/
theorem st_adv (h : LR N s X I) {X'' I'' : Nat → Nat → Int32} {J'' : Nat → Nat → Int64} (h0 : takeS s = (0, X'', I'', J''))
    (hft : ∀ X', MF X X' → FT (out1 N s) X' → post none (g0, fld X' y, I, J))
    (hgo : ∀ X' s2, MF X X' → LR N s2 X' I → ST N s s2 → (∀ k, k ≠ 33 → s2.1 k = X'' k) → s2.2.2 = (I'', J'') → post none (g0, fld X' y, I, J)) : ip_WP 31 0 [some (.ref 47), none] [] (g0, fld X y, I, J) b post px := by
  have hn := nex_eq h0
  refine md_goR h (by rw [h0]) (fun X' mf hr => ?_)
  rcases hr with hr | ⟨ht, hL⟩
  · exact hft X' mf hr
  · exact hgo X' (advS (nexS s)) mf hL (h.st ht hL) (fun k hk => by rw [adv_ne hk, hn]) (by show (nexS s).2.2 = _; rw [hn])
end
