/-! readStall, readPort -/
theorem bI_tt : bI (true = true) = 1 := rfl
theorem bI_ff : bI (false = true) = 0 := rfl
theorem old_eq {s : SS} {t i : Nat} (ht : t < 4) (hi : i < 2 ^ 31) (hk : s.1 33 3 = 2) (hn : nfi (s.2.2.2 (7 + 2 * t)) s.2.1 (cnt s.1 t) 0 = nI i) : rOld (X1S s) s.2.1 s.2.2.1 s.2.2.2 (6 + 2 * t) = (0, ip_up (X1S s) 32 8 (nI i), s.2.2.1, s.2.2.2) := by
  have e : 6 + 2 * t + 1 = 7 + 2 * t := by omega
  have e2 : nfi (s.2.2.2 (6 + 2 * t + 1)) s.2.1 ((X1S s (6 + 2 * t) 1).toNatClampNeg) 0 = nI i := by
    rw [e, x1_ne (show 6 + 2 * t ≠ 32 by omega)]
    exact hn
  unfold rOld
  rw [e2, if_pos (by rw [x1_ne (by decide)]; exact hk), if_neg (nI_nm1 hi)]
theorem x8_8 {s : SS} {v : Int32} : ip_up (X1S s) 32 8 v 32 8 = v := by simp only [up1, updF_ap, if_true]
theorem x8_7 {s : SS} {v : Int32} : ip_up (X1S s) 32 8 v 32 7 = s.1 32 7 := by
  simp only [up1, updF_ap, if_true, Nat.reduceEqDiff, if_false]
  exact x1_7
theorem x8_5 {s : SS} {v : Int32} : ip_up (X1S s) 32 8 v 32 5 = s.1 32 5 := by
  simp only [up1, updF_ap, if_true, Nat.reduceEqDiff, if_false]
  exact x1_5
theorem x8_6 {s : SS} {v : Int32} : ip_up (X1S s) 32 8 v 32 6 = s.1 32 6 + 1 := by
  simp only [up1, updF_ap, if_true, Nat.reduceEqDiff, if_false]
  exact x1_6
theorem x8_ne {s : SS} {v : Int32} {k : Nat} (h : k ≠ 32) : ip_up (X1S s) 32 8 v k = s.1 k := by rw [up1, if_neg h, x1_ne h]
theorem stl_1 {s : SS} : rPart (X1S s) s.2.1 s.2.2.1 s.2.2.2 262 0 = rStall (X1S s) s.2.1 s.2.2.1 s.2.2.2 := by simp [rPart, pStall]
theorem stl_2 {s : SS} : rPart (X1S s) s.2.1 s.2.2.1 s.2.2.2 262 1 = rComma (X1S s) s.2.2.1 s.2.2.2 0 := by simp [rPart, pStall]
section
variable {N : Nat} {y : Int64} {J : Nat → Nat → Int64} {b : ip_B} {post : Option Value → ip_H → Prop} {px : String → ip_H → Prop}
theorem md_rdS : ∀ (k : Nat) (s : SS) (X I : Nat → Nat → Int32) (x2 : Option Value), N + 1 - (s.1 33 2).toNatClampNeg ≤ k → LR N s X I → MN s.1 s.2.2.2 X I → MVf s.1 s.2.2.1 X I → s.1 32 5 = 262 → s.1 32 6 = 0 →
    (∀ X' I', RDp N (out1 N s) X I (s.1 5 14) ((s.1 33 2).toNatClampNeg) X' I' → post none (g0, fld X' y, I', J)) → ip_WP 49 2 [some (.ref 47), some (.int 1), x2] [] (g0, fld X y, I, J) b post px := by
  intro k
  induction k with
  | zero =>
    intro s X I x2 hm h
    have := h.b.rv.q
    omega
  | succ k ih =>
    intro s X I x2 hme h hm hv h5 h6 hk
    have hp : takeS s = rStall (X1S s) s.2.1 s.2.2.1 s.2.2.2 := by rw [h.part, h5, h6, stl_1]
    have h5' : ¬ s.1 32 5 = -1 := by rw [h5]; decide
    have stop : ∀ (X' I' : Nat → Nat → Int32) (x2 : Option Value), RDp N (out1 N s) X I (s.1 5 14) ((s.1 33 2).toNatClampNeg) X' I' → ip_WP 49 2 [some (.ref 47), some (.int 0), x2] [] (g0, fld X' y, I', J) b post px := by
      intro X' I' x2 hr
      rw [s49_2]
      simp only [s49_0, s49_1, s49_3, s49_6, s49_7, s49_8, s49_11, s49_12, s49_13, s49_14, s49_17, s49_20, s49_21, s49_24, s49_25, s49_26, s49_29, s49_30, s49_33, s49_34, s49_37, s49_40, s49_41, s49_44, s49_45, s49_46, s49_47, s49_48, s49_51, s49_52, s49_55, Option.toList_some, Option.toList_none, List.cons_append, List.nil_append, List.append_nil, ip_on_some, true_and, and_true, if_true, if_false, not_true_eq_false, not_false_eq_true, decide_true, true_or, or_true, or_self, Bool.false_eq_true]
      exact hk X' I' hr
    rw [s49_2]
    simp only [s49_0, s49_1, s49_3, s49_6, s49_7, s49_8, s49_11, s49_12, s49_13, s49_14, s49_17, s49_20, s49_21, s49_24, s49_25, s49_26, s49_29, s49_30, s49_33, s49_34, s49_37, s49_40, s49_41, s49_44, s49_45, s49_46, s49_47, s49_48, s49_51, s49_52, s49_55, f_47_0, f_47_1, u_47_1, f_47_2, u_47_2, f_47_3, f_47_4, u_47_4, f_47_5, f_47_6, u_47_6, f_47_7, u_47_7, f_47_8, u_47_8, f_47_9, u_47_9, f_47_10, u_47_10, f_47_11, f_47_12, f_47_13, f_47_14, f_47_15, f_47_16, f_47_17, f_47_18, f_47_19, f_47_20, f_47_21, f_47_22, f_47_23, u_47_23, f_47_24, f_47_25, f_47_26, f_47_27, f_47_28, f_47_29, u_47_29, f_47_30, u_47_30, f_47_31, f_47_32, f_47_33, f_47_34, f_47_35, u_47_35, f_47_36, u_47_36, f_47_37, u_47_37, f_47_38, u_47_38, o_47, qe_m1_0, qe_m1_1, qe_m1_2, qe_m1_3, qe_m1_4, qe_m1_5, qe_m1_6, qe_m1_7, qe_m1_8, qe_0_m1, qe_0_1, qe_0_2, qe_0_3, qe_0_4, qe_0_5, qe_0_6, qe_0_7, qe_0_8, qe_1_m1, qe_1_0, qe_1_2, qe_1_3, qe_1_4, qe_1_5, qe_1_6, qe_1_7, qe_1_8, qe_2_m1, qe_2_0, qe_2_1, qe_2_3, qe_2_4, qe_2_5, qe_2_6, qe_2_7, qe_2_8, qe_3_m1, qe_3_0, qe_3_1, qe_3_2, qe_3_4, qe_3_5, qe_3_6, qe_3_7, qe_3_8, qe_4_m1, qe_4_0, qe_4_1, qe_4_2, qe_4_3, qe_4_5, qe_4_6, qe_4_7, qe_4_8, qe_5_m1, qe_5_0, qe_5_1, qe_5_2, qe_5_3, qe_5_4, qe_5_6, qe_5_7, qe_5_8, qe_6_m1, qe_6_0, qe_6_1, qe_6_2, qe_6_3, qe_6_4, qe_6_5, qe_6_7, qe_6_8, qe_7_m1, qe_7_0, qe_7_1, qe_7_2, qe_7_3, qe_7_4, qe_7_5, qe_7_6, qe_7_8, qe_8_m1, qe_8_0, qe_8_1, qe_8_2, qe_8_3, qe_8_4, qe_8_5, qe_8_6, qe_8_7, Option.toList_some, Option.toList_none, List.cons_append, List.nil_append, List.append_nil, ip_on_some, true_and, and_true, if_true, if_false, not_true_eq_false, not_false_eq_true, decide_true, true_or, or_true, or_self, Bool.false_eq_true]
    refine md_old (t := 0) h hm h5' (by decide) (fun z => ?_) (fun X' mf hF => ?_) (fun i hi hkd hkey hnf => ?_)
    · rw [hp]
      unfold rStall
      rw [if_neg z]
    · simp only [s49_0, s49_1, s49_3, s49_6, s49_7, s49_8, s49_11, s49_12, s49_13, s49_14, s49_17, s49_20, s49_21, s49_24, s49_25, s49_26, s49_29, s49_30, s49_33, s49_34, s49_37, s49_40, s49_41, s49_44, s49_45, s49_46, s49_47, s49_48, s49_51, s49_52, s49_55, f_47_0, f_47_1, u_47_1, f_47_2, u_47_2, f_47_3, f_47_4, u_47_4, f_47_5, f_47_6, u_47_6, f_47_7, u_47_7, f_47_8, u_47_8, f_47_9, u_47_9, f_47_10, u_47_10, f_47_11, f_47_12, f_47_13, f_47_14, f_47_15, f_47_16, f_47_17, f_47_18, f_47_19, f_47_20, f_47_21, f_47_22, f_47_23, u_47_23, f_47_24, f_47_25, f_47_26, f_47_27, f_47_28, f_47_29, u_47_29, f_47_30, u_47_30, f_47_31, f_47_32, f_47_33, f_47_34, f_47_35, u_47_35, f_47_36, u_47_36, f_47_37, u_47_37, f_47_38, u_47_38, o_47, ne0 hF.pos, md_takeF hF.pos, md_commaF hF.pos, Option.toList_some, Option.toList_none, List.cons_append, List.nil_append, List.append_nil, ip_on_some, true_and, and_true, if_true, if_false, not_true_eq_false, not_false_eq_true, decide_true, true_or, or_true, or_self, Bool.false_eq_true]
      exact stop _ _ _ (rdp_ft mf.toF hF)
    · have hb := (hm.bd.c 0 (by decide)).2.1
      simp only [Nat.reduceLT, if_true] at hb
      have hi12 : i < 12 := by omega
      have c2 : ¬ nI i < 0 := nI_pos (by omega)
      have c3 : ¬ 12 ≤ i := by omega
      have eo := old_eq (t := 0) (by decide) (show i < 2 ^ 31 by omega) hkd hnf
      have e61 : I 61 i = s.2.2.1 19 i := (hv.stl i hi12).1
      have eg : rget (s.2.2.1 19) 12 0 (nI i) = s.2.2.1 19 i := rget_nI hi12 (by decide)
      by_cases q : s.2.2.1 19 i = 0
      · have hst : takeS s = (0, ip_up (X1S s) 32 8 (nI i), ip_up s.2.2.1 19 i 1, s.2.2.2) := by
          rw [hp]
          unfold rStall
          rw [show rOld (X1S s) s.2.1 s.2.2.1 s.2.2.2 6 = (0, ip_up (X1S s) 32 8 (nI i), s.2.2.1, s.2.2.2) from eo, if_pos rfl]
          simp only [x8_8]
          rw [eg, if_pos q, rset_nI hi12 (by decide)]
        simp only [s49_0, s49_1, s49_3, s49_6, s49_7, s49_8, s49_11, s49_12, s49_13, s49_14, s49_17, s49_20, s49_21, s49_24, s49_25, s49_26, s49_29, s49_30, s49_33, s49_34, s49_37, s49_40, s49_41, s49_44, s49_45, s49_46, s49_47, s49_48, s49_51, s49_52, s49_55, f_47_0, f_47_1, u_47_1, f_47_2, u_47_2, f_47_3, f_47_4, u_47_4, f_47_5, f_47_6, u_47_6, f_47_7, u_47_7, f_47_8, u_47_8, f_47_9, u_47_9, f_47_10, u_47_10, f_47_11, f_47_12, f_47_13, f_47_14, f_47_15, f_47_16, f_47_17, f_47_18, f_47_19, f_47_20, f_47_21, f_47_22, f_47_23, u_47_23, f_47_24, f_47_25, f_47_26, f_47_27, f_47_28, f_47_29, u_47_29, f_47_30, u_47_30, f_47_31, f_47_32, f_47_33, f_47_34, f_47_35, u_47_35, f_47_36, u_47_36, f_47_37, u_47_37, f_47_38, u_47_38, o_47, a_61, l_61, an_61, h.b.f, nI_clamp (show i < 2 ^ 31 by omega), c2, c3, Bool.false_or, e61, q, Option.toList_some, Option.toList_none, List.cons_append, List.nil_append, List.append_nil, ip_on_some, true_and, and_true, if_true, if_false, not_true_eq_false, not_false_eq_true, decide_true, true_or, or_true, or_self, Bool.false_eq_true]
        refine st_take (v := False) h h5' (fun z => z.elim) (fun _ => hst) (fun X' r mf hF => ?_) (fun X' s1 _ mf hL hs e1 e2 => ?_)
        · cases r with
          | false =>
            simp only [s49_0, s49_1, s49_3, s49_6, s49_7, s49_8, s49_11, s49_12, s49_13, s49_14, s49_17, s49_20, s49_21, s49_24, s49_25, s49_26, s49_29, s49_30, s49_33, s49_34, s49_37, s49_40, s49_41, s49_44, s49_45, s49_46, s49_47, s49_48, s49_51, s49_52, s49_55, f_47_0, f_47_1, u_47_1, f_47_2, u_47_2, f_47_3, f_47_4, u_47_4, f_47_5, f_47_6, u_47_6, f_47_7, u_47_7, f_47_8, u_47_8, f_47_9, u_47_9, f_47_10, u_47_10, f_47_11, f_47_12, f_47_13, f_47_14, f_47_15, f_47_16, f_47_17, f_47_18, f_47_19, f_47_20, f_47_21, f_47_22, f_47_23, u_47_23, f_47_24, f_47_25, f_47_26, f_47_27, f_47_28, f_47_29, u_47_29, f_47_30, u_47_30, f_47_31, f_47_32, f_47_33, f_47_34, f_47_35, u_47_35, f_47_36, u_47_36, f_47_37, u_47_37, f_47_38, u_47_38, o_47, bI_ff, md_commaF hF.pos, Option.toList_some, Option.toList_none, List.cons_append, List.nil_append, List.append_nil, ip_on_some, true_and, and_true, if_true, if_false, not_true_eq_false, not_false_eq_true, decide_true, true_or, or_true, or_self, Bool.false_eq_true]
            exact stop _ _ _ (rdp_ft mf.toF hF)
          | true =>
            simp only [s49_0, s49_1, s49_3, s49_6, s49_7, s49_8, s49_11, s49_12, s49_13, s49_14, s49_17, s49_20, s49_21, s49_24, s49_25, s49_26, s49_29, s49_30, s49_33, s49_34, s49_37, s49_40, s49_41, s49_44, s49_45, s49_46, s49_47, s49_48, s49_51, s49_52, s49_55, f_47_0, f_47_1, u_47_1, f_47_2, u_47_2, f_47_3, f_47_4, u_47_4, f_47_5, f_47_6, u_47_6, f_47_7, u_47_7, f_47_8, u_47_8, f_47_9, u_47_9, f_47_10, u_47_10, f_47_11, f_47_12, f_47_13, f_47_14, f_47_15, f_47_16, f_47_17, f_47_18, f_47_19, f_47_20, f_47_21, f_47_22, f_47_23, u_47_23, f_47_24, f_47_25, f_47_26, f_47_27, f_47_28, f_47_29, u_47_29, f_47_30, u_47_30, f_47_31, f_47_32, f_47_33, f_47_34, f_47_35, u_47_35, f_47_36, u_47_36, f_47_37, u_47_37, f_47_38, u_47_38, o_47, a_61, l_61, an_61, bI_tt, qe_m1_0, qe_m1_1, qe_m1_2, qe_m1_3, qe_m1_4, qe_m1_5, qe_m1_6, qe_m1_7, qe_m1_8, qe_0_m1, qe_0_1, qe_0_2, qe_0_3, qe_0_4, qe_0_5, qe_0_6, qe_0_7, qe_0_8, qe_1_m1, qe_1_0, qe_1_2, qe_1_3, qe_1_4, qe_1_5, qe_1_6, qe_1_7, qe_1_8, qe_2_m1, qe_2_0, qe_2_1, qe_2_3, qe_2_4, qe_2_5, qe_2_6, qe_2_7, qe_2_8, qe_3_m1, qe_3_0, qe_3_1, qe_3_2, qe_3_4, qe_3_5, qe_3_6, qe_3_7, qe_3_8, qe_4_m1, qe_4_0, qe_4_1, qe_4_2, qe_4_3, qe_4_5, qe_4_6, qe_4_7, qe_4_8, qe_5_m1, qe_5_0, qe_5_1, qe_5_2, qe_5_3, qe_5_4, qe_5_6, qe_5_7, qe_5_8, qe_6_m1, qe_6_0, qe_6_1, qe_6_2, qe_6_3, qe_6_4, qe_6_5, qe_6_7, qe_6_8, qe_7_m1, qe_7_0, qe_7_1, qe_7_2, qe_7_3, qe_7_4, qe_7_5, qe_7_6, qe_7_8, qe_8_m1, qe_8_0, qe_8_1, qe_8_2, qe_8_3, qe_8_4, qe_8_5, qe_8_6, qe_8_7, nI_clamp (show i < 2 ^ 31 by omega), c2, c3, vn1, md_commaF hF.pos, Option.toList_some, Option.toList_none, List.cons_append, List.nil_append, List.append_nil, ip_on_some, true_and, and_true, if_true, if_false, not_true_eq_false, not_false_eq_true, decide_true, true_or, or_true, or_self, Bool.false_eq_true]
            exact stop _ _ _ (rdp_ft (mf.toF.trans (FR.arr (by decide) (by decide))) hF)
        · have a5 : s1.1 32 5 = 262 := by rw [e1 32 (by decide), x8_5, h5]
          have a6 : s1.1 32 6 = 1 := by rw [e1 32 (by decide), x8_6, h6]; rfl
          have ce : CE s.1 s1.1 := fun k h1 h2 => by rw [e1 k h2, x8_ne h1]
          have eI1 : s1.2.2.1 = ip_up s.2.2.1 19 i 1 := congrArg Prod.fst e2
          have eJ1 : s1.2.2.2 = s.2.2.2 := by rw [e2]
          have hMN1 : MN s1.1 s1.2.2.2 X' (ip_up I 61 i 1) := by
            rw [eJ1]
            exact ((hm.xc ce).mf mf).fr rfl (fun a h1 h2 => by rw [up1, if_neg (by omega)])
          have hMV1 : MVf s1.1 s1.2.2.1 X' (ip_up I 61 i 1) := by
            rw [eI1]
            exact MVf.xc (MV.stl_up (MV.mf hv mf) hi12) ce
          have hL1 : LR N s1 X' (ip_up I 61 i 1) := hL.of (fun _ _ => rfl) (by rw [up1, if_neg (by decide)]) (by rw [up1, if_neg (by decide)])
          have hfr : FR X X' I (ip_up I 61 i 1) := mf.toF.trans (FR.arr (by decide) (by decide))
          have hp1 : takeS s1 = rComma (X1S s1) s1.2.2.1 s1.2.2.2 0 := by rw [hL1.part, a5, a6, stl_2]
          have e14 : s1.1 5 14 = s.1 5 14 := by rw [ce 5 (by decide) (by decide)]
          simp only [s49_0, s49_1, s49_3, s49_6, s49_7, s49_8, s49_11, s49_12, s49_13, s49_14, s49_17, s49_20, s49_21, s49_24, s49_25, s49_26, s49_29, s49_30, s49_33, s49_34, s49_37, s49_40, s49_41, s49_44, s49_45, s49_46, s49_47, s49_48, s49_51, s49_52, s49_55, f_47_0, f_47_1, u_47_1, f_47_2, u_47_2, f_47_3, f_47_4, u_47_4, f_47_5, f_47_6, u_47_6, f_47_7, u_47_7, f_47_8, u_47_8, f_47_9, u_47_9, f_47_10, u_47_10, f_47_11, f_47_12, f_47_13, f_47_14, f_47_15, f_47_16, f_47_17, f_47_18, f_47_19, f_47_20, f_47_21, f_47_22, f_47_23, u_47_23, f_47_24, f_47_25, f_47_26, f_47_27, f_47_28, f_47_29, u_47_29, f_47_30, u_47_30, f_47_31, f_47_32, f_47_33, f_47_34, f_47_35, u_47_35, f_47_36, u_47_36, f_47_37, u_47_37, f_47_38, u_47_38, o_47, a_61, l_61, an_61, qe_m1_0, qe_m1_1, qe_m1_2, qe_m1_3, qe_m1_4, qe_m1_5, qe_m1_6, qe_m1_7, qe_m1_8, qe_0_m1, qe_0_1, qe_0_2, qe_0_3, qe_0_4, qe_0_5, qe_0_6, qe_0_7, qe_0_8, qe_1_m1, qe_1_0, qe_1_2, qe_1_3, qe_1_4, qe_1_5, qe_1_6, qe_1_7, qe_1_8, qe_2_m1, qe_2_0, qe_2_1, qe_2_3, qe_2_4, qe_2_5, qe_2_6, qe_2_7, qe_2_8, qe_3_m1, qe_3_0, qe_3_1, qe_3_2, qe_3_4, qe_3_5, qe_3_6, qe_3_7, qe_3_8, qe_4_m1, qe_4_0, qe_4_1, qe_4_2, qe_4_3, qe_4_5, qe_4_6, qe_4_7, qe_4_8, qe_5_m1, qe_5_0, qe_5_1, qe_5_2, qe_5_3, qe_5_4, qe_5_6, qe_5_7, qe_5_8, qe_6_m1, qe_6_0, qe_6_1, qe_6_2, qe_6_3, qe_6_4, qe_6_5, qe_6_7, qe_6_8, qe_7_m1, qe_7_0, qe_7_1, qe_7_2, qe_7_3, qe_7_4, qe_7_5, qe_7_6, qe_7_8, qe_8_m1, qe_8_0, qe_8_1, qe_8_2, qe_8_3, qe_8_4, qe_8_5, qe_8_6, qe_8_7, nI_clamp (show i < 2 ^ 31 by omega), c2, c3, vn1, Option.toList_some, Option.toList_none, List.cons_append, List.nil_append, List.append_nil, ip_on_some, true_and, and_true, if_true, if_false, not_true_eq_false, not_false_eq_true, decide_true, true_or, or_true, or_self, Bool.false_eq_true]
          refine st_comma hL1 hp1 (fun hcl => ?_) (fun X2 mf2 hF => ?_) (fun X2 s2 mf2 hL2 hs2 h44 ce2 e3 b5 b6 b7 => ?_)
          · simp only [s49_0, s49_1, s49_3, s49_6, s49_7, s49_8, s49_11, s49_12, s49_13, s49_14, s49_17, s49_20, s49_21, s49_24, s49_25, s49_26, s49_29, s49_30, s49_33, s49_34, s49_37, s49_40, s49_41, s49_44, s49_45, s49_46, s49_47, s49_48, s49_51, s49_52, s49_55, Option.toList_some, Option.toList_none, List.cons_append, List.nil_append, List.append_nil, ip_on_some, true_and, and_true, if_true, if_false, not_true_eq_false, not_false_eq_true, decide_true, true_or, or_true, or_self, Bool.false_eq_true]
            exact stop _ _ _ ⟨hfr, Or.inr ⟨s1, hL1, hMN1, hMV1, hs.out, by rw [a5]; decide, hcl, e14, hs.pos⟩⟩
          · simp only [s49_0, s49_1, s49_3, s49_6, s49_7, s49_8, s49_11, s49_12, s49_13, s49_14, s49_17, s49_20, s49_21, s49_24, s49_25, s49_26, s49_29, s49_30, s49_33, s49_34, s49_37, s49_40, s49_41, s49_44, s49_45, s49_46, s49_47, s49_48, s49_51, s49_52, s49_55, Option.toList_some, Option.toList_none, List.cons_append, List.nil_append, List.append_nil, ip_on_some, true_and, and_true, if_true, if_false, not_true_eq_false, not_false_eq_true, decide_true, true_or, or_true, or_self, Bool.false_eq_true]
            rw [hs.out] at hF
            exact stop _ _ _ (rdp_ft (hfr.trans mf2.toF) hF)
          · simp only [s49_0, s49_1, s49_3, s49_6, s49_7, s49_8, s49_11, s49_12, s49_13, s49_14, s49_17, s49_20, s49_21, s49_24, s49_25, s49_26, s49_29, s49_30, s49_33, s49_34, s49_37, s49_40, s49_41, s49_44, s49_45, s49_46, s49_47, s49_48, s49_51, s49_52, s49_55, Option.toList_some, Option.toList_none, List.cons_append, List.nil_append, List.append_nil, ip_on_some, true_and, and_true, if_true, if_false, not_true_eq_false, not_false_eq_true, decide_true, true_or, or_true, or_self, Bool.false_eq_true]
            have hg := hs.grow (by rw [h44]; decide)
            have hg2 := hs2.pos
            refine ih s2 X2 _ _ (by omega) hL2 ?_ ?_ (b5.trans a5) b6 (fun X3 I3 hr => ?_)
            · rw [show s2.2.2.2 = s1.2.2.2 from congrArg Prod.snd e3]
              exact (hMN1.xc ce2).mf mf2
            · rw [show s2.2.2.1 = s1.2.2.1 from congrArg Prod.fst e3]
              exact MVf.xc (MV.mf hMV1 mf2) ce2
            · refine hk X3 I3 (rdp_tr (hfr.trans mf2.toF) ⟨hs2.out.trans hs.out, by omega, fun z => by have := hs2.grow z; omega⟩ ?_)
              rw [ce2 5 (by decide) (by decide), e14] at hr
              exact hr
      · have hst : (takeS s).1 = 7 := by
          rw [hp]
          unfold rStall
          rw [show rOld (X1S s) s.2.1 s.2.2.1 s.2.2.2 6 = (0, ip_up (X1S s) 32 8 (nI i), s.2.2.1, s.2.2.2) from eo, if_pos rfl]
          simp only [x8_8]
          rw [eg, if_neg q]
        simp only [s49_0, s49_1, s49_3, s49_6, s49_7, s49_8, s49_11, s49_12, s49_13, s49_14, s49_17, s49_20, s49_21, s49_24, s49_25, s49_26, s49_29, s49_30, s49_33, s49_34, s49_37, s49_40, s49_41, s49_44, s49_45, s49_46, s49_47, s49_48, s49_51, s49_52, s49_55, f_47_0, f_47_1, u_47_1, f_47_2, u_47_2, f_47_3, f_47_4, u_47_4, f_47_5, f_47_6, u_47_6, f_47_7, u_47_7, f_47_8, u_47_8, f_47_9, u_47_9, f_47_10, u_47_10, f_47_11, f_47_12, f_47_13, f_47_14, f_47_15, f_47_16, f_47_17, f_47_18, f_47_19, f_47_20, f_47_21, f_47_22, f_47_23, u_47_23, f_47_24, f_47_25, f_47_26, f_47_27, f_47_28, f_47_29, u_47_29, f_47_30, u_47_30, f_47_31, f_47_32, f_47_33, f_47_34, f_47_35, u_47_35, f_47_36, u_47_36, f_47_37, u_47_37, f_47_38, u_47_38, o_47, a_61, l_61, an_61, h.b.f, nI_clamp (show i < 2 ^ 31 by omega), c2, c3, Bool.false_or, e61, q, Option.toList_some, Option.toList_none, List.cons_append, List.nil_append, List.append_nil, ip_on_some, true_and, and_true, if_true, if_false, not_true_eq_false, not_false_eq_true, decide_true, true_or, or_true, or_self, Bool.false_eq_true]
        refine st_take (v := True) (X'' := X) (I'' := I) (J'' := J) h h5' (fun _ => hst) (fun z => absurd trivial z) (fun X' r mf hF => ?_) (fun X' s1 z => absurd trivial z)
        cases r with
        | false =>
          simp only [s49_0, s49_1, s49_3, s49_6, s49_7, s49_8, s49_11, s49_12, s49_13, s49_14, s49_17, s49_20, s49_21, s49_24, s49_25, s49_26, s49_29, s49_30, s49_33, s49_34, s49_37, s49_40, s49_41, s49_44, s49_45, s49_46, s49_47, s49_48, s49_51, s49_52, s49_55, f_47_0, f_47_1, u_47_1, f_47_2, u_47_2, f_47_3, f_47_4, u_47_4, f_47_5, f_47_6, u_47_6, f_47_7, u_47_7, f_47_8, u_47_8, f_47_9, u_47_9, f_47_10, u_47_10, f_47_11, f_47_12, f_47_13, f_47_14, f_47_15, f_47_16, f_47_17, f_47_18, f_47_19, f_47_20, f_47_21, f_47_22, f_47_23, u_47_23, f_47_24, f_47_25, f_47_26, f_47_27, f_47_28, f_47_29, u_47_29, f_47_30, u_47_30, f_47_31, f_47_32, f_47_33, f_47_34, f_47_35, u_47_35, f_47_36, u_47_36, f_47_37, u_47_37, f_47_38, u_47_38, o_47, bI_ff, md_commaF hF.pos, Option.toList_some, Option.toList_none, List.cons_append, List.nil_append, List.append_nil, ip_on_some, true_and, and_true, if_true, if_false, not_true_eq_false, not_false_eq_true, decide_true, true_or, or_true, or_self, Bool.false_eq_true]
          exact stop _ _ _ (rdp_ft mf.toF hF)
        | true =>
          simp only [s49_0, s49_1, s49_3, s49_6, s49_7, s49_8, s49_11, s49_12, s49_13, s49_14, s49_17, s49_20, s49_21, s49_24, s49_25, s49_26, s49_29, s49_30, s49_33, s49_34, s49_37, s49_40, s49_41, s49_44, s49_45, s49_46, s49_47, s49_48, s49_51, s49_52, s49_55, f_47_0, f_47_1, u_47_1, f_47_2, u_47_2, f_47_3, f_47_4, u_47_4, f_47_5, f_47_6, u_47_6, f_47_7, u_47_7, f_47_8, u_47_8, f_47_9, u_47_9, f_47_10, u_47_10, f_47_11, f_47_12, f_47_13, f_47_14, f_47_15, f_47_16, f_47_17, f_47_18, f_47_19, f_47_20, f_47_21, f_47_22, f_47_23, u_47_23, f_47_24, f_47_25, f_47_26, f_47_27, f_47_28, f_47_29, u_47_29, f_47_30, u_47_30, f_47_31, f_47_32, f_47_33, f_47_34, f_47_35, u_47_35, f_47_36, u_47_36, f_47_37, u_47_37, f_47_38, u_47_38, o_47, a_61, l_61, an_61, bI_tt, qe_m1_0, qe_m1_1, qe_m1_2, qe_m1_3, qe_m1_4, qe_m1_5, qe_m1_6, qe_m1_7, qe_m1_8, qe_0_m1, qe_0_1, qe_0_2, qe_0_3, qe_0_4, qe_0_5, qe_0_6, qe_0_7, qe_0_8, qe_1_m1, qe_1_0, qe_1_2, qe_1_3, qe_1_4, qe_1_5, qe_1_6, qe_1_7, qe_1_8, qe_2_m1, qe_2_0, qe_2_1, qe_2_3, qe_2_4, qe_2_5, qe_2_6, qe_2_7, qe_2_8, qe_3_m1, qe_3_0, qe_3_1, qe_3_2, qe_3_4, qe_3_5, qe_3_6, qe_3_7, qe_3_8, qe_4_m1, qe_4_0, qe_4_1, qe_4_2, qe_4_3, qe_4_5, qe_4_6, qe_4_7, qe_4_8, qe_5_m1, qe_5_0, qe_5_1, qe_5_2, qe_5_3, qe_5_4, qe_5_6, qe_5_7, qe_5_8, qe_6_m1, qe_6_0, qe_6_1, qe_6_2, qe_6_3, qe_6_4, qe_6_5, qe_6_7, qe_6_8, qe_7_m1, qe_7_0, qe_7_1, qe_7_2, qe_7_3, qe_7_4, qe_7_5, qe_7_6, qe_7_8, qe_8_m1, qe_8_0, qe_8_1, qe_8_2, qe_8_3, qe_8_4, qe_8_5, qe_8_6, qe_8_7, nI_clamp (show i < 2 ^ 31 by omega), c2, c3, vn1, md_commaF hF.pos, Option.toList_some, Option.toList_none, List.cons_append, List.nil_append, List.append_nil, ip_on_some, true_and, and_true, if_true, if_false, not_true_eq_false, not_false_eq_true, decide_true, true_or, or_true, or_self, Bool.false_eq_true]
          exact stop _ _ _ (rdp_ft (mf.toF.trans (FR.arr (by decide) (by decide))) hF)
end
