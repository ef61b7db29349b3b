/-! readStage, hasPath, readPath -/
theorem pth_1 {s : SS} : rPart (X1S s) s.2.1 s.2.2.1 s.2.2.2 261 0 = rPS (X1S s) s.2.1 s.2.2.1 s.2.2.2 := by simp [rPart, pPath]
theorem pth_2 {s : SS} : rPart (X1S s) s.2.1 s.2.2.1 s.2.2.2 261 1 = rSign (X1S s) s.2.2.1 s.2.2.2 62 := by simp [rPart, pPath]
theorem pth_3 {s : SS} : rPart (X1S s) s.2.1 s.2.2.1 s.2.2.2 261 2 = rPE (X1S s) s.2.1 s.2.2.1 s.2.2.2 := by simp [rPart, pPath]
theorem pth_4 {s : SS} : rPart (X1S s) s.2.1 s.2.2.1 s.2.2.2 261 3 = rClose (X1S s) s.2.2.1 s.2.2.2 := by simp [rPart, pPath]
section
variable {N : Nat} {s : SS} {X : Nat → Nat → Int32} {y : Int64} {I : Nat → Nat → Int32} {J : Nat → Nat → Int64} {b : ip_B} {post : Option Value → ip_H → Prop} {px : String → ip_H → Prop}
theorem md_rdG (h : LR N s X I) (hm : MN s.1 s.2.2.2 X I) (hv : MVf s.1 s.2.2.1 X I) (h5 : s.1 32 5 = 257) (h6 : s.1 32 6 = 0)
    (hk : ∀ X' I', RDp N (out1 N s) X I (s.1 5 14) ((s.1 33 2).toNatClampNeg) X' I' → post none (g0, fld X' y, I', J)) : ip_WP 44 0 [some (.ref 47), none, none, none, none] [] (g0, fld X y, I, J) b post px := by
  have hp : takeS s = rNew (X1S s) s.2.1 s.2.2.1 s.2.2.2 8 12 := by rw [h.part, h5, h6, stg_1]
  have h5' : ¬ s.1 32 5 = -1 := by rw [h5]; decide
  have bad : ∀ (X' I' : Nat → Nat → Int32) (c : Nat), RDp N (out1 N s) X I (s.1 5 14) ((s.1 33 2).toNatClampNeg) X' I' → ip_WP 44 32 [some (.ref 47), some (.int (nI c)), some (.int 0), none, none] [] (g0, fld X' y, I', J) b post px := by
    intro X' I' c hr
    rw [s44_32]
    simp only [s44_0, s44_1, s44_2, s44_5, s44_6, s44_7, s44_8, s44_11, s44_14, s44_15, s44_16, s44_19, s44_20, s44_23, s44_26, s44_27, s44_30, s44_31, s44_33, s44_36, s44_37, s44_40, s44_43, s44_44, s44_47, s44_48, s44_51, s44_52, s44_55, s44_57, s44_60, s44_61, s44_64, s44_65, s44_66, s44_67, s44_70, s44_71, s44_74, s44_76, s44_77, s44_80, s44_81, s44_83, s44_84, s44_87, s44_88, s44_89, s44_90, s44_93, s44_96, s44_99, s44_100, s44_101, s44_104, s44_106, s44_107, s44_110, s44_111, s44_114, s44_115, s44_118, s44_121, s44_122, s44_125, s44_127, s44_128, s44_129, s44_130, s44_133, s44_134, s44_137, Option.toList_some, Option.toList_none, List.cons_append, List.nil_append, List.append_nil, ip_on_some, true_and, and_true, if_true, if_false, not_true_eq_false, not_false_eq_true, decide_true, true_or, or_true, or_self, Bool.false_eq_true]
    exact hk X' I' hr
  simp only [s44_0, s44_1, s44_2, s44_5, s44_6, s44_7, s44_8, s44_11, s44_14, s44_15, s44_16, s44_19, s44_20, s44_23, s44_26, s44_27, s44_30, s44_31, s44_33, s44_36, s44_37, s44_40, s44_43, s44_44, s44_47, s44_48, s44_51, s44_52, s44_55, s44_57, s44_60, s44_61, s44_64, s44_65, s44_66, s44_67, s44_70, s44_71, s44_74, s44_76, s44_77, s44_80, s44_81, s44_83, s44_84, s44_87, s44_88, s44_89, s44_90, s44_93, s44_96, s44_99, s44_100, s44_101, s44_104, s44_106, s44_107, s44_110, s44_111, s44_114, s44_115, s44_118, s44_121, s44_122, s44_125, s44_127, s44_128, s44_129, s44_130, s44_133, s44_134, s44_137, f_47_0, f_47_1, u_47_1, f_47_2, u_47_2, f_47_3, f_47_4, u_47_4, f_47_5, f_47_6, u_47_6, f_47_7, u_47_7, f_47_8, u_47_8, f_47_9, u_47_9, f_47_10, u_47_10, f_47_11, f_47_12, f_47_13, f_47_14, f_47_15, f_47_16, f_47_17, f_47_18, f_47_19, f_47_20, f_47_21, f_47_22, f_47_23, u_47_23, f_47_24, f_47_25, f_47_26, f_47_27, f_47_28, f_47_29, u_47_29, f_47_30, u_47_30, f_47_31, f_47_32, f_47_33, f_47_34, f_47_35, u_47_35, f_47_36, u_47_36, f_47_37, u_47_37, f_47_38, u_47_38, o_47, Option.toList_some, Option.toList_none, List.cons_append, List.nil_append, List.append_nil, ip_on_some, true_and, and_true, if_true, if_false, not_true_eq_false, not_false_eq_true, decide_true, true_or, or_true, or_self, Bool.false_eq_true]
  refine st_new (t := 1) h hm h5' (by decide) hp (fun X' I' c mfn hc hF => ?_) (fun X' I' s1 mfn hL hs hMN hlt hcnt eI e13 e14 a5 a6 a7 => ?_)
  · simp only [s44_0, s44_1, s44_2, s44_5, s44_6, s44_7, s44_8, s44_11, s44_14, s44_15, s44_16, s44_19, s44_20, s44_23, s44_26, s44_27, s44_30, s44_31, s44_33, s44_36, s44_37, s44_40, s44_43, s44_44, s44_47, s44_48, s44_51, s44_52, s44_55, s44_57, s44_60, s44_61, s44_64, s44_65, s44_66, s44_67, s44_70, s44_71, s44_74, s44_76, s44_77, s44_80, s44_81, s44_83, s44_84, s44_87, s44_88, s44_89, s44_90, s44_93, s44_96, s44_99, s44_100, s44_101, s44_104, s44_106, s44_107, s44_110, s44_111, s44_114, s44_115, s44_118, s44_121, s44_122, s44_125, s44_127, s44_128, s44_129, s44_130, s44_133, s44_134, s44_137, f_47_0, f_47_1, u_47_1, f_47_2, u_47_2, f_47_3, f_47_4, u_47_4, f_47_5, f_47_6, u_47_6, f_47_7, u_47_7, f_47_8, u_47_8, f_47_9, u_47_9, f_47_10, u_47_10, f_47_11, f_47_12, f_47_13, f_47_14, f_47_15, f_47_16, f_47_17, f_47_18, f_47_19, f_47_20, f_47_21, f_47_22, f_47_23, u_47_23, f_47_24, f_47_25, f_47_26, f_47_27, f_47_28, f_47_29, u_47_29, f_47_30, u_47_30, f_47_31, f_47_32, f_47_33, f_47_34, f_47_35, u_47_35, f_47_36, u_47_36, f_47_37, u_47_37, f_47_38, u_47_38, o_47, md_isWord, bI_0, ne0 hF.pos, false_and, Option.toList_some, Option.toList_none, List.cons_append, List.nil_append, List.append_nil, ip_on_some, true_and, and_true, if_true, if_false, not_true_eq_false, not_false_eq_true, decide_true, true_or, or_true, or_self, Bool.false_eq_true]
    exact hk X' I' (rdp_ft mfn.toF hF)
  · have hc0 := hcnt 0 (by decide)
    have hc1 := hcnt 1 (by decide)
    have hc2 := hcnt 2 (by decide)
    have hc3 := hcnt 3 (by decide)
    simp only [Nat.reduceEqDiff, if_true, if_false] at hc0 hc1 hc2 hc3
    rw [h5] at a5
    rw [h6] at a6
    have a6 : s1.1 32 6 = 1 := a6
    have b5 : ¬ s1.1 32 5 = -1 := by rw [a5]; decide
    have hMV1 : MVf s1.1 s1.2.2.1 X' I' := by
      show MV s1.1 s1.2.2.1 X' I' (cnt s1.1 0) (cnt s1.1 2) (cnt s1.1 3)
      rw [hc0, hc2, hc3, eI]
      exact MV.of hv (mfn.j 23 (by decide) (by decide) (by decide) (by decide) (by decide) (by decide) (by decide)) (fun a ha => mfn.a a (by omega)) (by omega) (by omega) e13
    have hp1 : takeS s1 = rWord (X1S s1) s1.2.2.1 s1.2.2.2 258 := by rw [hL.part, a5, a6, stg_2]
    have e33 : X1S s1 33 3 = s1.1 33 3 := by rw [x1_ne (by decide)]
    have hw : (X' 47 35 = 4 ∧ X' 47 38 = 2) = (s1.1 33 3 = 258) := hL.word (w := 2) (by decide)
    simp only [s44_0, s44_1, s44_2, s44_5, s44_6, s44_7, s44_8, s44_11, s44_14, s44_15, s44_16, s44_19, s44_20, s44_23, s44_26, s44_27, s44_30, s44_31, s44_33, s44_36, s44_37, s44_40, s44_43, s44_44, s44_47, s44_48, s44_51, s44_52, s44_55, s44_57, s44_60, s44_61, s44_64, s44_65, s44_66, s44_67, s44_70, s44_71, s44_74, s44_76, s44_77, s44_80, s44_81, s44_83, s44_84, s44_87, s44_88, s44_89, s44_90, s44_93, s44_96, s44_99, s44_100, s44_101, s44_104, s44_106, s44_107, s44_110, s44_111, s44_114, s44_115, s44_118, s44_121, s44_122, s44_125, s44_127, s44_128, s44_129, s44_130, s44_133, s44_134, s44_137, f_47_0, f_47_1, u_47_1, f_47_2, u_47_2, f_47_3, f_47_4, u_47_4, f_47_5, f_47_6, u_47_6, f_47_7, u_47_7, f_47_8, u_47_8, f_47_9, u_47_9, f_47_10, u_47_10, f_47_11, f_47_12, f_47_13, f_47_14, f_47_15, f_47_16, f_47_17, f_47_18, f_47_19, f_47_20, f_47_21, f_47_22, f_47_23, u_47_23, f_47_24, f_47_25, f_47_26, f_47_27, f_47_28, f_47_29, u_47_29, f_47_30, u_47_30, f_47_31, f_47_32, f_47_33, f_47_34, f_47_35, u_47_35, f_47_36, u_47_36, f_47_37, u_47_37, f_47_38, u_47_38, o_47, md_isWord, hL.b.f, hw, bI_0, Option.toList_some, Option.toList_none, List.cons_append, List.nil_append, List.append_nil, ip_on_some, true_and, and_true, if_true, if_false, not_true_eq_false, not_false_eq_true, decide_true, true_or, or_true, or_self, Bool.false_eq_true]
    by_cases q : s1.1 33 3 = 258
    · have hst1 : takeS s1 = ((0 : Int32), X1S s1, s1.2.2.1, s1.2.2.2) := by
        rw [hp1]
        unfold rWord
        rw [if_pos (e33.trans q)]
      simp only [q, Option.toList_some, Option.toList_none, List.cons_append, List.nil_append, List.append_nil, ip_on_some, true_and, and_true, if_true, if_false, not_true_eq_false, not_false_eq_true, decide_true, true_or, or_true, or_self, Bool.false_eq_true]
      refine st_adv hL hst1 (fun X2 mf2 hF => ?_) (fun X2 s2 mf2 hL2 hs2 e5 e6 => ?_)
      · rw [hs.out] at hF
        simp only [s44_0, s44_1, s44_2, s44_5, s44_6, s44_7, s44_8, s44_11, s44_14, s44_15, s44_16, s44_19, s44_20, s44_23, s44_26, s44_27, s44_30, s44_31, s44_33, s44_36, s44_37, s44_40, s44_43, s44_44, s44_47, s44_48, s44_51, s44_52, s44_55, s44_57, s44_60, s44_61, s44_64, s44_65, s44_66, s44_67, s44_70, s44_71, s44_74, s44_76, s44_77, s44_80, s44_81, s44_83, s44_84, s44_87, s44_88, s44_89, s44_90, s44_93, s44_96, s44_99, s44_100, s44_101, s44_104, s44_106, s44_107, s44_110, s44_111, s44_114, s44_115, s44_118, s44_121, s44_122, s44_125, s44_127, s44_128, s44_129, s44_130, s44_133, s44_134, s44_137, f_47_0, f_47_1, u_47_1, f_47_2, u_47_2, f_47_3, f_47_4, u_47_4, f_47_5, f_47_6, u_47_6, f_47_7, u_47_7, f_47_8, u_47_8, f_47_9, u_47_9, f_47_10, u_47_10, f_47_11, f_47_12, f_47_13, f_47_14, f_47_15, f_47_16, f_47_17, f_47_18, f_47_19, f_47_20, f_47_21, f_47_22, f_47_23, u_47_23, f_47_24, f_47_25, f_47_26, f_47_27, f_47_28, f_47_29, u_47_29, f_47_30, u_47_30, f_47_31, f_47_32, f_47_33, f_47_34, f_47_35, u_47_35, f_47_36, u_47_36, f_47_37, u_47_37, f_47_38, u_47_38, o_47, ne0 hF.pos, Option.toList_some, Option.toList_none, List.cons_append, List.nil_append, List.append_nil, ip_on_some, true_and, and_true, if_true, if_false, not_true_eq_false, not_false_eq_true, decide_true, true_or, or_true, or_self, Bool.false_eq_true]
        exact bad _ _ _ (rdp_ft (mfn.toF.trans mf2.toF) hF)
      · have ce2 : CE s1.1 s2.1 := fun k h1 h2 => by rw [e5 k h2, x1_ne h1]
        simp only [s44_0, s44_1, s44_2, s44_5, s44_6, s44_7, s44_8, s44_11, s44_14, s44_15, s44_16, s44_19, s44_20, s44_23, s44_26, s44_27, s44_30, s44_31, s44_33, s44_36, s44_37, s44_40, s44_43, s44_44, s44_47, s44_48, s44_51, s44_52, s44_55, s44_57, s44_60, s44_61, s44_64, s44_65, s44_66, s44_67, s44_70, s44_71, s44_74, s44_76, s44_77, s44_80, s44_81, s44_83, s44_84, s44_87, s44_88, s44_89, s44_90, s44_93, s44_96, s44_99, s44_100, s44_101, s44_104, s44_106, s44_107, s44_110, s44_111, s44_114, s44_115, s44_118, s44_121, s44_122, s44_125, s44_127, s44_128, s44_129, s44_130, s44_133, s44_134, s44_137, f_47_0, f_47_1, u_47_1, f_47_2, u_47_2, f_47_3, f_47_4, u_47_4, f_47_5, f_47_6, u_47_6, f_47_7, u_47_7, f_47_8, u_47_8, f_47_9, u_47_9, f_47_10, u_47_10, f_47_11, f_47_12, f_47_13, f_47_14, f_47_15, f_47_16, f_47_17, f_47_18, f_47_19, f_47_20, f_47_21, f_47_22, f_47_23, u_47_23, f_47_24, f_47_25, f_47_26, f_47_27, f_47_28, f_47_29, u_47_29, f_47_30, u_47_30, f_47_31, f_47_32, f_47_33, f_47_34, f_47_35, u_47_35, f_47_36, u_47_36, f_47_37, u_47_37, f_47_38, u_47_38, o_47, hL2.b.f, Option.toList_some, Option.toList_none, List.cons_append, List.nil_append, List.append_nil, ip_on_some, true_and, and_true, if_true, if_false, not_true_eq_false, not_false_eq_true, decide_true, true_or, or_true, or_self, Bool.false_eq_true]
        refine md_rdGl (g0' := cnt s.1 1) (N + 1 - (s2.1 33 2).toNatClampNeg) s2 X2 I' none none (Nat.le_refl _) hL2 ?_ ?_ ?_ (by rw [e5 32 (by decide), x1_5, a5]) (by rw [e5 32 (by decide), x1_6, a6]; rfl) (by rw [e5 32 (by decide), x1_7, a7]) (fun X3 I3 hr => ?_)
        · rw [show s2.2.2.2 = s1.2.2.2 from by rw [e6]]
          exact (hMN.xc ce2).mf mf2
        · rw [show s2.2.2.1 = s1.2.2.1 from by rw [e6]]
          exact MVf.xc (MV.mf hMV1 mf2) ce2
        · rw [ce2.n (by decide), hc1]; omega
        · have hg := hs.pos
          have hg2 := hs2.pos
          refine hk X3 I3 (rdp_tr (mfn.toF.trans mf2.toF) ⟨hs2.out.trans hs.out, by omega, fun z => by have := hs2.grow z; omega⟩ ?_)
          rw [ce2 5 (by decide) (by decide), e14] at hr
          exact hr
    · simp only [q, Option.toList_some, Option.toList_none, List.cons_append, List.nil_append, List.append_nil, ip_on_some, true_and, and_true, if_true, if_false, not_true_eq_false, not_false_eq_true, decide_true, true_or, or_true, or_self, Bool.false_eq_true]
      refine hk _ _ ⟨mfn.toF, Or.inr ⟨s1, hL, hMN, hMV1, hs.out, b5, ?_, e14, hs.pos⟩⟩
      rw [hp1]
      unfold rWord
      rw [if_neg (fun z => q (e33.symm.trans z))]
/-- hasPath -/
theorem md_hasP {n : Nat} {u v : Int32} (hn : n ≤ 24) (h23 : X 47 23 = nI n) (hk : post (some (.int (bI (anyF (fun i => decide (I 63 i = u) && decide (I 64 i = v)) n 0 = true)))) (g0, fld X y, I, J)) : ip_WP 47 0 [some (.ref 47), some (.int u), some (.int v), none, none] [] (g0, fld X y, I, J) b post px := by
  have loop : ∀ m i (hb : Bool), i + m = n → post (some (.int (bI ((hb || anyF (fun i => decide (I 63 i = u) && decide (I 64 i = v)) m i) = true)))) (g0, fld X y, I, J) → ip_WP 47 5 [some (.ref 47), some (.int u), some (.int v), some (.int (bI (hb = true))), some (.int (nI i))] [] (g0, fld X y, I, J) b post px := by
    intro m
    induction m with
    | zero =>
      intro i hb hi hp
      have c1 : nI n ≤ nI i := nI_le (by omega) (by omega)
      rw [s47_5]
      simp only [s47_0, s47_1, s47_2, s47_3, s47_7, s47_8, s47_11, s47_14, s47_15, s47_18, s47_19, s47_22, s47_24, s47_25, s47_26, s47_29, s47_30, s47_33, s47_35, s47_36, s47_37, s47_40, s47_41, s47_44, s47_45, s47_46, s47_49, s47_52, s47_53, f_47_0, f_47_1, u_47_1, f_47_2, u_47_2, f_47_3, f_47_4, u_47_4, f_47_5, f_47_6, u_47_6, f_47_7, u_47_7, f_47_8, u_47_8, f_47_9, u_47_9, f_47_10, u_47_10, f_47_11, f_47_12, f_47_13, f_47_14, f_47_15, f_47_16, f_47_17, f_47_18, f_47_19, f_47_20, f_47_21, f_47_22, f_47_23, u_47_23, f_47_24, f_47_25, f_47_26, f_47_27, f_47_28, f_47_29, u_47_29, f_47_30, u_47_30, f_47_31, f_47_32, f_47_33, f_47_34, f_47_35, u_47_35, f_47_36, u_47_36, f_47_37, u_47_37, f_47_38, u_47_38, o_47, h23, c1, bI_01, Option.toList_some, Option.toList_none, List.cons_append, List.nil_append, List.append_nil, ip_on_some, true_and, and_true, if_true, if_false, not_true_eq_false, not_false_eq_true, decide_true, true_or, or_true, or_self, Bool.false_eq_true]
      rw [anyF, Bool.or_false] at hp
      exact hp
    | succ m ih =>
      intro i hb hi hp
      have c1 : ¬ nI n ≤ nI i := nI_ge (by omega) (by omega)
      have c2 : ¬ nI i < 0 := nI_pos (by omega)
      have c3 : ¬ 24 ≤ i := by omega
      rw [s47_5]
      cases hb with
      | true =>
        simp only [s47_0, s47_1, s47_2, s47_3, s47_7, s47_8, s47_11, s47_14, s47_15, s47_18, s47_19, s47_22, s47_24, s47_25, s47_26, s47_29, s47_30, s47_33, s47_35, s47_36, s47_37, s47_40, s47_41, s47_44, s47_45, s47_46, s47_49, s47_52, s47_53, f_47_0, f_47_1, u_47_1, f_47_2, u_47_2, f_47_3, f_47_4, u_47_4, f_47_5, f_47_6, u_47_6, f_47_7, u_47_7, f_47_8, u_47_8, f_47_9, u_47_9, f_47_10, u_47_10, f_47_11, f_47_12, f_47_13, f_47_14, f_47_15, f_47_16, f_47_17, f_47_18, f_47_19, f_47_20, f_47_21, f_47_22, f_47_23, u_47_23, f_47_24, f_47_25, f_47_26, f_47_27, f_47_28, f_47_29, u_47_29, f_47_30, u_47_30, f_47_31, f_47_32, f_47_33, f_47_34, f_47_35, u_47_35, f_47_36, u_47_36, f_47_37, u_47_37, f_47_38, u_47_38, o_47, h23, c1, bI_tt, nI_1, qe_m1_0, qe_m1_1, qe_m1_2, qe_m1_3, qe_m1_4, qe_m1_5, qe_m1_6, qe_m1_7, qe_m1_8, qe_0_m1, qe_0_1, qe_0_2, qe_0_3, qe_0_4, qe_0_5, qe_0_6, qe_0_7, qe_0_8, qe_1_m1, qe_1_0, qe_1_2, qe_1_3, qe_1_4, qe_1_5, qe_1_6, qe_1_7, qe_1_8, qe_2_m1, qe_2_0, qe_2_1, qe_2_3, qe_2_4, qe_2_5, qe_2_6, qe_2_7, qe_2_8, qe_3_m1, qe_3_0, qe_3_1, qe_3_2, qe_3_4, qe_3_5, qe_3_6, qe_3_7, qe_3_8, qe_4_m1, qe_4_0, qe_4_1, qe_4_2, qe_4_3, qe_4_5, qe_4_6, qe_4_7, qe_4_8, qe_5_m1, qe_5_0, qe_5_1, qe_5_2, qe_5_3, qe_5_4, qe_5_6, qe_5_7, qe_5_8, qe_6_m1, qe_6_0, qe_6_1, qe_6_2, qe_6_3, qe_6_4, qe_6_5, qe_6_7, qe_6_8, qe_7_m1, qe_7_0, qe_7_1, qe_7_2, qe_7_3, qe_7_4, qe_7_5, qe_7_6, qe_7_8, qe_8_m1, qe_8_0, qe_8_1, qe_8_2, qe_8_3, qe_8_4, qe_8_5, qe_8_6, qe_8_7, Option.toList_some, Option.toList_none, List.cons_append, List.nil_append, List.append_nil, ip_on_some, true_and, and_true, if_true, if_false, not_true_eq_false, not_false_eq_true, decide_true, true_or, or_true, or_self, Bool.false_eq_true]
        exact ih (i + 1) true (by omega) (by simpa using hp)
      | false =>
        by_cases q1 : I 63 i = u
        · by_cases q2 : I 64 i = v
          · simp only [s47_0, s47_1, s47_2, s47_3, s47_7, s47_8, s47_11, s47_14, s47_15, s47_18, s47_19, s47_22, s47_24, s47_25, s47_26, s47_29, s47_30, s47_33, s47_35, s47_36, s47_37, s47_40, s47_41, s47_44, s47_45, s47_46, s47_49, s47_52, s47_53, f_47_0, f_47_1, u_47_1, f_47_2, u_47_2, f_47_3, f_47_4, u_47_4, f_47_5, f_47_6, u_47_6, f_47_7, u_47_7, f_47_8, u_47_8, f_47_9, u_47_9, f_47_10, u_47_10, f_47_11, f_47_12, f_47_13, f_47_14, f_47_15, f_47_16, f_47_17, f_47_18, f_47_19, f_47_20, f_47_21, f_47_22, f_47_23, u_47_23, f_47_24, f_47_25, f_47_26, f_47_27, f_47_28, f_47_29, u_47_29, f_47_30, u_47_30, f_47_31, f_47_32, f_47_33, f_47_34, f_47_35, u_47_35, f_47_36, u_47_36, f_47_37, u_47_37, f_47_38, u_47_38, o_47, a_63, l_63, a_64, l_64, h23, c1, c2, c3, bI_ff, nI_1, nI_clamp (show i < 2 ^ 31 by omega), q1, q2, Option.toList_some, Option.toList_none, List.cons_append, List.nil_append, List.append_nil, ip_on_some, true_and, and_true, if_true, if_false, not_true_eq_false, not_false_eq_true, decide_true, true_or, or_true, or_self, Bool.false_eq_true]
            refine ih (i + 1) true (by omega) ?_
            simp only [anyF, q1, q2, decide_true, Bool.and_self, Bool.true_or, Bool.or_true, Bool.false_or] at hp ⊢
            exact hp
          · simp only [s47_0, s47_1, s47_2, s47_3, s47_7, s47_8, s47_11, s47_14, s47_15, s47_18, s47_19, s47_22, s47_24, s47_25, s47_26, s47_29, s47_30, s47_33, s47_35, s47_36, s47_37, s47_40, s47_41, s47_44, s47_45, s47_46, s47_49, s47_52, s47_53, f_47_0, f_47_1, u_47_1, f_47_2, u_47_2, f_47_3, f_47_4, u_47_4, f_47_5, f_47_6, u_47_6, f_47_7, u_47_7, f_47_8, u_47_8, f_47_9, u_47_9, f_47_10, u_47_10, f_47_11, f_47_12, f_47_13, f_47_14, f_47_15, f_47_16, f_47_17, f_47_18, f_47_19, f_47_20, f_47_21, f_47_22, f_47_23, u_47_23, f_47_24, f_47_25, f_47_26, f_47_27, f_47_28, f_47_29, u_47_29, f_47_30, u_47_30, f_47_31, f_47_32, f_47_33, f_47_34, f_47_35, u_47_35, f_47_36, u_47_36, f_47_37, u_47_37, f_47_38, u_47_38, o_47, a_63, l_63, a_64, l_64, h23, c1, c2, c3, bI_ff, nI_1, nI_clamp (show i < 2 ^ 31 by omega), q1, q2, Option.toList_some, Option.toList_none, List.cons_append, List.nil_append, List.append_nil, ip_on_some, true_and, and_true, if_true, if_false, not_true_eq_false, not_false_eq_true, decide_true, true_or, or_true, or_self, Bool.false_eq_true]
            refine ih (i + 1) false (by omega) ?_
            simp only [anyF, q1, q2, decide_true, decide_false, Bool.and_false, Bool.false_or] at hp ⊢
            exact hp
        · simp only [s47_0, s47_1, s47_2, s47_3, s47_7, s47_8, s47_11, s47_14, s47_15, s47_18, s47_19, s47_22, s47_24, s47_25, s47_26, s47_29, s47_30, s47_33, s47_35, s47_36, s47_37, s47_40, s47_41, s47_44, s47_45, s47_46, s47_49, s47_52, s47_53, f_47_0, f_47_1, u_47_1, f_47_2, u_47_2, f_47_3, f_47_4, u_47_4, f_47_5, f_47_6, u_47_6, f_47_7, u_47_7, f_47_8, u_47_8, f_47_9, u_47_9, f_47_10, u_47_10, f_47_11, f_47_12, f_47_13, f_47_14, f_47_15, f_47_16, f_47_17, f_47_18, f_47_19, f_47_20, f_47_21, f_47_22, f_47_23, u_47_23, f_47_24, f_47_25, f_47_26, f_47_27, f_47_28, f_47_29, u_47_29, f_47_30, u_47_30, f_47_31, f_47_32, f_47_33, f_47_34, f_47_35, u_47_35, f_47_36, u_47_36, f_47_37, u_47_37, f_47_38, u_47_38, o_47, a_63, l_63, a_64, l_64, h23, c1, c2, c3, bI_ff, nI_1, nI_clamp (show i < 2 ^ 31 by omega), q1, Option.toList_some, Option.toList_none, List.cons_append, List.nil_append, List.append_nil, ip_on_some, true_and, and_true, if_true, if_false, not_true_eq_false, not_false_eq_true, decide_true, true_or, or_true, or_self, Bool.false_eq_true]
          refine ih (i + 1) false (by omega) ?_
          simp only [anyF, q1, decide_false, Bool.false_and, Bool.false_or] at hp ⊢
          exact hp
  have := loop n 0 false (Nat.zero_add n) (by simpa using hk)
  rw [nI_0] at this
  simp only [s47_0, s47_1, s47_2, s47_3]
  exact this
theorem md_rdA (h : LR N s X I) (hm : MN s.1 s.2.2.2 X I) (hv : MVf s.1 s.2.2.1 X I) (h5 : s.1 32 5 = 261) (h6 : s.1 32 6 = 0)
    (hk : ∀ X' I', RDp N (out1 N s) X I (s.1 5 14) ((s.1 33 2).toNatClampNeg) X' I' → post none (g0, fld X' y, I', J)) : ip_WP 48 0 [some (.ref 47), none, none] [] (g0, fld X y, I, J) b post px := by
  have hp : takeS s = rPS (X1S s) s.2.1 s.2.2.1 s.2.2.2 := by rw [h.part, h5, h6, pth_1]
  have h5' : ¬ s.1 32 5 = -1 := by rw [h5]; decide
  have hb1 := (hm.bd.c 1 (by decide)).2.1
  simp only [Nat.reduceLT, if_true] at hb1
  have hn := cn_eq hm.bd.ap
  have hn24 := cn_le (n := 24) hm.bd.ap hm.bd.bp (by decide)
  generalize hN0 : (s.1 5 13).toNatClampNeg = n at hn hn24
  simp only [s48_0, s48_1, s48_2, s48_5, s48_6, s48_7, s48_8, s48_11, s48_12, s48_13, s48_15, s48_18, s48_19, s48_22, s48_25, s48_26, s48_29, s48_30, s48_33, s48_34, s48_37, s48_39, s48_42, s48_43, s48_44, s48_45, s48_48, s48_51, s48_52, s48_53, s48_56, s48_57, s48_58, s48_59, s48_62, s48_65, s48_66, s48_67, s48_68, s48_71, s48_74, s48_75, s48_78, s48_79, s48_82, s48_85, s48_86, s48_89, s48_90, s48_93, s48_94, s48_95, s48_96, s48_99, s48_100, s48_103, s48_104, s48_105, s48_106, s48_107, s48_110, s48_111, s48_112, s48_115, f_47_0, f_47_1, u_47_1, f_47_2, u_47_2, f_47_3, f_47_4, u_47_4, f_47_5, f_47_6, u_47_6, f_47_7, u_47_7, f_47_8, u_47_8, f_47_9, u_47_9, f_47_10, u_47_10, f_47_11, f_47_12, f_47_13, f_47_14, f_47_15, f_47_16, f_47_17, f_47_18, f_47_19, f_47_20, f_47_21, f_47_22, f_47_23, u_47_23, f_47_24, f_47_25, f_47_26, f_47_27, f_47_28, f_47_29, u_47_29, f_47_30, u_47_30, f_47_31, f_47_32, f_47_33, f_47_34, f_47_35, u_47_35, f_47_36, u_47_36, f_47_37, u_47_37, f_47_38, u_47_38, o_47, Option.toList_some, Option.toList_none, List.cons_append, List.nil_append, List.append_nil, ip_on_some, true_and, and_true, if_true, if_false, not_true_eq_false, not_false_eq_true, decide_true, true_or, or_true, or_self, Bool.false_eq_true]
  refine md_old (t := 1) h hm h5' (by decide) (fun z => by rw [hp]; rfl) (fun X' mf hF => ?_) (fun a ha hkd hkey hnf => ?_)
  · simp only [s48_0, s48_1, s48_2, s48_5, s48_6, s48_7, s48_8, s48_11, s48_12, s48_13, s48_15, s48_18, s48_19, s48_22, s48_25, s48_26, s48_29, s48_30, s48_33, s48_34, s48_37, s48_39, s48_42, s48_43, s48_44, s48_45, s48_48, s48_51, s48_52, s48_53, s48_56, s48_57, s48_58, s48_59, s48_62, s48_65, s48_66, s48_67, s48_68, s48_71, s48_74, s48_75, s48_78, s48_79, s48_82, s48_85, s48_86, s48_89, s48_90, s48_93, s48_94, s48_95, s48_96, s48_99, s48_100, s48_103, s48_104, s48_105, s48_106, s48_107, s48_110, s48_111, s48_112, s48_115, f_47_0, f_47_1, u_47_1, f_47_2, u_47_2, f_47_3, f_47_4, u_47_4, f_47_5, f_47_6, u_47_6, f_47_7, u_47_7, f_47_8, u_47_8, f_47_9, u_47_9, f_47_10, u_47_10, f_47_11, f_47_12, f_47_13, f_47_14, f_47_15, f_47_16, f_47_17, f_47_18, f_47_19, f_47_20, f_47_21, f_47_22, f_47_23, u_47_23, f_47_24, f_47_25, f_47_26, f_47_27, f_47_28, f_47_29, u_47_29, f_47_30, u_47_30, f_47_31, f_47_32, f_47_33, f_47_34, f_47_35, u_47_35, f_47_36, u_47_36, f_47_37, u_47_37, f_47_38, u_47_38, o_47, ne0 hF.pos, md_takeF hF.pos, md_signF hF.pos, md_oldF hF.pos, Option.toList_some, Option.toList_none, List.cons_append, List.nil_append, List.append_nil, ip_on_some, true_and, and_true, if_true, if_false, not_true_eq_false, not_false_eq_true, decide_true, true_or, or_true, or_self, Bool.false_eq_true]
    exact hk X' I (rdp_ft mf.toF hF)
  · have eo := old_eq (t := 1) (by decide) (show a < 2 ^ 31 by omega) hkd hnf
    have hst : takeS s = ((0 : Int32), ip_up (ip_up (X1S s) 32 8 (nI a)) 32 7 (nI a), s.2.2.1, s.2.2.2) := by
      rw [hp]
      unfold rPS
      rw [show rOld (X1S s) s.2.1 s.2.2.1 s.2.2.2 8 = (0, ip_up (X1S s) 32 8 (nI a), s.2.2.1, s.2.2.2) from eo]
      simp only [x8_8]
    simp only [s48_0, s48_1, s48_2, s48_5, s48_6, s48_7, s48_8, s48_11, s48_12, s48_13, s48_15, s48_18, s48_19, s48_22, s48_25, s48_26, s48_29, s48_30, s48_33, s48_34, s48_37, s48_39, s48_42, s48_43, s48_44, s48_45, s48_48, s48_51, s48_52, s48_53, s48_56, s48_57, s48_58, s48_59, s48_62, s48_65, s48_66, s48_67, s48_68, s48_71, s48_74, s48_75, s48_78, s48_79, s48_82, s48_85, s48_86, s48_89, s48_90, s48_93, s48_94, s48_95, s48_96, s48_99, s48_100, s48_103, s48_104, s48_105, s48_106, s48_107, s48_110, s48_111, s48_112, s48_115, f_47_0, f_47_1, u_47_1, f_47_2, u_47_2, f_47_3, f_47_4, u_47_4, f_47_5, f_47_6, u_47_6, f_47_7, u_47_7, f_47_8, u_47_8, f_47_9, u_47_9, f_47_10, u_47_10, f_47_11, f_47_12, f_47_13, f_47_14, f_47_15, f_47_16, f_47_17, f_47_18, f_47_19, f_47_20, f_47_21, f_47_22, f_47_23, u_47_23, f_47_24, f_47_25, f_47_26, f_47_27, f_47_28, f_47_29, u_47_29, f_47_30, u_47_30, f_47_31, f_47_32, f_47_33, f_47_34, f_47_35, u_47_35, f_47_36, u_47_36, f_47_37, u_47_37, f_47_38, u_47_38, o_47, Option.toList_some, Option.toList_none, List.cons_append, List.nil_append, List.append_nil, ip_on_some, true_and, and_true, if_true, if_false, not_true_eq_false, not_false_eq_true, decide_true, true_or, or_true, or_self, Bool.false_eq_true]
    refine st_take (v := False) h h5' (fun z => z.elim) (fun _ => hst) (fun X' r mf hF => ?_) (fun X' s1 _ mf hL hs e1 e2 => ?_)
    · simp only [s48_0, s48_1, s48_2, s48_5, s48_6, s48_7, s48_8, s48_11, s48_12, s48_13, s48_15, s48_18, s48_19, s48_22, s48_25, s48_26, s48_29, s48_30, s48_33, s48_34, s48_37, s48_39, s48_42, s48_43, s48_44, s48_45, s48_48, s48_51, s48_52, s48_53, s48_56, s48_57, s48_58, s48_59, s48_62, s48_65, s48_66, s48_67, s48_68, s48_71, s48_74, s48_75, s48_78, s48_79, s48_82, s48_85, s48_86, s48_89, s48_90, s48_93, s48_94, s48_95, s48_96, s48_99, s48_100, s48_103, s48_104, s48_105, s48_106, s48_107, s48_110, s48_111, s48_112, s48_115, f_47_0, f_47_1, u_47_1, f_47_2, u_47_2, f_47_3, f_47_4, u_47_4, f_47_5, f_47_6, u_47_6, f_47_7, u_47_7, f_47_8, u_47_8, f_47_9, u_47_9, f_47_10, u_47_10, f_47_11, f_47_12, f_47_13, f_47_14, f_47_15, f_47_16, f_47_17, f_47_18, f_47_19, f_47_20, f_47_21, f_47_22, f_47_23, u_47_23, f_47_24, f_47_25, f_47_26, f_47_27, f_47_28, f_47_29, u_47_29, f_47_30, u_47_30, f_47_31, f_47_32, f_47_33, f_47_34, f_47_35, u_47_35, f_47_36, u_47_36, f_47_37, u_47_37, f_47_38, u_47_38, o_47, ne0 hF.pos, md_signF hF.pos, md_oldF hF.pos, md_takeF hF.pos, Option.toList_some, Option.toList_none, List.cons_append, List.nil_append, List.append_nil, ip_on_some, true_and, and_true, if_true, if_false, not_true_eq_false, not_false_eq_true, decide_true, true_or, or_true, or_self, Bool.false_eq_true]
      exact hk X' I (rdp_ft mf.toF hF)
    · have ce : CE s.1 s1.1 := fun k h1 h2 => by rw [e1 k h2, x87_ne h1]
      have a5 : s1.1 32 5 = 261 := by rw [e1 32 (by decide), x87_5, h5]
      have a6 : s1.1 32 6 = 1 := by rw [e1 32 (by decide), x87_6, h6]; rfl
      have a7 : s1.1 32 7 = nI a := by rw [e1 32 (by decide), x87_7]
      have b5 : ¬ s1.1 32 5 = -1 := by rw [a5]; decide
      have hp1 : takeS s1 = rSign (X1S s1) s1.2.2.1 s1.2.2.2 62 := by rw [hL.part, a5, a6, pth_2]
      simp only [s48_0, s48_1, s48_2, s48_5, s48_6, s48_7, s48_8, s48_11, s48_12, s48_13, s48_15, s48_18, s48_19, s48_22, s48_25, s48_26, s48_29, s48_30, s48_33, s48_34, s48_37, s48_39, s48_42, s48_43, s48_44, s48_45, s48_48, s48_51, s48_52, s48_53, s48_56, s48_57, s48_58, s48_59, s48_62, s48_65, s48_66, s48_67, s48_68, s48_71, s48_74, s48_75, s48_78, s48_79, s48_82, s48_85, s48_86, s48_89, s48_90, s48_93, s48_94, s48_95, s48_96, s48_99, s48_100, s48_103, s48_104, s48_105, s48_106, s48_107, s48_110, s48_111, s48_112, s48_115, f_47_0, f_47_1, u_47_1, f_47_2, u_47_2, f_47_3, f_47_4, u_47_4, f_47_5, f_47_6, u_47_6, f_47_7, u_47_7, f_47_8, u_47_8, f_47_9, u_47_9, f_47_10, u_47_10, f_47_11, f_47_12, f_47_13, f_47_14, f_47_15, f_47_16, f_47_17, f_47_18, f_47_19, f_47_20, f_47_21, f_47_22, f_47_23, u_47_23, f_47_24, f_47_25, f_47_26, f_47_27, f_47_28, f_47_29, u_47_29, f_47_30, u_47_30, f_47_31, f_47_32, f_47_33, f_47_34, f_47_35, u_47_35, f_47_36, u_47_36, f_47_37, u_47_37, f_47_38, u_47_38, o_47, Option.toList_some, Option.toList_none, List.cons_append, List.nil_append, List.append_nil, ip_on_some, true_and, and_true, if_true, if_false, not_true_eq_false, not_false_eq_true, decide_true, true_or, or_true, or_self, Bool.false_eq_true]
      refine st_sign hL (by decide) b5 hp1 (fun X2 mf2 hF => ?_) (fun X2 s2 mf2 hL2 hs2 ce2 e3 d5 d6 d7 => ?_)
      · rw [hs.out] at hF
        simp only [s48_0, s48_1, s48_2, s48_5, s48_6, s48_7, s48_8, s48_11, s48_12, s48_13, s48_15, s48_18, s48_19, s48_22, s48_25, s48_26, s48_29, s48_30, s48_33, s48_34, s48_37, s48_39, s48_42, s48_43, s48_44, s48_45, s48_48, s48_51, s48_52, s48_53, s48_56, s48_57, s48_58, s48_59, s48_62, s48_65, s48_66, s48_67, s48_68, s48_71, s48_74, s48_75, s48_78, s48_79, s48_82, s48_85, s48_86, s48_89, s48_90, s48_93, s48_94, s48_95, s48_96, s48_99, s48_100, s48_103, s48_104, s48_105, s48_106, s48_107, s48_110, s48_111, s48_112, s48_115, f_47_0, f_47_1, u_47_1, f_47_2, u_47_2, f_47_3, f_47_4, u_47_4, f_47_5, f_47_6, u_47_6, f_47_7, u_47_7, f_47_8, u_47_8, f_47_9, u_47_9, f_47_10, u_47_10, f_47_11, f_47_12, f_47_13, f_47_14, f_47_15, f_47_16, f_47_17, f_47_18, f_47_19, f_47_20, f_47_21, f_47_22, f_47_23, u_47_23, f_47_24, f_47_25, f_47_26, f_47_27, f_47_28, f_47_29, u_47_29, f_47_30, u_47_30, f_47_31, f_47_32, f_47_33, f_47_34, f_47_35, u_47_35, f_47_36, u_47_36, f_47_37, u_47_37, f_47_38, u_47_38, o_47, ne0 hF.pos, md_oldF hF.pos, md_takeF hF.pos, Option.toList_some, Option.toList_none, List.cons_append, List.nil_append, List.append_nil, ip_on_some, true_and, and_true, if_true, if_false, not_true_eq_false, not_false_eq_true, decide_true, true_or, or_true, or_self, Bool.false_eq_true]
        exact hk X2 I (rdp_ft (mf.toF.trans mf2.toF) hF)
      · have f5 : ¬ s2.1 32 5 = -1 := by rw [d5]; exact b5
        have hp2 : takeS s2 = rPE (X1S s2) s2.2.1 s2.2.2.1 s2.2.2.2 := by
          rw [hL2.part, d5, a5, d6, a6]
          exact pth_3
        have m7 : s2.1 32 7 = nI a := by rw [d7, a7]
        have eI2 : s2.2.2.1 = s.2.2.1 := (congrArg Prod.fst e3).trans (congrArg Prod.fst e2)
        have eJ2 : s2.2.2.2 = s.2.2.2 := (congrArg Prod.snd e3).trans (congrArg Prod.snd e2)
        have ce12 : CE s.1 s2.1 := ce.trans ce2
        have hMN2 : MN s2.1 s2.2.2.2 X2 I := by rw [eJ2]; exact ((hm.xc ce12).mf mf).mf mf2
        have hMV2 : MVf s2.1 s2.2.2.1 X2 I := by rw [eI2]; exact MVf.xc (MV.mf (MV.mf hv mf) mf2) ce12
        have n13 : s2.1 5 13 = nI n := by rw [ce12 5 (by decide) (by decide)]; exact hn
        have x23 : X2 47 23 = nI n := hMV2.pt.trans n13
        have e33 : X1S s2 33 3 = s2.1 33 3 := by rw [x1_ne (by decide)]
        have e513 : X1S s2 5 13 = nI n := by rw [x1_ne (by decide)]; exact n13
        have hkn := hL2.kn
        by_cases full : s2.1 33 3 = 2 ∧ n = 24
        · have hst2 : (takeS s2).1 = 3 := by
            rw [hp2]
            unfold rPE
            rw [if_pos ⟨e33.trans full.1, by rw [e513, full.2]; exact Int32.le_refl _⟩]
          have hF := hL2.tell (fun z => f5 z.2) hst2 (by decide)
          have k1 : X2 47 35 = 1 := by rw [hkn]; exact full.1
          have x24 : X2 47 23 = 24 := by rw [x23, full.2]; rfl
          rw [hs2.out, hs.out] at hF
          simp only [s48_0, s48_1, s48_2, s48_5, s48_6, s48_7, s48_8, s48_11, s48_12, s48_13, s48_15, s48_18, s48_19, s48_22, s48_25, s48_26, s48_29, s48_30, s48_33, s48_34, s48_37, s48_39, s48_42, s48_43, s48_44, s48_45, s48_48, s48_51, s48_52, s48_53, s48_56, s48_57, s48_58, s48_59, s48_62, s48_65, s48_66, s48_67, s48_68, s48_71, s48_74, s48_75, s48_78, s48_79, s48_82, s48_85, s48_86, s48_89, s48_90, s48_93, s48_94, s48_95, s48_96, s48_99, s48_100, s48_103, s48_104, s48_105, s48_106, s48_107, s48_110, s48_111, s48_112, s48_115, f_47_0, f_47_1, u_47_1, f_47_2, u_47_2, f_47_3, f_47_4, u_47_4, f_47_5, f_47_6, u_47_6, f_47_7, u_47_7, f_47_8, u_47_8, f_47_9, u_47_9, f_47_10, u_47_10, f_47_11, f_47_12, f_47_13, f_47_14, f_47_15, f_47_16, f_47_17, f_47_18, f_47_19, f_47_20, f_47_21, f_47_22, f_47_23, u_47_23, f_47_24, f_47_25, f_47_26, f_47_27, f_47_28, f_47_29, u_47_29, f_47_30, u_47_30, f_47_31, f_47_32, f_47_33, f_47_34, f_47_35, u_47_35, f_47_36, u_47_36, f_47_37, u_47_37, f_47_38, u_47_38, o_47, hL2.b.f, k1, x24, md_tell, ne0 hF.pos, md_oldF hF.pos, md_takeF hF.pos, Option.toList_some, Option.toList_none, List.cons_append, List.nil_append, List.append_nil, ip_on_some, true_and, and_true, if_true, if_false, not_true_eq_false, not_false_eq_true, decide_true, true_or, or_true, or_self, Bool.false_eq_true]
          exact hk _ I (rdp_ft ((mf.toF.trans mf2.toF).trans MF.refl.tell.toF) hF)
        · have nf : ¬ (X1S s2 33 3 = 2 ∧ 24 ≤ X1S s2 5 13) := fun z => full ⟨e33.symm.trans z.1, by
            have := z.2
            rw [e513] at this
            have := (nI_leI (a := 24) (b := n) (by decide) (by omega)).mp this
            omega⟩
          have go : ip_WP 48 51 [some (.ref 47), some (.int (nI a)), none] [] (g0, fld X2 y, I, J) b post px := by
            simp only [s48_0, s48_1, s48_2, s48_5, s48_6, s48_7, s48_8, s48_11, s48_12, s48_13, s48_15, s48_18, s48_19, s48_22, s48_25, s48_26, s48_29, s48_30, s48_33, s48_34, s48_37, s48_39, s48_42, s48_43, s48_44, s48_45, s48_48, s48_51, s48_52, s48_53, s48_56, s48_57, s48_58, s48_59, s48_62, s48_65, s48_66, s48_67, s48_68, s48_71, s48_74, s48_75, s48_78, s48_79, s48_82, s48_85, s48_86, s48_89, s48_90, s48_93, s48_94, s48_95, s48_96, s48_99, s48_100, s48_103, s48_104, s48_105, s48_106, s48_107, s48_110, s48_111, s48_112, s48_115, f_47_0, f_47_1, u_47_1, f_47_2, u_47_2, f_47_3, f_47_4, u_47_4, f_47_5, f_47_6, u_47_6, f_47_7, u_47_7, f_47_8, u_47_8, f_47_9, u_47_9, f_47_10, u_47_10, f_47_11, f_47_12, f_47_13, f_47_14, f_47_15, f_47_16, f_47_17, f_47_18, f_47_19, f_47_20, f_47_21, f_47_22, f_47_23, u_47_23, f_47_24, f_47_25, f_47_26, f_47_27, f_47_28, f_47_29, u_47_29, f_47_30, u_47_30, f_47_31, f_47_32, f_47_33, f_47_34, f_47_35, u_47_35, f_47_36, u_47_36, f_47_37, u_47_37, f_47_38, u_47_38, o_47, Option.toList_some, Option.toList_none, List.cons_append, List.nil_append, List.append_nil, ip_on_some, true_and, and_true, if_true, if_false, not_true_eq_false, not_false_eq_true, decide_true, true_or, or_true, or_self, Bool.false_eq_true]
            refine md_old (t := 1) hL2 hMN2 f5 (by decide) (fun z => ?_) (fun X3 mf3 hF => ?_) (fun c hc hkd2 hkey2 hnf2 => ?_)
            · rw [hp2]
              unfold rPE
              rw [if_neg nf]
              rw [if_neg (show ¬ (rOld (X1S s2) s2.2.1 s2.2.2.1 s2.2.2.2 8).1 = 0 from z)]
            · rw [hs2.out, hs.out] at hF
              simp only [s48_0, s48_1, s48_2, s48_5, s48_6, s48_7, s48_8, s48_11, s48_12, s48_13, s48_15, s48_18, s48_19, s48_22, s48_25, s48_26, s48_29, s48_30, s48_33, s48_34, s48_37, s48_39, s48_42, s48_43, s48_44, s48_45, s48_48, s48_51, s48_52, s48_53, s48_56, s48_57, s48_58, s48_59, s48_62, s48_65, s48_66, s48_67, s48_68, s48_71, s48_74, s48_75, s48_78, s48_79, s48_82, s48_85, s48_86, s48_89, s48_90, s48_93, s48_94, s48_95, s48_96, s48_99, s48_100, s48_103, s48_104, s48_105, s48_106, s48_107, s48_110, s48_111, s48_112, s48_115, f_47_0, f_47_1, u_47_1, f_47_2, u_47_2, f_47_3, f_47_4, u_47_4, f_47_5, f_47_6, u_47_6, f_47_7, u_47_7, f_47_8, u_47_8, f_47_9, u_47_9, f_47_10, u_47_10, f_47_11, f_47_12, f_47_13, f_47_14, f_47_15, f_47_16, f_47_17, f_47_18, f_47_19, f_47_20, f_47_21, f_47_22, f_47_23, u_47_23, f_47_24, f_47_25, f_47_26, f_47_27, f_47_28, f_47_29, u_47_29, f_47_30, u_47_30, f_47_31, f_47_32, f_47_33, f_47_34, f_47_35, u_47_35, f_47_36, u_47_36, f_47_37, u_47_37, f_47_38, u_47_38, o_47, ne0 hF.pos, md_takeF hF.pos, Option.toList_some, Option.toList_none, List.cons_append, List.nil_append, List.append_nil, ip_on_some, true_and, and_true, if_true, if_false, not_true_eq_false, not_false_eq_true, decide_true, true_or, or_true, or_self, Bool.false_eq_true]
              exact hk X3 I (rdp_ft ((mf.toF.trans mf2.toF).trans mf3.toF) hF)
            · have hn0 : n < 24 := by
                by_cases z : n = 24
                · exact absurd ⟨hkd2, z⟩ full
                · omega
              have hc1 : c < cnt s.1 1 := by rw [← ce12.n (by decide)]; exact hc
              have eo2 := old_eq (t := 1) (by decide) (show c < 2 ^ 31 by omega) hkd2 hnf2
              have hap : anyF (fun i => decide (I 63 i = nI a) && decide (I 64 i = nI c)) n 0 = hasP s2.2.2.1 n (nI a) (nI c) := by
                unfold hasP
                refine anyF_congr (fun j h1 h2 => ?_)
                have hj : j < (s2.1 5 13).toNatClampNeg := by rw [n13, nI_clamp (by omega)]; omega
                rw [(hMV2.pth j hj).1, (hMV2.pth j hj).2.1]
              have e58 : ip_up (X1S s2) 32 8 (nI c) 5 13 = nI n := by rw [up1, if_neg (by decide)]; exact e513
              simp only [s48_0, s48_1, s48_2, s48_5, s48_6, s48_7, s48_8, s48_11, s48_12, s48_13, s48_15, s48_18, s48_19, s48_22, s48_25, s48_26, s48_29, s48_30, s48_33, s48_34, s48_37, s48_39, s48_42, s48_43, s48_44, s48_45, s48_48, s48_51, s48_52, s48_53, s48_56, s48_57, s48_58, s48_59, s48_62, s48_65, s48_66, s48_67, s48_68, s48_71, s48_74, s48_75, s48_78, s48_79, s48_82, s48_85, s48_86, s48_89, s48_90, s48_93, s48_94, s48_95, s48_96, s48_99, s48_100, s48_103, s48_104, s48_105, s48_106, s48_107, s48_110, s48_111, s48_112, s48_115, f_47_0, f_47_1, u_47_1, f_47_2, u_47_2, f_47_3, f_47_4, u_47_4, f_47_5, f_47_6, u_47_6, f_47_7, u_47_7, f_47_8, u_47_8, f_47_9, u_47_9, f_47_10, u_47_10, f_47_11, f_47_12, f_47_13, f_47_14, f_47_15, f_47_16, f_47_17, f_47_18, f_47_19, f_47_20, f_47_21, f_47_22, f_47_23, u_47_23, f_47_24, f_47_25, f_47_26, f_47_27, f_47_28, f_47_29, u_47_29, f_47_30, u_47_30, f_47_31, f_47_32, f_47_33, f_47_34, f_47_35, u_47_35, f_47_36, u_47_36, f_47_37, u_47_37, f_47_38, u_47_38, o_47, hL2.b.f, Option.toList_some, Option.toList_none, List.cons_append, List.nil_append, List.append_nil, ip_on_some, true_and, and_true, if_true, if_false, not_true_eq_false, not_false_eq_true, decide_true, true_or, or_true, or_self, Bool.false_eq_true]
              refine md_hasP hn24 x23 ?_
              rw [hap]
              by_cases q : hasP s2.2.2.1 n (nI a) (nI c) = true
              · have hst2 : (takeS s2).1 = 7 := by
                  rw [hp2]
                  unfold rPE
                  rw [if_neg nf, show rOld (X1S s2) s2.2.1 s2.2.2.1 s2.2.2.2 8 = (0, ip_up (X1S s2) 32 8 (nI c), s2.2.2.1, s2.2.2.2) from eo2, if_pos rfl]
                  simp only [x8_8, x8_7, m7, e58, nI_clamp (show n < 2 ^ 31 by omega)]
                  rw [if_pos q]
                simp only [s48_0, s48_1, s48_2, s48_5, s48_6, s48_7, s48_8, s48_11, s48_12, s48_13, s48_15, s48_18, s48_19, s48_22, s48_25, s48_26, s48_29, s48_30, s48_33, s48_34, s48_37, s48_39, s48_42, s48_43, s48_44, s48_45, s48_48, s48_51, s48_52, s48_53, s48_56, s48_57, s48_58, s48_59, s48_62, s48_65, s48_66, s48_67, s48_68, s48_71, s48_74, s48_75, s48_78, s48_79, s48_82, s48_85, s48_86, s48_89, s48_90, s48_93, s48_94, s48_95, s48_96, s48_99, s48_100, s48_103, s48_104, s48_105, s48_106, s48_107, s48_110, s48_111, s48_112, s48_115, f_47_0, f_47_1, u_47_1, f_47_2, u_47_2, f_47_3, f_47_4, u_47_4, f_47_5, f_47_6, u_47_6, f_47_7, u_47_7, f_47_8, u_47_8, f_47_9, u_47_9, f_47_10, u_47_10, f_47_11, f_47_12, f_47_13, f_47_14, f_47_15, f_47_16, f_47_17, f_47_18, f_47_19, f_47_20, f_47_21, f_47_22, f_47_23, u_47_23, f_47_24, f_47_25, f_47_26, f_47_27, f_47_28, f_47_29, u_47_29, f_47_30, u_47_30, f_47_31, f_47_32, f_47_33, f_47_34, f_47_35, u_47_35, f_47_36, u_47_36, f_47_37, u_47_37, f_47_38, u_47_38, o_47, bI_0, q, Option.toList_some, Option.toList_none, List.cons_append, List.nil_append, List.append_nil, ip_on_some, true_and, and_true, if_true, if_false, not_true_eq_false, not_false_eq_true, decide_true, true_or, or_true, or_self, Bool.false_eq_true]
                refine st_take (v := True) (X'' := X) (I'' := I) (J'' := J) hL2 f5 (fun _ => hst2) (fun z => absurd trivial z) (fun X3 r mf3 hF => ?_) (fun X3 s3 z => absurd trivial z)
                rw [hs2.out, hs.out] at hF
                have n23 : X3 47 23 = nI n := by rw [mf3.j 23 (by decide) (by decide) (by decide) (by decide) (by decide) (by decide)]; exact x23
                have i1 : ¬ nI n < 0 := nI_pos (by omega)
                have i2 : ¬ 24 ≤ n := by omega
                cases r with
                | false =>
                  simp only [s48_0, s48_1, s48_2, s48_5, s48_6, s48_7, s48_8, s48_11, s48_12, s48_13, s48_15, s48_18, s48_19, s48_22, s48_25, s48_26, s48_29, s48_30, s48_33, s48_34, s48_37, s48_39, s48_42, s48_43, s48_44, s48_45, s48_48, s48_51, s48_52, s48_53, s48_56, s48_57, s48_58, s48_59, s48_62, s48_65, s48_66, s48_67, s48_68, s48_71, s48_74, s48_75, s48_78, s48_79, s48_82, s48_85, s48_86, s48_89, s48_90, s48_93, s48_94, s48_95, s48_96, s48_99, s48_100, s48_103, s48_104, s48_105, s48_106, s48_107, s48_110, s48_111, s48_112, s48_115, f_47_0, f_47_1, u_47_1, f_47_2, u_47_2, f_47_3, f_47_4, u_47_4, f_47_5, f_47_6, u_47_6, f_47_7, u_47_7, f_47_8, u_47_8, f_47_9, u_47_9, f_47_10, u_47_10, f_47_11, f_47_12, f_47_13, f_47_14, f_47_15, f_47_16, f_47_17, f_47_18, f_47_19, f_47_20, f_47_21, f_47_22, f_47_23, u_47_23, f_47_24, f_47_25, f_47_26, f_47_27, f_47_28, f_47_29, u_47_29, f_47_30, u_47_30, f_47_31, f_47_32, f_47_33, f_47_34, f_47_35, u_47_35, f_47_36, u_47_36, f_47_37, u_47_37, f_47_38, u_47_38, o_47, bI_ff, Option.toList_some, Option.toList_none, List.cons_append, List.nil_append, List.append_nil, ip_on_some, true_and, and_true, if_true, if_false, not_true_eq_false, not_false_eq_true, decide_true, true_or, or_true, or_self, Bool.false_eq_true]
                  exact hk X3 I (rdp_ft ((mf.toF.trans mf2.toF).trans mf3.toF) hF)
                | true =>
                  simp only [s48_0, s48_1, s48_2, s48_5, s48_6, s48_7, s48_8, s48_11, s48_12, s48_13, s48_15, s48_18, s48_19, s48_22, s48_25, s48_26, s48_29, s48_30, s48_33, s48_34, s48_37, s48_39, s48_42, s48_43, s48_44, s48_45, s48_48, s48_51, s48_52, s48_53, s48_56, s48_57, s48_58, s48_59, s48_62, s48_65, s48_66, s48_67, s48_68, s48_71, s48_74, s48_75, s48_78, s48_79, s48_82, s48_85, s48_86, s48_89, s48_90, s48_93, s48_94, s48_95, s48_96, s48_99, s48_100, s48_103, s48_104, s48_105, s48_106, s48_107, s48_110, s48_111, s48_112, s48_115, f_47_0, f_47_1, u_47_1, f_47_2, u_47_2, f_47_3, f_47_4, u_47_4, f_47_5, f_47_6, u_47_6, f_47_7, u_47_7, f_47_8, u_47_8, f_47_9, u_47_9, f_47_10, u_47_10, f_47_11, f_47_12, f_47_13, f_47_14, f_47_15, f_47_16, f_47_17, f_47_18, f_47_19, f_47_20, f_47_21, f_47_22, f_47_23, u_47_23, f_47_24, f_47_25, f_47_26, f_47_27, f_47_28, f_47_29, u_47_29, f_47_30, u_47_30, f_47_31, f_47_32, f_47_33, f_47_34, f_47_35, u_47_35, f_47_36, u_47_36, f_47_37, u_47_37, f_47_38, u_47_38, o_47, a_63, l_63, a_64, l_64, bI_tt, qe_m1_0, qe_m1_1, qe_m1_2, qe_m1_3, qe_m1_4, qe_m1_5, qe_m1_6, qe_m1_7, qe_m1_8, qe_0_m1, qe_0_1, qe_0_2, qe_0_3, qe_0_4, qe_0_5, qe_0_6, qe_0_7, qe_0_8, qe_1_m1, qe_1_0, qe_1_2, qe_1_3, qe_1_4, qe_1_5, qe_1_6, qe_1_7, qe_1_8, qe_2_m1, qe_2_0, qe_2_1, qe_2_3, qe_2_4, qe_2_5, qe_2_6, qe_2_7, qe_2_8, qe_3_m1, qe_3_0, qe_3_1, qe_3_2, qe_3_4, qe_3_5, qe_3_6, qe_3_7, qe_3_8, qe_4_m1, qe_4_0, qe_4_1, qe_4_2, qe_4_3, qe_4_5, qe_4_6, qe_4_7, qe_4_8, qe_5_m1, qe_5_0, qe_5_1, qe_5_2, qe_5_3, qe_5_4, qe_5_6, qe_5_7, qe_5_8, qe_6_m1, qe_6_0, qe_6_1, qe_6_2, qe_6_3, qe_6_4, qe_6_5, qe_6_7, qe_6_8, qe_7_m1, qe_7_0, qe_7_1, qe_7_2, qe_7_3, qe_7_4, qe_7_5, qe_7_6, qe_7_8, qe_8_m1, qe_8_0, qe_8_1, qe_8_2, qe_8_3, qe_8_4, qe_8_5, qe_8_6, qe_8_7, n23, nI_clamp (show n < 2 ^ 31 by omega), i1, i2, nI_1, Option.toList_some, Option.toList_none, List.cons_append, List.nil_append, List.append_nil, ip_on_some, true_and, and_true, if_true, if_false, not_true_eq_false, not_false_eq_true, decide_true, true_or, or_true, or_self, Bool.false_eq_true]
                  refine hk _ _ (rdp_ft ?_ (hF.of (by rw [up47, if_neg (by decide)]) (by rw [up47, if_neg (by decide)])))
                  refine ((mf.toF.trans mf2.toF).trans mf3.toF).trans ⟨fun k hk => by rw [up1, if_neg hk], fun j h1 h2 h3 h4 h5 h6 h7 h8 => by rw [up47, if_neg h4], fun d hd => by rw [up1, if_neg (by omega), up1, if_neg (by omega)], fun z => by rw [up47, if_neg (by decide)] at z ⊢; exact ⟨z, rfl⟩⟩
              · have hst2 : takeS s2 = ((0 : Int32), ip_up (ip_up (X1S s2) 32 8 (nI c)) 5 13 (nI (n + 1)), ip_up (ip_up s2.2.2.1 23 n (nI a)) 25 n (nI c), s2.2.2.2) := by
                  rw [hp2]
                  unfold rPE
                  rw [if_neg nf, show rOld (X1S s2) s2.2.1 s2.2.2.1 s2.2.2.2 8 = (0, ip_up (X1S s2) 32 8 (nI c), s2.2.2.1, s2.2.2.2) from eo2, if_pos rfl]
                  simp only [x8_8, x8_7, m7, e58, nI_clamp (show n < 2 ^ 31 by omega)]
                  rw [if_neg q, rset_nI hn0 (by decide), rset_nI hn0 (by decide), nI_1]
                simp only [s48_0, s48_1, s48_2, s48_5, s48_6, s48_7, s48_8, s48_11, s48_12, s48_13, s48_15, s48_18, s48_19, s48_22, s48_25, s48_26, s48_29, s48_30, s48_33, s48_34, s48_37, s48_39, s48_42, s48_43, s48_44, s48_45, s48_48, s48_51, s48_52, s48_53, s48_56, s48_57, s48_58, s48_59, s48_62, s48_65, s48_66, s48_67, s48_68, s48_71, s48_74, s48_75, s48_78, s48_79, s48_82, s48_85, s48_86, s48_89, s48_90, s48_93, s48_94, s48_95, s48_96, s48_99, s48_100, s48_103, s48_104, s48_105, s48_106, s48_107, s48_110, s48_111, s48_112, s48_115, f_47_0, f_47_1, u_47_1, f_47_2, u_47_2, f_47_3, f_47_4, u_47_4, f_47_5, f_47_6, u_47_6, f_47_7, u_47_7, f_47_8, u_47_8, f_47_9, u_47_9, f_47_10, u_47_10, f_47_11, f_47_12, f_47_13, f_47_14, f_47_15, f_47_16, f_47_17, f_47_18, f_47_19, f_47_20, f_47_21, f_47_22, f_47_23, u_47_23, f_47_24, f_47_25, f_47_26, f_47_27, f_47_28, f_47_29, u_47_29, f_47_30, u_47_30, f_47_31, f_47_32, f_47_33, f_47_34, f_47_35, u_47_35, f_47_36, u_47_36, f_47_37, u_47_37, f_47_38, u_47_38, o_47, bI_0, q, Option.toList_some, Option.toList_none, List.cons_append, List.nil_append, List.append_nil, ip_on_some, true_and, and_true, if_true, if_false, not_true_eq_false, not_false_eq_true, decide_true, true_or, or_true, or_self, Bool.false_eq_true]
                refine st_take (v := False) hL2 f5 (fun z => z.elim) (fun _ => hst2) (fun X3 r mf3 hF => ?_) (fun X3 s3 _ mf3 hL3 hs3 e4 e5 => ?_)
                · rw [hs2.out, hs.out] at hF
                  have n23 : X3 47 23 = nI n := by rw [mf3.j 23 (by decide) (by decide) (by decide) (by decide) (by decide) (by decide)]; exact x23
                  have i1 : ¬ nI n < 0 := nI_pos (by omega)
                  have i2 : ¬ 24 ≤ n := by omega
                  cases r with
                  | false =>
                    simp only [s48_0, s48_1, s48_2, s48_5, s48_6, s48_7, s48_8, s48_11, s48_12, s48_13, s48_15, s48_18, s48_19, s48_22, s48_25, s48_26, s48_29, s48_30, s48_33, s48_34, s48_37, s48_39, s48_42, s48_43, s48_44, s48_45, s48_48, s48_51, s48_52, s48_53, s48_56, s48_57, s48_58, s48_59, s48_62, s48_65, s48_66, s48_67, s48_68, s48_71, s48_74, s48_75, s48_78, s48_79, s48_82, s48_85, s48_86, s48_89, s48_90, s48_93, s48_94, s48_95, s48_96, s48_99, s48_100, s48_103, s48_104, s48_105, s48_106, s48_107, s48_110, s48_111, s48_112, s48_115, f_47_0, f_47_1, u_47_1, f_47_2, u_47_2, f_47_3, f_47_4, u_47_4, f_47_5, f_47_6, u_47_6, f_47_7, u_47_7, f_47_8, u_47_8, f_47_9, u_47_9, f_47_10, u_47_10, f_47_11, f_47_12, f_47_13, f_47_14, f_47_15, f_47_16, f_47_17, f_47_18, f_47_19, f_47_20, f_47_21, f_47_22, f_47_23, u_47_23, f_47_24, f_47_25, f_47_26, f_47_27, f_47_28, f_47_29, u_47_29, f_47_30, u_47_30, f_47_31, f_47_32, f_47_33, f_47_34, f_47_35, u_47_35, f_47_36, u_47_36, f_47_37, u_47_37, f_47_38, u_47_38, o_47, bI_ff, Option.toList_some, Option.toList_none, List.cons_append, List.nil_append, List.append_nil, ip_on_some, true_and, and_true, if_true, if_false, not_true_eq_false, not_false_eq_true, decide_true, true_or, or_true, or_self, Bool.false_eq_true]
                    exact hk X3 I (rdp_ft ((mf.toF.trans mf2.toF).trans mf3.toF) hF)
                  | true =>
                    simp only [s48_0, s48_1, s48_2, s48_5, s48_6, s48_7, s48_8, s48_11, s48_12, s48_13, s48_15, s48_18, s48_19, s48_22, s48_25, s48_26, s48_29, s48_30, s48_33, s48_34, s48_37, s48_39, s48_42, s48_43, s48_44, s48_45, s48_48, s48_51, s48_52, s48_53, s48_56, s48_57, s48_58, s48_59, s48_62, s48_65, s48_66, s48_67, s48_68, s48_71, s48_74, s48_75, s48_78, s48_79, s48_82, s48_85, s48_86, s48_89, s48_90, s48_93, s48_94, s48_95, s48_96, s48_99, s48_100, s48_103, s48_104, s48_105, s48_106, s48_107, s48_110, s48_111, s48_112, s48_115, f_47_0, f_47_1, u_47_1, f_47_2, u_47_2, f_47_3, f_47_4, u_47_4, f_47_5, f_47_6, u_47_6, f_47_7, u_47_7, f_47_8, u_47_8, f_47_9, u_47_9, f_47_10, u_47_10, f_47_11, f_47_12, f_47_13, f_47_14, f_47_15, f_47_16, f_47_17, f_47_18, f_47_19, f_47_20, f_47_21, f_47_22, f_47_23, u_47_23, f_47_24, f_47_25, f_47_26, f_47_27, f_47_28, f_47_29, u_47_29, f_47_30, u_47_30, f_47_31, f_47_32, f_47_33, f_47_34, f_47_35, u_47_35, f_47_36, u_47_36, f_47_37, u_47_37, f_47_38, u_47_38, o_47, a_63, l_63, a_64, l_64, bI_tt, qe_m1_0, qe_m1_1, qe_m1_2, qe_m1_3, qe_m1_4, qe_m1_5, qe_m1_6, qe_m1_7, qe_m1_8, qe_0_m1, qe_0_1, qe_0_2, qe_0_3, qe_0_4, qe_0_5, qe_0_6, qe_0_7, qe_0_8, qe_1_m1, qe_1_0, qe_1_2, qe_1_3, qe_1_4, qe_1_5, qe_1_6, qe_1_7, qe_1_8, qe_2_m1, qe_2_0, qe_2_1, qe_2_3, qe_2_4, qe_2_5, qe_2_6, qe_2_7, qe_2_8, qe_3_m1, qe_3_0, qe_3_1, qe_3_2, qe_3_4, qe_3_5, qe_3_6, qe_3_7, qe_3_8, qe_4_m1, qe_4_0, qe_4_1, qe_4_2, qe_4_3, qe_4_5, qe_4_6, qe_4_7, qe_4_8, qe_5_m1, qe_5_0, qe_5_1, qe_5_2, qe_5_3, qe_5_4, qe_5_6, qe_5_7, qe_5_8, qe_6_m1, qe_6_0, qe_6_1, qe_6_2, qe_6_3, qe_6_4, qe_6_5, qe_6_7, qe_6_8, qe_7_m1, qe_7_0, qe_7_1, qe_7_2, qe_7_3, qe_7_4, qe_7_5, qe_7_6, qe_7_8, qe_8_m1, qe_8_0, qe_8_1, qe_8_2, qe_8_3, qe_8_4, qe_8_5, qe_8_6, qe_8_7, n23, nI_clamp (show n < 2 ^ 31 by omega), i1, i2, nI_1, Option.toList_some, Option.toList_none, List.cons_append, List.nil_append, List.append_nil, ip_on_some, true_and, and_true, if_true, if_false, not_true_eq_false, not_false_eq_true, decide_true, true_or, or_true, or_self, Bool.false_eq_true]
                    refine hk _ _ (rdp_ft ?_ (hF.of (by rw [up47, if_neg (by decide)]) (by rw [up47, if_neg (by decide)])))
                    refine ((mf.toF.trans mf2.toF).trans mf3.toF).trans ⟨fun k hk => by rw [up1, if_neg hk], fun j h1 h2 h3 h4 h5 h6 h7 h8 => by rw [up47, if_neg h4], fun d hd => by rw [up1, if_neg (by omega), up1, if_neg (by omega)], fun z => by rw [up47, if_neg (by decide)] at z ⊢; exact ⟨z, rfl⟩⟩
                · have n23 : X3 47 23 = nI n := by rw [mf3.j 23 (by decide) (by decide) (by decide) (by decide) (by decide) (by decide)]; exact x23
                  have i1 : ¬ nI n < 0 := nI_pos (by omega)
                  have i2 : ¬ 24 ≤ n := by omega
                  simp only [s48_0, s48_1, s48_2, s48_5, s48_6, s48_7, s48_8, s48_11, s48_12, s48_13, s48_15, s48_18, s48_19, s48_22, s48_25, s48_26, s48_29, s48_30, s48_33, s48_34, s48_37, s48_39, s48_42, s48_43, s48_44, s48_45, s48_48, s48_51, s48_52, s48_53, s48_56, s48_57, s48_58, s48_59, s48_62, s48_65, s48_66, s48_67, s48_68, s48_71, s48_74, s48_75, s48_78, s48_79, s48_82, s48_85, s48_86, s48_89, s48_90, s48_93, s48_94, s48_95, s48_96, s48_99, s48_100, s48_103, s48_104, s48_105, s48_106, s48_107, s48_110, s48_111, s48_112, s48_115, f_47_0, f_47_1, u_47_1, f_47_2, u_47_2, f_47_3, f_47_4, u_47_4, f_47_5, f_47_6, u_47_6, f_47_7, u_47_7, f_47_8, u_47_8, f_47_9, u_47_9, f_47_10, u_47_10, f_47_11, f_47_12, f_47_13, f_47_14, f_47_15, f_47_16, f_47_17, f_47_18, f_47_19, f_47_20, f_47_21, f_47_22, f_47_23, u_47_23, f_47_24, f_47_25, f_47_26, f_47_27, f_47_28, f_47_29, u_47_29, f_47_30, u_47_30, f_47_31, f_47_32, f_47_33, f_47_34, f_47_35, u_47_35, f_47_36, u_47_36, f_47_37, u_47_37, f_47_38, u_47_38, o_47, a_63, l_63, a_64, l_64, qe_m1_0, qe_m1_1, qe_m1_2, qe_m1_3, qe_m1_4, qe_m1_5, qe_m1_6, qe_m1_7, qe_m1_8, qe_0_m1, qe_0_1, qe_0_2, qe_0_3, qe_0_4, qe_0_5, qe_0_6, qe_0_7, qe_0_8, qe_1_m1, qe_1_0, qe_1_2, qe_1_3, qe_1_4, qe_1_5, qe_1_6, qe_1_7, qe_1_8, qe_2_m1, qe_2_0, qe_2_1, qe_2_3, qe_2_4, qe_2_5, qe_2_6, qe_2_7, qe_2_8, qe_3_m1, qe_3_0, qe_3_1, qe_3_2, qe_3_4, qe_3_5, qe_3_6, qe_3_7, qe_3_8, qe_4_m1, qe_4_0, qe_4_1, qe_4_2, qe_4_3, qe_4_5, qe_4_6, qe_4_7, qe_4_8, qe_5_m1, qe_5_0, qe_5_1, qe_5_2, qe_5_3, qe_5_4, qe_5_6, qe_5_7, qe_5_8, qe_6_m1, qe_6_0, qe_6_1, qe_6_2, qe_6_3, qe_6_4, qe_6_5, qe_6_7, qe_6_8, qe_7_m1, qe_7_0, qe_7_1, qe_7_2, qe_7_3, qe_7_4, qe_7_5, qe_7_6, qe_7_8, qe_8_m1, qe_8_0, qe_8_1, qe_8_2, qe_8_3, qe_8_4, qe_8_5, qe_8_6, qe_8_7, n23, nI_clamp (show n < 2 ^ 31 by omega), i1, i2, nI_1, Option.toList_some, Option.toList_none, List.cons_append, List.nil_append, List.append_nil, ip_on_some, true_and, and_true, if_true, if_false, not_true_eq_false, not_false_eq_true, decide_true, true_or, or_true, or_self, Bool.false_eq_true]
                  have s35 : s3.1 5 13 = nI (n + 1) := by rw [e4 5 (by decide)]; simp only [up1, updF_ap, if_true]
                  have cx : ∀ k, k ≠ 32 → k ≠ 33 → k ≠ 5 → s3.1 k = s.1 k := fun k h1 h2 h3 => by rw [e4 k h2, up1, if_neg h3, x8_ne h1, ce12 k h1 h2]
                  have cn3 : ∀ u, u < 4 → cnt s3.1 u = cnt s.1 u := fun u hu => by
                    unfold cnt
                    rw [cx (6 + 2 * u) (by omega) (by omega) (by omega)]
                  have hbd3 : Bd s3.1 := hL3.b.rv.b
                  refine hk _ _ ⟨((mf.toF.trans mf2.toF).trans mf3.toF).trans ⟨fun k hk => by rw [up1, if_neg hk], fun j h1 h2 h3 h4 h5 h6 h7 h8 => by rw [up47, if_neg h4], fun d hd => by rw [up1, if_neg (by omega), up1, if_neg (by omega)], fun z => by rw [up47, if_neg (by decide)] at z ⊢; exact ⟨z, rfl⟩⟩, Or.inr ⟨s3, ?_, ?_, ?_, ?_, ?_, ?_, ?_, Nat.le_trans hs.pos (Nat.le_trans hs2.pos hs3.pos)⟩⟩
                  · exact hL3.of (fun j hj => by rw [up47, if_neg (by omega)]) (by rw [up1, if_neg (by decide), up1, if_neg (by decide)]) (by rw [up1, if_neg (by decide), up1, if_neg (by decide)])
                  · rw [show s3.2.2.2 = s.2.2.2 from by rw [e5]; exact eJ2]
                    have h1 := ((hm.mf mf).mf mf2).mf mf3
                    have h2 : MN s3.1 s.2.2.2 X3 I := by
                      refine ⟨hbd3, fun u hu => by rw [cx _ (by omega) (by omega) (by omega)]; exact h1.many u hu, ?_, ?_, ?_, ?_⟩
                      · rw [h1.tot]
                        unfold totN
                        rw [cn3 0 (by decide), cn3 1 (by decide), cn3 2 (by decide), cn3 3 (by decide)]
                      · intro m hm2
                        have : m < totN s.1 := by
                          unfold totN at hm2 ⊢
                          rw [cn3 0 (by decide), cn3 1 (by decide), cn3 2 (by decide), cn3 3 (by decide)] at hm2
                          exact hm2
                        obtain ⟨u, i, p, q, hA⟩ := h1.fwd m this
                        exact ⟨u, i, p, q, hA.s4, by rw [cn3 u hA.s4]; exact hA.ic, hA.so, hA.nu, hA.fr, hA.to, hA.pq, hA.ql, hA.nm, hA.no⟩
                      · intro u i hu hi
                        rw [cn3 u hu] at hi
                        obtain ⟨m, p, q, hm2, hA⟩ := h1.bwd u i hu hi
                        refine ⟨m, p, q, ?_, hA.s4, by rw [cn3 u hA.s4]; exact hA.ic, hA.so, hA.nu, hA.fr, hA.to, hA.pq, hA.ql, hA.nm, hA.no⟩
                        unfold totN at hm2 ⊢
                        rw [cn3 0 (by decide), cn3 1 (by decide), cn3 2 (by decide), cn3 3 (by decide)]
                        exact hm2
                      · intro u i t j hu ht hi hj
                        rw [cn3 u hu] at hi
                        rw [cn3 t ht] at hj
                        exact h1.uni u i t j hu ht hi hj
                    exact h2.fr (by rw [up47, if_neg (by decide)]) (fun d h1 h2 => by rw [up1, if_neg (by omega), up1, if_neg (by omega)])
                  · show MV s3.1 s3.2.2.1 _ _ (cnt s3.1 0) (cnt s3.1 2) (cnt s3.1 3)
                    rw [cn3 0 (by decide), cn3 2 (by decide), cn3 3 (by decide), show s3.2.2.1 = ip_up (ip_up s.2.2.1 23 n (nI a)) 25 n (nI c) from by rw [e5, ← eI2]]
                    exact MV.pth_up (MV.mf (MV.mf (MV.mf hv mf) mf2) mf3) hn hn0 ha hc1 s35 (cn3 0 (by decide)) (cn3 1 (by decide)) (by rw [up47, if_pos rfl])
                  · rw [hs3.out, hs2.out, hs.out]
                  · rw [e4 32 (by decide), up1, if_neg (by decide), x8_5]; exact f5
                  · rw [hL3.part, e4 32 (by decide)]
                    rw [up1, if_neg (by decide), x8_5, x8_6, d5, a5, d6, a6]
                    exact pth_4
                  · rw [e4 5 (by decide), up1, if_pos rfl, updF_ap, if_neg (by decide), x8_ne (by decide), ce12 5 (by decide) (by decide)]
          simp only [s48_0, s48_1, s48_2, s48_5, s48_6, s48_7, s48_8, s48_11, s48_12, s48_13, s48_15, s48_18, s48_19, s48_22, s48_25, s48_26, s48_29, s48_30, s48_33, s48_34, s48_37, s48_39, s48_42, s48_43, s48_44, s48_45, s48_48, s48_52, s48_53, s48_56, s48_57, s48_58, s48_59, s48_62, s48_65, s48_66, s48_67, s48_68, s48_71, s48_74, s48_75, s48_78, s48_79, s48_82, s48_85, s48_86, s48_89, s48_90, s48_93, s48_94, s48_95, s48_96, s48_99, s48_100, s48_103, s48_104, s48_105, s48_106, s48_107, s48_110, s48_111, s48_112, s48_115, f_47_0, f_47_1, u_47_1, f_47_2, u_47_2, f_47_3, f_47_4, u_47_4, f_47_5, f_47_6, u_47_6, f_47_7, u_47_7, f_47_8, u_47_8, f_47_9, u_47_9, f_47_10, u_47_10, f_47_11, f_47_12, f_47_13, f_47_14, f_47_15, f_47_16, f_47_17, f_47_18, f_47_19, f_47_20, f_47_21, f_47_22, f_47_23, u_47_23, f_47_24, f_47_25, f_47_26, f_47_27, f_47_28, f_47_29, u_47_29, f_47_30, u_47_30, f_47_31, f_47_32, f_47_33, f_47_34, f_47_35, u_47_35, f_47_36, u_47_36, f_47_37, u_47_37, f_47_38, u_47_38, o_47, hL2.b.f, hkn, Option.toList_some, Option.toList_none, List.cons_append, List.nil_append, List.append_nil, ip_on_some, true_and, and_true, if_true, if_false, not_true_eq_false, not_false_eq_true, decide_true, true_or, or_true, or_self, Bool.false_eq_true]
          by_cases k2 : s2.1 33 3 = 2
          · have n24 : ¬ X2 47 23 = 24 := fun z => full ⟨k2, by
              rw [x23] at z
              exact (nI_eq (a := n) (b := 24) (by omega) (by decide)).mp z⟩
            simp only [k2, n24, Option.toList_some, Option.toList_none, List.cons_append, List.nil_append, List.append_nil, ip_on_some, true_and, and_true, if_true, if_false, not_true_eq_false, not_false_eq_true, decide_true, true_or, or_true, or_self, Bool.false_eq_true]
            exact go
          · simp only [k2, Option.toList_some, Option.toList_none, List.cons_append, List.nil_append, List.append_nil, ip_on_some, true_and, and_true, if_true, if_false, not_true_eq_false, not_false_eq_true, decide_true, true_or, or_true, or_self, Bool.false_eq_true]
            exact go
end
