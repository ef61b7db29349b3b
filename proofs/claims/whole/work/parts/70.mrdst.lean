/-! readStage -/
theorem stg_1 {s : SS} : rPart (X1S s) s.2.1 s.2.2.1 s.2.2.2 257 0 = rNew (X1S s) s.2.1 s.2.2.1 s.2.2.2 8 12 := by simp [rPart, pStage]
theorem stg_2 {s : SS} : rPart (X1S s) s.2.1 s.2.2.1 s.2.2.2 257 1 = rWord (X1S s) s.2.2.1 s.2.2.2 258 := by simp [rPart, pStage]
theorem stg_3 {s : SS} : rPart (X1S s) s.2.1 s.2.2.1 s.2.2.2 257 2 = rTask (X1S s) s.2.2.1 s.2.2.2 := by simp [rPart, pStage]
theorem stg_4 {s : SS} : rPart (X1S s) s.2.1 s.2.2.1 s.2.2.2 257 3 = rComma (X1S s) s.2.2.1 s.2.2.2 2 := by simp [rPart, pStage]
theorem task_tab : ∀ w, w < 17 → ((256 + nI w) - 266 < 0 ∨ 7 ≤ (256 + nI w) - 266) = (w < 10) ∧ (10 ≤ w → (256 + nI w) - 266 = nI (w - 10)) := by decide +kernel
theorem task_no {k : Int32} (h : k = 1 ∨ k = 2 ∨ k = 3 ∨ isSg k) : k - 266 < 0 ∨ 7 ≤ k - 266 := by
  rcases h with h | h | h | h
  · rw [h]; decide
  · rw [h]; decide
  · rw [h]; decide
  · rcases h with h | h | h | h | h <;> rw [h] <;> decide
section
variable {N : Nat} {y : Int64} {J : Nat → Nat → Int64} {b : ip_B} {post : Option Value → ip_H → Prop} {px : String → ip_H → Prop}
/-- a task's word, or none -/
theorem LR.task {s : SS} {X I : Nat → Nat → Int32} (h : LR N s X I) : (∃ t, t < 7 ∧ X 47 35 = 4 ∧ X 47 38 = nI (t + 10) ∧ s.1 33 3 - 266 = nI t ∧ ¬ (s.1 33 3 - 266 < 0 ∨ 7 ≤ s.1 33 3 - 266)) ∨ (¬ (X 47 35 = 4 ∧ 10 ≤ X 47 38) ∧ (s.1 33 3 - 266 < 0 ∨ 7 ≤ s.1 33 3 - 266)) := by
  have hkd := h.ml.kd
  have hkd : X 47 35 = mKind (s.1 33 3) := hkd
  rcases h.kd with e | e | e | e | ⟨v, hv, e⟩
  · right
    exact ⟨fun z => by rw [hkd, e] at z; exact absurd z.1 (by decide), task_no (Or.inl e)⟩
  · right
    exact ⟨fun z => by rw [hkd, e] at z; exact absurd z.1 (by decide), task_no (Or.inr (Or.inl e))⟩
  · right
    exact ⟨fun z => by rw [hkd, e] at z; exact absurd z.1 (by decide), task_no (Or.inr (Or.inr (Or.inl e)))⟩
  · right
    refine ⟨fun z => ?_, task_no (Or.inr (Or.inr (Or.inr e)))⟩
    rw [hkd] at z
    rcases e with e | e | e | e | e <;> rw [e] at z <;> exact absurd z.1 (by decide)
  · have t := w_tab v hv
    have t2 := task_tab v hv
    have hwo : X 47 38 = nI v := (h.ml.wo (by show (256 : Int32) ≤ s.1 33 3; rw [e]; exact t.2.1)).trans (by show s.1 33 3 - 256 = nI v; rw [e]; exact t.2.2)
    by_cases q : v < 10
    · right
      refine ⟨fun z => ?_, by rw [e, t2.1]; exact q⟩
      rw [hwo] at z
      have := (nI_leI (a := 10) (b := v) (by decide) (by omega)).mp z.2
      omega
    · left
      refine ⟨v - 10, by omega, by rw [hkd, e]; exact t.1, by rw [hwo, show v - 10 + 10 = v from by omega], by rw [e]; exact t2.2 (by omega), by rw [e, t2.1]; exact q⟩
theorem md_rdGl {g0' : Nat} : ∀ (k : Nat) (s : SS) (X I : Nat → Nat → Int32) (x3 x4 : Option Value), N + 1 - (s.1 33 2).toNatClampNeg ≤ k → LR N s X I → MN s.1 s.2.2.2 X I → MVf s.1 s.2.2.1 X I → g0' < cnt s.1 1 → s.1 32 5 = 257 → s.1 32 6 = 2 → s.1 32 7 = nI g0' →
    (∀ X' I', RDp N (out1 N s) X I (s.1 5 14) ((s.1 33 2).toNatClampNeg) X' I' → post none (g0, fld X' y, I', J)) → ip_WP 44 32 [some (.ref 47), some (.int (nI g0')), some (.int 1), x3, x4] [] (g0, fld X y, I, J) b post px := by
  intro k
  induction k with
  | zero =>
    intro s X I x3 x4 hm h
    have := h.b.rv.q
    omega
  | succ k ih =>
    intro s X I x3 x4 hme h hm hv hg0 h5 h6 h7 hk
    have hp : takeS s = rTask (X1S s) s.2.2.1 s.2.2.2 := by rw [h.part, h5, h6, stg_3]
    have h5' : ¬ s.1 32 5 = -1 := by rw [h5]; decide
    have e33 : X1S s 33 3 = s.1 33 3 := by rw [x1_ne (by decide)]
    have stop : ∀ (X' I' : Nat → Nat → Int32) (x3 x4 : Option Value), RDp N (out1 N s) X I (s.1 5 14) ((s.1 33 2).toNatClampNeg) X' I' → ip_WP 44 32 [some (.ref 47), some (.int (nI g0')), some (.int 0), x3, x4] [] (g0, fld X' y, I', J) b post px := by
      intro X' I' x3 x4 hr
      rw [s44_32]
      simp only [s44_0, s44_1, s44_2, s44_5, s44_6, s44_7, s44_8, s44_11, s44_14, s44_15, s44_16, s44_19, s44_20, s44_23, s44_26, s44_27, s44_30, s44_31, s44_33, s44_36, s44_37, s44_40, s44_43, s44_44, s44_47, s44_48, s44_51, s44_52, s44_55, s44_57, s44_60, s44_61, s44_64, s44_65, s44_66, s44_67, s44_70, s44_71, s44_74, s44_76, s44_77, s44_80, s44_81, s44_83, s44_84, s44_87, s44_88, s44_89, s44_90, s44_93, s44_96, s44_99, s44_100, s44_101, s44_104, s44_106, s44_107, s44_110, s44_111, s44_114, s44_115, s44_118, s44_121, s44_122, s44_125, s44_127, s44_128, s44_129, s44_130, s44_133, s44_134, s44_137, Option.toList_some, Option.toList_none, List.cons_append, List.nil_append, List.append_nil, ip_on_some, true_and, and_true, if_true, if_false, not_true_eq_false, not_false_eq_true, decide_true, true_or, or_true, or_self, Bool.false_eq_true]
      exact hk X' I' hr
    rw [s44_32]
    rcases h.task with ⟨t, ht7, k4, kw, kt, kn⟩ | ⟨kno, kr⟩
    · have hlt10 : ¬ nI (t + 10) < 10 := nI_nlt (b := 10) (by omega) (by omega)
      have hsub : nI (t + 10) - 10 = nI t := by
        apply Int32.toInt_inj.mp
        rw [Kit.i32_sub (by rw [nI_toInt (by omega)]; show _ ≤ _ - 10; omega) (by rw [nI_toInt (by omega)]; show _ - 10 < _; omega), nI_toInt (by omega), nI_toInt (by omega)]
        show _ - 10 = _
        omega
      have c2 : ¬ nI t < 0 := nI_pos (by omega)
      have c3 : ¬ 7 ≤ t := by omega
      have e62 : I 62 t = s.2.2.1 21 t := (hv.doe t ht7).1
      have hb1 := (hm.bd.c 1 (by decide)).2.1
      simp only [Nat.reduceLT, if_true] at hb1
      have elt : (s.2.2.1 21 t < 0) = (s.2.2.1 21 t = -1) := lt_m1 ((hv.doe t ht7).2.imp id (fun ⟨u, hu, e⟩ => ⟨u, by omega, e⟩))
      have eg : rget (s.2.2.1 21) 7 (-1) (nI t) = s.2.2.1 21 t := rget_nI ht7 (by decide)
      by_cases q : s.2.2.1 21 t = -1
      · have hst : takeS s = ((0 : Int32), X1S s, ip_up s.2.2.1 21 t (nI g0'), s.2.2.2) := by
          rw [hp]
          unfold rTask
          rw [e33, if_neg kn, kt, eg, if_pos q, rset_nI ht7 (by decide), x1_7, h7]
        have q' : s.2.2.1 21 t < 0 := by rw [elt]; exact q
        simp only [s44_0, s44_1, s44_2, s44_5, s44_6, s44_7, s44_8, s44_11, s44_14, s44_15, s44_16, s44_19, s44_20, s44_23, s44_26, s44_27, s44_30, s44_31, s44_33, s44_36, s44_37, s44_40, s44_43, s44_44, s44_47, s44_48, s44_51, s44_52, s44_55, s44_57, s44_60, s44_61, s44_64, s44_65, s44_66, s44_67, s44_70, s44_71, s44_74, s44_76, s44_77, s44_80, s44_81, s44_83, s44_84, s44_87, s44_88, s44_89, s44_90, s44_93, s44_96, s44_99, s44_100, s44_101, s44_104, s44_106, s44_107, s44_110, s44_111, s44_114, s44_115, s44_118, s44_121, s44_122, s44_125, s44_127, s44_128, s44_129, s44_130, s44_133, s44_134, s44_137, f_47_0, f_47_1, u_47_1, f_47_2, u_47_2, f_47_3, f_47_4, u_47_4, f_47_5, f_47_6, u_47_6, f_47_7, u_47_7, f_47_8, u_47_8, f_47_9, u_47_9, f_47_10, u_47_10, f_47_11, f_47_12, f_47_13, f_47_14, f_47_15, f_47_16, f_47_17, f_47_18, f_47_19, f_47_20, f_47_21, f_47_22, f_47_23, u_47_23, f_47_24, f_47_25, f_47_26, f_47_27, f_47_28, f_47_29, u_47_29, f_47_30, u_47_30, f_47_31, f_47_32, f_47_33, f_47_34, f_47_35, u_47_35, f_47_36, u_47_36, f_47_37, u_47_37, f_47_38, u_47_38, o_47, a_62, l_62, h.b.f, k4, kw, hlt10, hsub, nI_clamp (show t < 2 ^ 31 by omega), c2, c3, e62, q', qe_m1_0, qe_m1_1, qe_m1_2, qe_m1_3, qe_m1_4, qe_m1_5, qe_m1_6, qe_m1_7, qe_m1_8, qe_0_m1, qe_0_1, qe_0_2, qe_0_3, qe_0_4, qe_0_5, qe_0_6, qe_0_7, qe_0_8, qe_1_m1, qe_1_0, qe_1_2, qe_1_3, qe_1_4, qe_1_5, qe_1_6, qe_1_7, qe_1_8, qe_2_m1, qe_2_0, qe_2_1, qe_2_3, qe_2_4, qe_2_5, qe_2_6, qe_2_7, qe_2_8, qe_3_m1, qe_3_0, qe_3_1, qe_3_2, qe_3_4, qe_3_5, qe_3_6, qe_3_7, qe_3_8, qe_4_m1, qe_4_0, qe_4_1, qe_4_2, qe_4_3, qe_4_5, qe_4_6, qe_4_7, qe_4_8, qe_5_m1, qe_5_0, qe_5_1, qe_5_2, qe_5_3, qe_5_4, qe_5_6, qe_5_7, qe_5_8, qe_6_m1, qe_6_0, qe_6_1, qe_6_2, qe_6_3, qe_6_4, qe_6_5, qe_6_7, qe_6_8, qe_7_m1, qe_7_0, qe_7_1, qe_7_2, qe_7_3, qe_7_4, qe_7_5, qe_7_6, qe_7_8, qe_8_m1, qe_8_0, qe_8_1, qe_8_2, qe_8_3, qe_8_4, qe_8_5, qe_8_6, qe_8_7, Option.toList_some, Option.toList_none, List.cons_append, List.nil_append, List.append_nil, ip_on_some, true_and, and_true, if_true, if_false, not_true_eq_false, not_false_eq_true, decide_true, true_or, or_true, or_self, Bool.false_eq_true]
        refine st_take (v := False) h h5' (fun z => z.elim) (fun _ => hst) (fun X' r mf hF => ?_) (fun X' s1 _ mf hL hs e1 e2 => ?_)
        · cases r with
          | false =>
            simp only [s44_0, s44_1, s44_2, s44_5, s44_6, s44_7, s44_8, s44_11, s44_14, s44_15, s44_16, s44_19, s44_20, s44_23, s44_26, s44_27, s44_30, s44_31, s44_33, s44_36, s44_37, s44_40, s44_43, s44_44, s44_47, s44_48, s44_51, s44_52, s44_55, s44_57, s44_60, s44_61, s44_64, s44_65, s44_66, s44_67, s44_70, s44_71, s44_74, s44_76, s44_77, s44_80, s44_81, s44_83, s44_84, s44_87, s44_88, s44_89, s44_90, s44_93, s44_96, s44_99, s44_100, s44_101, s44_104, s44_106, s44_107, s44_110, s44_111, s44_114, s44_115, s44_118, s44_121, s44_122, s44_125, s44_127, s44_128, s44_129, s44_130, s44_133, s44_134, s44_137, f_47_0, f_47_1, u_47_1, f_47_2, u_47_2, f_47_3, f_47_4, u_47_4, f_47_5, f_47_6, u_47_6, f_47_7, u_47_7, f_47_8, u_47_8, f_47_9, u_47_9, f_47_10, u_47_10, f_47_11, f_47_12, f_47_13, f_47_14, f_47_15, f_47_16, f_47_17, f_47_18, f_47_19, f_47_20, f_47_21, f_47_22, f_47_23, u_47_23, f_47_24, f_47_25, f_47_26, f_47_27, f_47_28, f_47_29, u_47_29, f_47_30, u_47_30, f_47_31, f_47_32, f_47_33, f_47_34, f_47_35, u_47_35, f_47_36, u_47_36, f_47_37, u_47_37, f_47_38, u_47_38, o_47, bI_ff, md_commaF hF.pos, Option.toList_some, Option.toList_none, List.cons_append, List.nil_append, List.append_nil, ip_on_some, true_and, and_true, if_true, if_false, not_true_eq_false, not_false_eq_true, decide_true, true_or, or_true, or_self, Bool.false_eq_true]
            exact stop _ _ _ _ (rdp_ft mf.toF hF)
          | true =>
            simp only [s44_0, s44_1, s44_2, s44_5, s44_6, s44_7, s44_8, s44_11, s44_14, s44_15, s44_16, s44_19, s44_20, s44_23, s44_26, s44_27, s44_30, s44_31, s44_33, s44_36, s44_37, s44_40, s44_43, s44_44, s44_47, s44_48, s44_51, s44_52, s44_55, s44_57, s44_60, s44_61, s44_64, s44_65, s44_66, s44_67, s44_70, s44_71, s44_74, s44_76, s44_77, s44_80, s44_81, s44_83, s44_84, s44_87, s44_88, s44_89, s44_90, s44_93, s44_96, s44_99, s44_100, s44_101, s44_104, s44_106, s44_107, s44_110, s44_111, s44_114, s44_115, s44_118, s44_121, s44_122, s44_125, s44_127, s44_128, s44_129, s44_130, s44_133, s44_134, s44_137, f_47_0, f_47_1, u_47_1, f_47_2, u_47_2, f_47_3, f_47_4, u_47_4, f_47_5, f_47_6, u_47_6, f_47_7, u_47_7, f_47_8, u_47_8, f_47_9, u_47_9, f_47_10, u_47_10, f_47_11, f_47_12, f_47_13, f_47_14, f_47_15, f_47_16, f_47_17, f_47_18, f_47_19, f_47_20, f_47_21, f_47_22, f_47_23, u_47_23, f_47_24, f_47_25, f_47_26, f_47_27, f_47_28, f_47_29, u_47_29, f_47_30, u_47_30, f_47_31, f_47_32, f_47_33, f_47_34, f_47_35, u_47_35, f_47_36, u_47_36, f_47_37, u_47_37, f_47_38, u_47_38, o_47, a_62, l_62, bI_tt, qe_m1_0, qe_m1_1, qe_m1_2, qe_m1_3, qe_m1_4, qe_m1_5, qe_m1_6, qe_m1_7, qe_m1_8, qe_0_m1, qe_0_1, qe_0_2, qe_0_3, qe_0_4, qe_0_5, qe_0_6, qe_0_7, qe_0_8, qe_1_m1, qe_1_0, qe_1_2, qe_1_3, qe_1_4, qe_1_5, qe_1_6, qe_1_7, qe_1_8, qe_2_m1, qe_2_0, qe_2_1, qe_2_3, qe_2_4, qe_2_5, qe_2_6, qe_2_7, qe_2_8, qe_3_m1, qe_3_0, qe_3_1, qe_3_2, qe_3_4, qe_3_5, qe_3_6, qe_3_7, qe_3_8, qe_4_m1, qe_4_0, qe_4_1, qe_4_2, qe_4_3, qe_4_5, qe_4_6, qe_4_7, qe_4_8, qe_5_m1, qe_5_0, qe_5_1, qe_5_2, qe_5_3, qe_5_4, qe_5_6, qe_5_7, qe_5_8, qe_6_m1, qe_6_0, qe_6_1, qe_6_2, qe_6_3, qe_6_4, qe_6_5, qe_6_7, qe_6_8, qe_7_m1, qe_7_0, qe_7_1, qe_7_2, qe_7_3, qe_7_4, qe_7_5, qe_7_6, qe_7_8, qe_8_m1, qe_8_0, qe_8_1, qe_8_2, qe_8_3, qe_8_4, qe_8_5, qe_8_6, qe_8_7, nI_clamp (show t < 2 ^ 31 by omega), c2, c3, md_commaF hF.pos, Option.toList_some, Option.toList_none, List.cons_append, List.nil_append, List.append_nil, ip_on_some, true_and, and_true, if_true, if_false, not_true_eq_false, not_false_eq_true, decide_true, true_or, or_true, or_self, Bool.false_eq_true]
            exact stop _ _ _ _ (rdp_ft (mf.toF.trans (FR.arr (by decide) (by decide))) hF)
        · have a5 : s1.1 32 5 = 257 := by rw [e1 32 (by decide), x1_5, h5]
          have a6 : s1.1 32 6 = 3 := by rw [e1 32 (by decide), x1_6, h6]; rfl
          have a7 : s1.1 32 7 = nI g0' := by rw [e1 32 (by decide), x1_7, h7]
          have ce : CE s.1 s1.1 := fun k h1 h2 => by rw [e1 k h2, x1_ne h1]
          have eI1 : s1.2.2.1 = ip_up s.2.2.1 21 t (nI g0') := congrArg Prod.fst e2
          have eJ1 : s1.2.2.2 = s.2.2.2 := by rw [e2]
          have hMN1 : MN s1.1 s1.2.2.2 X' (ip_up I 62 t (nI g0')) := by
            rw [eJ1]
            exact ((hm.xc ce).mf mf).fr rfl (fun a h1 h2 => by rw [up1, if_neg (by omega)])
          have hMV1 : MVf s1.1 s1.2.2.1 X' (ip_up I 62 t (nI g0')) := by
            rw [eI1]
            exact MVf.xc (MV.doe_up (MV.mf hv mf) hg0) ce
          have hL1 : LR N s1 X' (ip_up I 62 t (nI g0')) := hL.of (fun _ _ => rfl) (by rw [up1, if_neg (by decide)]) (by rw [up1, if_neg (by decide)])
          have hfr : FR X X' I (ip_up I 62 t (nI g0')) := mf.toF.trans (FR.arr (by decide) (by decide))
          have hp1 : takeS s1 = rComma (X1S s1) s1.2.2.1 s1.2.2.2 2 := by rw [hL1.part, a5, a6, stg_4]
          have e14 : s1.1 5 14 = s.1 5 14 := by rw [ce 5 (by decide) (by decide)]
          simp only [s44_0, s44_1, s44_2, s44_5, s44_6, s44_7, s44_8, s44_11, s44_14, s44_15, s44_16, s44_19, s44_20, s44_23, s44_26, s44_27, s44_30, s44_31, s44_33, s44_36, s44_37, s44_40, s44_43, s44_44, s44_47, s44_48, s44_51, s44_52, s44_55, s44_57, s44_60, s44_61, s44_64, s44_65, s44_66, s44_67, s44_70, s44_71, s44_74, s44_76, s44_77, s44_80, s44_81, s44_83, s44_84, s44_87, s44_88, s44_89, s44_90, s44_93, s44_96, s44_99, s44_100, s44_101, s44_104, s44_106, s44_107, s44_110, s44_111, s44_114, s44_115, s44_118, s44_121, s44_122, s44_125, s44_127, s44_128, s44_129, s44_130, s44_133, s44_134, s44_137, f_47_0, f_47_1, u_47_1, f_47_2, u_47_2, f_47_3, f_47_4, u_47_4, f_47_5, f_47_6, u_47_6, f_47_7, u_47_7, f_47_8, u_47_8, f_47_9, u_47_9, f_47_10, u_47_10, f_47_11, f_47_12, f_47_13, f_47_14, f_47_15, f_47_16, f_47_17, f_47_18, f_47_19, f_47_20, f_47_21, f_47_22, f_47_23, u_47_23, f_47_24, f_47_25, f_47_26, f_47_27, f_47_28, f_47_29, u_47_29, f_47_30, u_47_30, f_47_31, f_47_32, f_47_33, f_47_34, f_47_35, u_47_35, f_47_36, u_47_36, f_47_37, u_47_37, f_47_38, u_47_38, o_47, a_62, l_62, qe_m1_0, qe_m1_1, qe_m1_2, qe_m1_3, qe_m1_4, qe_m1_5, qe_m1_6, qe_m1_7, qe_m1_8, qe_0_m1, qe_0_1, qe_0_2, qe_0_3, qe_0_4, qe_0_5, qe_0_6, qe_0_7, qe_0_8, qe_1_m1, qe_1_0, qe_1_2, qe_1_3, qe_1_4, qe_1_5, qe_1_6, qe_1_7, qe_1_8, qe_2_m1, qe_2_0, qe_2_1, qe_2_3, qe_2_4, qe_2_5, qe_2_6, qe_2_7, qe_2_8, qe_3_m1, qe_3_0, qe_3_1, qe_3_2, qe_3_4, qe_3_5, qe_3_6, qe_3_7, qe_3_8, qe_4_m1, qe_4_0, qe_4_1, qe_4_2, qe_4_3, qe_4_5, qe_4_6, qe_4_7, qe_4_8, qe_5_m1, qe_5_0, qe_5_1, qe_5_2, qe_5_3, qe_5_4, qe_5_6, qe_5_7, qe_5_8, qe_6_m1, qe_6_0, qe_6_1, qe_6_2, qe_6_3, qe_6_4, qe_6_5, qe_6_7, qe_6_8, qe_7_m1, qe_7_0, qe_7_1, qe_7_2, qe_7_3, qe_7_4, qe_7_5, qe_7_6, qe_7_8, qe_8_m1, qe_8_0, qe_8_1, qe_8_2, qe_8_3, qe_8_4, qe_8_5, qe_8_6, qe_8_7, nI_clamp (show t < 2 ^ 31 by omega), c2, c3, Option.toList_some, Option.toList_none, List.cons_append, List.nil_append, List.append_nil, ip_on_some, true_and, and_true, if_true, if_false, not_true_eq_false, not_false_eq_true, decide_true, true_or, or_true, or_self, Bool.false_eq_true]
          refine st_comma hL1 hp1 (fun hcl => ?_) (fun X2 mf2 hF => ?_) (fun X2 s2 mf2 hL2 hs2 h44 ce2 e3 b5 b6 b7 => ?_)
          · simp only [s44_0, s44_1, s44_2, s44_5, s44_6, s44_7, s44_8, s44_11, s44_14, s44_15, s44_16, s44_19, s44_20, s44_23, s44_26, s44_27, s44_30, s44_31, s44_33, s44_36, s44_37, s44_40, s44_43, s44_44, s44_47, s44_48, s44_51, s44_52, s44_55, s44_57, s44_60, s44_61, s44_64, s44_65, s44_66, s44_67, s44_70, s44_71, s44_74, s44_76, s44_77, s44_80, s44_81, s44_83, s44_84, s44_87, s44_88, s44_89, s44_90, s44_93, s44_96, s44_99, s44_100, s44_101, s44_104, s44_106, s44_107, s44_110, s44_111, s44_114, s44_115, s44_118, s44_121, s44_122, s44_125, s44_127, s44_128, s44_129, s44_130, s44_133, s44_134, s44_137, Option.toList_some, Option.toList_none, List.cons_append, List.nil_append, List.append_nil, ip_on_some, true_and, and_true, if_true, if_false, not_true_eq_false, not_false_eq_true, decide_true, true_or, or_true, or_self, Bool.false_eq_true]
            exact stop _ _ _ _ ⟨hfr, Or.inr ⟨s1, hL1, hMN1, hMV1, hs.out, by rw [a5]; decide, hcl, e14, hs.pos⟩⟩
          · simp only [s44_0, s44_1, s44_2, s44_5, s44_6, s44_7, s44_8, s44_11, s44_14, s44_15, s44_16, s44_19, s44_20, s44_23, s44_26, s44_27, s44_30, s44_31, s44_33, s44_36, s44_37, s44_40, s44_43, s44_44, s44_47, s44_48, s44_51, s44_52, s44_55, s44_57, s44_60, s44_61, s44_64, s44_65, s44_66, s44_67, s44_70, s44_71, s44_74, s44_76, s44_77, s44_80, s44_81, s44_83, s44_84, s44_87, s44_88, s44_89, s44_90, s44_93, s44_96, s44_99, s44_100, s44_101, s44_104, s44_106, s44_107, s44_110, s44_111, s44_114, s44_115, s44_118, s44_121, s44_122, s44_125, s44_127, s44_128, s44_129, s44_130, s44_133, s44_134, s44_137, Option.toList_some, Option.toList_none, List.cons_append, List.nil_append, List.append_nil, ip_on_some, true_and, and_true, if_true, if_false, not_true_eq_false, not_false_eq_true, decide_true, true_or, or_true, or_self, Bool.false_eq_true]
            rw [hs.out] at hF
            exact stop _ _ _ _ (rdp_ft (hfr.trans mf2.toF) hF)
          · simp only [s44_0, s44_1, s44_2, s44_5, s44_6, s44_7, s44_8, s44_11, s44_14, s44_15, s44_16, s44_19, s44_20, s44_23, s44_26, s44_27, s44_30, s44_31, s44_33, s44_36, s44_37, s44_40, s44_43, s44_44, s44_47, s44_48, s44_51, s44_52, s44_55, s44_57, s44_60, s44_61, s44_64, s44_65, s44_66, s44_67, s44_70, s44_71, s44_74, s44_76, s44_77, s44_80, s44_81, s44_83, s44_84, s44_87, s44_88, s44_89, s44_90, s44_93, s44_96, s44_99, s44_100, s44_101, s44_104, s44_106, s44_107, s44_110, s44_111, s44_114, s44_115, s44_118, s44_121, s44_122, s44_125, s44_127, s44_128, s44_129, s44_130, s44_133, s44_134, s44_137, Option.toList_some, Option.toList_none, List.cons_append, List.nil_append, List.append_nil, ip_on_some, true_and, and_true, if_true, if_false, not_true_eq_false, not_false_eq_true, decide_true, true_or, or_true, or_self, Bool.false_eq_true]
            have hg := hs.grow (by rw [h44]; decide)
            have hg2 := hs2.pos
            refine ih s2 X2 _ _ _ (by omega) hL2 ?_ ?_ ?_ (b5.trans a5) b6 (b7.trans a7) (fun X3 I3 hr => ?_)
            · rw [show s2.2.2.2 = s1.2.2.2 from congrArg Prod.snd e3]
              exact (hMN1.xc ce2).mf mf2
            · rw [show s2.2.2.1 = s1.2.2.1 from congrArg Prod.fst e3]
              exact MVf.xc (MV.mf hMV1 mf2) ce2
            · rw [ce2.n (by decide), ce.n (by decide)]; exact hg0
            · refine hk X3 I3 (rdp_tr (hfr.trans mf2.toF) ⟨hs2.out.trans hs.out, by omega, fun z => by have := hs2.grow z; omega⟩ ?_)
              rw [ce2 5 (by decide) (by decide), e14] at hr
              exact hr
      · have hst : (takeS s).1 = 7 := by
          rw [hp]
          unfold rTask
          rw [e33, if_neg kn, kt, eg, if_neg q]
        have q' : ¬ s.2.2.1 21 t < 0 := by rw [elt]; exact q
        simp only [s44_0, s44_1, s44_2, s44_5, s44_6, s44_7, s44_8, s44_11, s44_14, s44_15, s44_16, s44_19, s44_20, s44_23, s44_26, s44_27, s44_30, s44_31, s44_33, s44_36, s44_37, s44_40, s44_43, s44_44, s44_47, s44_48, s44_51, s44_52, s44_55, s44_57, s44_60, s44_61, s44_64, s44_65, s44_66, s44_67, s44_70, s44_71, s44_74, s44_76, s44_77, s44_80, s44_81, s44_83, s44_84, s44_87, s44_88, s44_89, s44_90, s44_93, s44_96, s44_99, s44_100, s44_101, s44_104, s44_106, s44_107, s44_110, s44_111, s44_114, s44_115, s44_118, s44_121, s44_122, s44_125, s44_127, s44_128, s44_129, s44_130, s44_133, s44_134, s44_137, f_47_0, f_47_1, u_47_1, f_47_2, u_47_2, f_47_3, f_47_4, u_47_4, f_47_5, f_47_6, u_47_6, f_47_7, u_47_7, f_47_8, u_47_8, f_47_9, u_47_9, f_47_10, u_47_10, f_47_11, f_47_12, f_47_13, f_47_14, f_47_15, f_47_16, f_47_17, f_47_18, f_47_19, f_47_20, f_47_21, f_47_22, f_47_23, u_47_23, f_47_24, f_47_25, f_47_26, f_47_27, f_47_28, f_47_29, u_47_29, f_47_30, u_47_30, f_47_31, f_47_32, f_47_33, f_47_34, f_47_35, u_47_35, f_47_36, u_47_36, f_47_37, u_47_37, f_47_38, u_47_38, o_47, a_62, l_62, h.b.f, k4, kw, hlt10, hsub, nI_clamp (show t < 2 ^ 31 by omega), c2, c3, e62, q', qe_m1_0, qe_m1_1, qe_m1_2, qe_m1_3, qe_m1_4, qe_m1_5, qe_m1_6, qe_m1_7, qe_m1_8, qe_0_m1, qe_0_1, qe_0_2, qe_0_3, qe_0_4, qe_0_5, qe_0_6, qe_0_7, qe_0_8, qe_1_m1, qe_1_0, qe_1_2, qe_1_3, qe_1_4, qe_1_5, qe_1_6, qe_1_7, qe_1_8, qe_2_m1, qe_2_0, qe_2_1, qe_2_3, qe_2_4, qe_2_5, qe_2_6, qe_2_7, qe_2_8, qe_3_m1, qe_3_0, qe_3_1, qe_3_2, qe_3_4, qe_3_5, qe_3_6, qe_3_7, qe_3_8, qe_4_m1, qe_4_0, qe_4_1, qe_4_2, qe_4_3, qe_4_5, qe_4_6, qe_4_7, qe_4_8, qe_5_m1, qe_5_0, qe_5_1, qe_5_2, qe_5_3, qe_5_4, qe_5_6, qe_5_7, qe_5_8, qe_6_m1, qe_6_0, qe_6_1, qe_6_2, qe_6_3, qe_6_4, qe_6_5, qe_6_7, qe_6_8, qe_7_m1, qe_7_0, qe_7_1, qe_7_2, qe_7_3, qe_7_4, qe_7_5, qe_7_6, qe_7_8, qe_8_m1, qe_8_0, qe_8_1, qe_8_2, qe_8_3, qe_8_4, qe_8_5, qe_8_6, qe_8_7, Option.toList_some, Option.toList_none, List.cons_append, List.nil_append, List.append_nil, ip_on_some, true_and, and_true, if_true, if_false, not_true_eq_false, not_false_eq_true, decide_true, true_or, or_true, or_self, Bool.false_eq_true]
        refine st_take (v := True) (X'' := X) (I'' := I) (J'' := J) h h5' (fun _ => hst) (fun z => absurd trivial z) (fun X' r mf hF => ?_) (fun X' s1 z => absurd trivial z)
        cases r with
        | false =>
          simp only [s44_0, s44_1, s44_2, s44_5, s44_6, s44_7, s44_8, s44_11, s44_14, s44_15, s44_16, s44_19, s44_20, s44_23, s44_26, s44_27, s44_30, s44_31, s44_33, s44_36, s44_37, s44_40, s44_43, s44_44, s44_47, s44_48, s44_51, s44_52, s44_55, s44_57, s44_60, s44_61, s44_64, s44_65, s44_66, s44_67, s44_70, s44_71, s44_74, s44_76, s44_77, s44_80, s44_81, s44_83, s44_84, s44_87, s44_88, s44_89, s44_90, s44_93, s44_96, s44_99, s44_100, s44_101, s44_104, s44_106, s44_107, s44_110, s44_111, s44_114, s44_115, s44_118, s44_121, s44_122, s44_125, s44_127, s44_128, s44_129, s44_130, s44_133, s44_134, s44_137, f_47_0, f_47_1, u_47_1, f_47_2, u_47_2, f_47_3, f_47_4, u_47_4, f_47_5, f_47_6, u_47_6, f_47_7, u_47_7, f_47_8, u_47_8, f_47_9, u_47_9, f_47_10, u_47_10, f_47_11, f_47_12, f_47_13, f_47_14, f_47_15, f_47_16, f_47_17, f_47_18, f_47_19, f_47_20, f_47_21, f_47_22, f_47_23, u_47_23, f_47_24, f_47_25, f_47_26, f_47_27, f_47_28, f_47_29, u_47_29, f_47_30, u_47_30, f_47_31, f_47_32, f_47_33, f_47_34, f_47_35, u_47_35, f_47_36, u_47_36, f_47_37, u_47_37, f_47_38, u_47_38, o_47, bI_ff, md_commaF hF.pos, Option.toList_some, Option.toList_none, List.cons_append, List.nil_append, List.append_nil, ip_on_some, true_and, and_true, if_true, if_false, not_true_eq_false, not_false_eq_true, decide_true, true_or, or_true, or_self, Bool.false_eq_true]
          exact stop _ _ _ _ (rdp_ft mf.toF hF)
        | true =>
          simp only [s44_0, s44_1, s44_2, s44_5, s44_6, s44_7, s44_8, s44_11, s44_14, s44_15, s44_16, s44_19, s44_20, s44_23, s44_26, s44_27, s44_30, s44_31, s44_33, s44_36, s44_37, s44_40, s44_43, s44_44, s44_47, s44_48, s44_51, s44_52, s44_55, s44_57, s44_60, s44_61, s44_64, s44_65, s44_66, s44_67, s44_70, s44_71, s44_74, s44_76, s44_77, s44_80, s44_81, s44_83, s44_84, s44_87, s44_88, s44_89, s44_90, s44_93, s44_96, s44_99, s44_100, s44_101, s44_104, s44_106, s44_107, s44_110, s44_111, s44_114, s44_115, s44_118, s44_121, s44_122, s44_125, s44_127, s44_128, s44_129, s44_130, s44_133, s44_134, s44_137, f_47_0, f_47_1, u_47_1, f_47_2, u_47_2, f_47_3, f_47_4, u_47_4, f_47_5, f_47_6, u_47_6, f_47_7, u_47_7, f_47_8, u_47_8, f_47_9, u_47_9, f_47_10, u_47_10, f_47_11, f_47_12, f_47_13, f_47_14, f_47_15, f_47_16, f_47_17, f_47_18, f_47_19, f_47_20, f_47_21, f_47_22, f_47_23, u_47_23, f_47_24, f_47_25, f_47_26, f_47_27, f_47_28, f_47_29, u_47_29, f_47_30, u_47_30, f_47_31, f_47_32, f_47_33, f_47_34, f_47_35, u_47_35, f_47_36, u_47_36, f_47_37, u_47_37, f_47_38, u_47_38, o_47, a_62, l_62, bI_tt, qe_m1_0, qe_m1_1, qe_m1_2, qe_m1_3, qe_m1_4, qe_m1_5, qe_m1_6, qe_m1_7, qe_m1_8, qe_0_m1, qe_0_1, qe_0_2, qe_0_3, qe_0_4, qe_0_5, qe_0_6, qe_0_7, qe_0_8, qe_1_m1, qe_1_0, qe_1_2, qe_1_3, qe_1_4, qe_1_5, qe_1_6, qe_1_7, qe_1_8, qe_2_m1, qe_2_0, qe_2_1, qe_2_3, qe_2_4, qe_2_5, qe_2_6, qe_2_7, qe_2_8, qe_3_m1, qe_3_0, qe_3_1, qe_3_2, qe_3_4, qe_3_5, qe_3_6, qe_3_7, qe_3_8, qe_4_m1, qe_4_0, qe_4_1, qe_4_2, qe_4_3, qe_4_5, qe_4_6, qe_4_7, qe_4_8, qe_5_m1, qe_5_0, qe_5_1, qe_5_2, qe_5_3, qe_5_4, qe_5_6, qe_5_7, qe_5_8, qe_6_m1, qe_6_0, qe_6_1, qe_6_2, qe_6_3, qe_6_4, qe_6_5, qe_6_7, qe_6_8, qe_7_m1, qe_7_0, qe_7_1, qe_7_2, qe_7_3, qe_7_4, qe_7_5, qe_7_6, qe_7_8, qe_8_m1, qe_8_0, qe_8_1, qe_8_2, qe_8_3, qe_8_4, qe_8_5, qe_8_6, qe_8_7, nI_clamp (show t < 2 ^ 31 by omega), c2, c3, md_commaF hF.pos, Option.toList_some, Option.toList_none, List.cons_append, List.nil_append, List.append_nil, ip_on_some, true_and, and_true, if_true, if_false, not_true_eq_false, not_false_eq_true, decide_true, true_or, or_true, or_self, Bool.false_eq_true]
          exact stop _ _ _ _ (rdp_ft (mf.toF.trans (FR.arr (by decide) (by decide))) hF)
    · have hst : (takeS s).1 = 2 := by
        rw [hp]
        unfold rTask
        rw [e33, if_pos kr]
      have hF := h.tell (fun z => h5' z.2) hst (by decide)
      have mf : MF X (tellX X 2 (X 47 36)) := MF.refl.tell
      by_cases k4 : X 47 35 = 4
      · have hlt : X 47 38 < 10 := Int32.not_le.mp (fun z => kno ⟨k4, z⟩)
        simp only [s44_0, s44_1, s44_2, s44_5, s44_6, s44_7, s44_8, s44_11, s44_14, s44_15, s44_16, s44_19, s44_20, s44_23, s44_26, s44_27, s44_30, s44_31, s44_33, s44_36, s44_37, s44_40, s44_43, s44_44, s44_47, s44_48, s44_51, s44_52, s44_55, s44_57, s44_60, s44_61, s44_64, s44_65, s44_66, s44_67, s44_70, s44_71, s44_74, s44_76, s44_77, s44_80, s44_81, s44_83, s44_84, s44_87, s44_88, s44_89, s44_90, s44_93, s44_96, s44_99, s44_100, s44_101, s44_104, s44_106, s44_107, s44_110, s44_111, s44_114, s44_115, s44_118, s44_121, s44_122, s44_125, s44_127, s44_128, s44_129, s44_130, s44_133, s44_134, s44_137, f_47_0, f_47_1, u_47_1, f_47_2, u_47_2, f_47_3, f_47_4, u_47_4, f_47_5, f_47_6, u_47_6, f_47_7, u_47_7, f_47_8, u_47_8, f_47_9, u_47_9, f_47_10, u_47_10, f_47_11, f_47_12, f_47_13, f_47_14, f_47_15, f_47_16, f_47_17, f_47_18, f_47_19, f_47_20, f_47_21, f_47_22, f_47_23, u_47_23, f_47_24, f_47_25, f_47_26, f_47_27, f_47_28, f_47_29, u_47_29, f_47_30, u_47_30, f_47_31, f_47_32, f_47_33, f_47_34, f_47_35, u_47_35, f_47_36, u_47_36, f_47_37, u_47_37, f_47_38, u_47_38, o_47, a_62, l_62, h.b.f, k4, hlt, md_tell, md_commaF hF.pos, qe_m1_0, qe_m1_1, qe_m1_2, qe_m1_3, qe_m1_4, qe_m1_5, qe_m1_6, qe_m1_7, qe_m1_8, qe_0_m1, qe_0_1, qe_0_2, qe_0_3, qe_0_4, qe_0_5, qe_0_6, qe_0_7, qe_0_8, qe_1_m1, qe_1_0, qe_1_2, qe_1_3, qe_1_4, qe_1_5, qe_1_6, qe_1_7, qe_1_8, qe_2_m1, qe_2_0, qe_2_1, qe_2_3, qe_2_4, qe_2_5, qe_2_6, qe_2_7, qe_2_8, qe_3_m1, qe_3_0, qe_3_1, qe_3_2, qe_3_4, qe_3_5, qe_3_6, qe_3_7, qe_3_8, qe_4_m1, qe_4_0, qe_4_1, qe_4_2, qe_4_3, qe_4_5, qe_4_6, qe_4_7, qe_4_8, qe_5_m1, qe_5_0, qe_5_1, qe_5_2, qe_5_3, qe_5_4, qe_5_6, qe_5_7, qe_5_8, qe_6_m1, qe_6_0, qe_6_1, qe_6_2, qe_6_3, qe_6_4, qe_6_5, qe_6_7, qe_6_8, qe_7_m1, qe_7_0, qe_7_1, qe_7_2, qe_7_3, qe_7_4, qe_7_5, qe_7_6, qe_7_8, qe_8_m1, qe_8_0, qe_8_1, qe_8_2, qe_8_3, qe_8_4, qe_8_5, qe_8_6, qe_8_7, Option.toList_some, Option.toList_none, List.cons_append, List.nil_append, List.append_nil, ip_on_some, true_and, and_true, if_true, if_false, not_true_eq_false, not_false_eq_true, decide_true, true_or, or_true, or_self, Bool.false_eq_true]
        exact stop _ _ _ _ (rdp_ft mf.toF hF)
      · simp only [s44_0, s44_1, s44_2, s44_5, s44_6, s44_7, s44_8, s44_11, s44_14, s44_15, s44_16, s44_19, s44_20, s44_23, s44_26, s44_27, s44_30, s44_31, s44_33, s44_36, s44_37, s44_40, s44_43, s44_44, s44_47, s44_48, s44_51, s44_52, s44_55, s44_57, s44_60, s44_61, s44_64, s44_65, s44_66, s44_67, s44_70, s44_71, s44_74, s44_76, s44_77, s44_80, s44_81, s44_83, s44_84, s44_87, s44_88, s44_89, s44_90, s44_93, s44_96, s44_99, s44_100, s44_101, s44_104, s44_106, s44_107, s44_110, s44_111, s44_114, s44_115, s44_118, s44_121, s44_122, s44_125, s44_127, s44_128, s44_129, s44_130, s44_133, s44_134, s44_137, f_47_0, f_47_1, u_47_1, f_47_2, u_47_2, f_47_3, f_47_4, u_47_4, f_47_5, f_47_6, u_47_6, f_47_7, u_47_7, f_47_8, u_47_8, f_47_9, u_47_9, f_47_10, u_47_10, f_47_11, f_47_12, f_47_13, f_47_14, f_47_15, f_47_16, f_47_17, f_47_18, f_47_19, f_47_20, f_47_21, f_47_22, f_47_23, u_47_23, f_47_24, f_47_25, f_47_26, f_47_27, f_47_28, f_47_29, u_47_29, f_47_30, u_47_30, f_47_31, f_47_32, f_47_33, f_47_34, f_47_35, u_47_35, f_47_36, u_47_36, f_47_37, u_47_37, f_47_38, u_47_38, o_47, a_62, l_62, h.b.f, k4, md_tell, md_commaF hF.pos, qe_m1_0, qe_m1_1, qe_m1_2, qe_m1_3, qe_m1_4, qe_m1_5, qe_m1_6, qe_m1_7, qe_m1_8, qe_0_m1, qe_0_1, qe_0_2, qe_0_3, qe_0_4, qe_0_5, qe_0_6, qe_0_7, qe_0_8, qe_1_m1, qe_1_0, qe_1_2, qe_1_3, qe_1_4, qe_1_5, qe_1_6, qe_1_7, qe_1_8, qe_2_m1, qe_2_0, qe_2_1, qe_2_3, qe_2_4, qe_2_5, qe_2_6, qe_2_7, qe_2_8, qe_3_m1, qe_3_0, qe_3_1, qe_3_2, qe_3_4, qe_3_5, qe_3_6, qe_3_7, qe_3_8, qe_4_m1, qe_4_0, qe_4_1, qe_4_2, qe_4_3, qe_4_5, qe_4_6, qe_4_7, qe_4_8, qe_5_m1, qe_5_0, qe_5_1, qe_5_2, qe_5_3, qe_5_4, qe_5_6, qe_5_7, qe_5_8, qe_6_m1, qe_6_0, qe_6_1, qe_6_2, qe_6_3, qe_6_4, qe_6_5, qe_6_7, qe_6_8, qe_7_m1, qe_7_0, qe_7_1, qe_7_2, qe_7_3, qe_7_4, qe_7_5, qe_7_6, qe_7_8, qe_8_m1, qe_8_0, qe_8_1, qe_8_2, qe_8_3, qe_8_4, qe_8_5, qe_8_6, qe_8_7, Option.toList_some, Option.toList_none, List.cons_append, List.nil_append, List.append_nil, ip_on_some, true_and, and_true, if_true, if_false, not_true_eq_false, not_false_eq_true, decide_true, true_or, or_true, or_self, Bool.false_eq_true]
        exact stop _ _ _ _ (rdp_ft mf.toF hF)
end
