/-! CoreTextModel.advance against the lexeme -/
def mKind (k : Int32) : Int32 := if k = 1 then 0 else if k = 2 then 1 else if k = 3 then 2 else if 256 ≤ k then 4 else 3
/-- the model's lexeme in hand is l -/
abbrev ML (X : Nat → Nat → Int32) (l : Lx) : Prop := (X 47 36 = nI l.place) ∧ (X 47 37 = nI l.next) ∧ (X 47 35 = mKind l.kind) ∧ (l.kind = 3 → X 47 38 = l.num) ∧ (256 ≤ l.kind → X 47 38 = l.kind - 256) ∧ (l.kind = 44 ∨ l.kind = 58 ∨ l.kind = 59 ∨ l.kind = 61 ∨ l.kind = 62 → X 47 38 = l.kind)
theorem ML.fr {X : Nat → Nat → Int32} {l : Lx} (h : ML X l) : X 47 36 = nI l.place := h.1
theorem ML.to {X : Nat → Nat → Int32} {l : Lx} (h : ML X l) : X 47 37 = nI l.next := h.2.1
theorem ML.kd {X : Nat → Nat → Int32} {l : Lx} (h : ML X l) : X 47 35 = mKind l.kind := h.2.2.1
theorem ML.nu {X : Nat → Nat → Int32} {l : Lx} (h : ML X l) : l.kind = 3 → X 47 38 = l.num := h.2.2.2.1
theorem ML.wo {X : Nat → Nat → Int32} {l : Lx} (h : ML X l) : 256 ≤ l.kind → X 47 38 = l.kind - 256 := h.2.2.2.2.1
theorem ML.si {X : Nat → Nat → Int32} {l : Lx} (h : ML X l) : l.kind = 44 ∨ l.kind = 58 ∨ l.kind = 59 ∨ l.kind = 61 ∨ l.kind = 62 → X 47 38 = l.kind := h.2.2.2.2.2
/-- what advance leaves alone -/
abbrev MF (X X' : Nat → Nat → Int32) : Prop := (∀ k, k ≠ 47 → X' k = X k) ∧ (∀ j, j ≠ 6 → j ≠ 7 → j ≠ 35 → j ≠ 36 → j ≠ 37 → j ≠ 38 → X' 47 j = X 47 j) ∧ (X' 47 6 = 0 → X 47 6 = 0 ∧ X' 47 7 = X 47 7)
theorem MF.c {X X' : Nat → Nat → Int32} (h : MF X X') : ∀ k, k ≠ 47 → X' k = X k := h.1
theorem MF.j {X X' : Nat → Nat → Int32} (h : MF X X') : ∀ j, j ≠ 6 → j ≠ 7 → j ≠ 35 → j ≠ 36 → j ≠ 37 → j ≠ 38 → X' 47 j = X 47 j := h.2.1
theorem MF.p {X X' : Nat → Nat → Int32} (h : MF X X') : X' 47 6 = 0 → X 47 6 = 0 ∧ X' 47 7 = X 47 7 := h.2.2
theorem MF.refl {X : Nat → Nat → Int32} : MF X X := ⟨fun _ _ => rfl, fun _ _ _ _ _ _ _ => rfl, fun h => ⟨h, rfl⟩⟩
theorem MF.up {X X' : Nat → Nat → Int32} (h : MF X X') {j : Nat} {v : Int32} (hj : j = 35 ∨ j = 36 ∨ j = 37 ∨ j = 38) : MF X (ip_up X' 47 j v) := by
  and_intros
  · intro k hk
    rw [up1, if_neg hk]
    exact h.c k hk
  · intro i h6 h7 h35 h36 h37 h38
    rw [up1, if_pos rfl, updF_ap, if_neg (by omega)]
    exact h.j i h6 h7 h35 h36 h37 h38
  · intro z
    rw [up1, if_pos rfl, updF_ap, if_neg (by omega)] at z
    obtain ⟨z1, z2⟩ := h.p z
    exact ⟨z1, by rw [up1, if_pos rfl, updF_ap, if_neg (by omega)]; exact z2⟩
theorem MF.tell {X X' : Nat → Nat → Int32} (h : MF X X') {w p : Int32} (hw : ¬ w = 0 := by decide) : MF X (tellX X' w p) := by
  unfold tellX
  split
  · exact h
  · and_intros
    · intro k hk
      rw [up1, if_neg hk, up1, if_neg hk]
      exact h.c k hk
    · intro i h6 h7 h35 h36 h37 h38
      rw [up1, if_pos rfl, updF_ap, if_neg (by omega), up1, if_pos rfl, updF_ap, if_neg (by omega)]
      exact h.j i h6 h7 h35 h36 h37 h38
    · intro z
      rw [up1, if_pos rfl, updF_ap, if_neg (by decide), up1, if_pos rfl, updF_ap, if_pos rfl] at z
      exact absurd z hw
theorem cod_le {c : Int32} : cod c ≤ 0 ↔ ¬ isSm c = true ∧ ¬ isDg c = true := by
  constructor
  · intro h
    constructor
    · intro q
      have q' := isSm_iff.mp q
      have hj : ∃ j, j < 128 ∧ c = nI j := by
        have h0 : 0 ≤ c := Int32.le_trans (by decide) q'.1
        have hc := cn_le (n := 127) h0 (Int32.le_trans q'.2 (by decide)) (by decide)
        exact ⟨c.toNatClampNeg, by omega, cn_eq h0⟩
      obtain ⟨j, hj, rfl⟩ := hj
      have tab : ∀ j, j < 128 → isSm (nI j) = true → ¬ cod (nI j) ≤ 0 := by decide +kernel
      exact tab j hj q h
    · intro q
      have q' := isDg_iff.mp q
      have hj : ∃ j, j < 128 ∧ c = nI j := by
        have h0 : 0 ≤ c := Int32.le_trans (by decide) q'.1
        have hc := cn_le (n := 127) h0 (Int32.le_trans q'.2 (by decide)) (by decide)
        exact ⟨c.toNatClampNeg, by omega, cn_eq h0⟩
      obtain ⟨j, hj, rfl⟩ := hj
      have tab : ∀ j, j < 128 → isDg (nI j) = true → ¬ cod (nI j) ≤ 0 := by decide +kernel
      exact tab j hj q h
  · rintro ⟨h1, h2⟩
    unfold cod
    rw [if_neg h1, if_neg h2]
    exact Int32.le_refl 0
theorem i32_999 {v : Int32} : (v ≤ 999) = ¬ 1000 ≤ v := by
  rw [Int32.le_iff_toInt_le, Int32.le_iff_toInt_le, show (999 : Int32).toInt = 999 from by decide, show (1000 : Int32).toInt = 1000 from by decide]
  exact propext ⟨fun h => by omega, fun h => by omega⟩
section
variable {X : Nat → Nat → Int32} {y : Int64} {I : Nat → Nat → Int32} {J : Nat → Nat → Int64} {b : ip_B} {post : Option Value → ip_H → Prop} {px : String → ip_H → Prop}
/-- the name's end -/
theorem ma_nm {N : Nat} (hN : N ≤ 4160) (hL : X 47 8 = nI N) {c : Int32} : ∀ m p k, p + m = N → (ip_WP 31 46 [some (.ref 47), some (.int c)] [] (g0, fld (ip_up X 47 37 (nI p)) y, I, J) b post px ↔ ip_WP 31 100 [some (.ref 47), some (.int c)] [] (g0, fld (ip_up X 47 37 (nI (tnm (I 51) m p k).1)) y, I, J) b post px) := by
  intro m
  induction m with
  | zero =>
    intro p k hp
    have c1 : nI N ≤ nI p := nI_le (by omega) (by omega)
    rw [s31_46]
    simp only [s31_0, s31_1, s31_4, s31_5, s31_6, s31_9, s31_12, s31_13, s31_14, s31_17, s31_18, s31_21, s31_22, s31_25, s31_28, s31_29, s31_30, s31_33, s31_34, s31_37, s31_38, s31_39, s31_40, s31_43, s31_47, s31_50, s31_51, s31_54, s31_57, s31_58, s31_61, s31_62, s31_65, s31_66, s31_69, s31_72, s31_73, s31_76, s31_77, s31_80, s31_81, s31_84, s31_87, s31_88, s31_89, s31_92, s31_93, s31_94, s31_97, s31_101, s31_102, s31_105, s31_108, s31_109, s31_110, s31_113, s31_116, s31_117, s31_120, s31_121, s31_124, s31_125, s31_128, s31_129, s31_132, s31_133, s31_135, s31_138, s31_139, s31_140, s31_141, s31_144, s31_147, s31_150, s31_151, s31_154, s31_157, s31_158, s31_159, s31_162, s31_163, s31_164, s31_168, s31_171, s31_172, s31_175, s31_178, s31_179, s31_182, s31_183, s31_186, s31_187, s31_190, s31_193, s31_194, s31_195, s31_198, s31_201, s31_204, s31_205, s31_208, s31_211, s31_213, s31_214, s31_217, s31_218, s31_219, s31_222, s31_223, s31_226, s31_227, s31_228, s31_230, s31_231, s31_234, s31_235, s31_236, s31_239, s31_240, s31_241, s31_244, s31_247, s31_248, s31_250, s31_253, s31_254, s31_256, s31_259, s31_260, s31_262, s31_265, s31_266, s31_268, s31_271, s31_272, s31_274, s31_277, s31_278, s31_279, s31_282, s31_283, s31_284, s31_287, s31_288, s31_289, s31_292, s31_293, s31_294, s31_297, s31_300, s31_301, s31_302, s31_303, s31_306, s31_309, f_47_0, f_47_1, u_47_1, f_47_2, u_47_2, f_47_3, f_47_4, u_47_4, f_47_5, f_47_6, u_47_6, f_47_7, u_47_7, f_47_8, u_47_8, f_47_9, u_47_9, f_47_10, u_47_10, f_47_11, f_47_12, f_47_13, f_47_14, f_47_15, f_47_16, f_47_17, f_47_18, f_47_19, f_47_20, f_47_21, f_47_22, f_47_23, u_47_23, f_47_24, f_47_25, f_47_26, f_47_27, f_47_28, f_47_29, u_47_29, f_47_30, u_47_30, f_47_31, f_47_32, f_47_33, f_47_34, f_47_35, u_47_35, f_47_36, u_47_36, f_47_37, u_47_37, f_47_38, u_47_38, o_47, a_51, l_51, up1, updF_ap, Nat.reduceEqDiff, hL, c1, tnm, Option.toList_some, Option.toList_none, List.cons_append, List.nil_append, List.append_nil, ip_on_some, true_and, and_true, if_true, if_false, not_true_eq_false, not_false_eq_true, decide_true, true_or, or_true, or_self, Bool.false_eq_true]
  | succ m ih =>
    intro p k hp
    have c1 : ¬ nI N ≤ nI p := nI_ge (by omega) (by omega)
    have c2 : ¬ nI p < 0 := nI_pos (by omega)
    have c3 : ¬ 4400 ≤ p := by omega
    have ih' := ih (p + 1) (k * 37 + (cod (I 51 p)).toInt64) (by omega)
    rw [s31_46]
    simp only [s31_0, s31_1, s31_4, s31_5, s31_6, s31_9, s31_12, s31_13, s31_14, s31_17, s31_18, s31_21, s31_22, s31_25, s31_28, s31_29, s31_30, s31_33, s31_34, s31_37, s31_38, s31_39, s31_40, s31_43, s31_47, s31_50, s31_51, s31_54, s31_57, s31_58, s31_61, s31_62, s31_65, s31_66, s31_69, s31_72, s31_73, s31_76, s31_77, s31_80, s31_81, s31_84, s31_87, s31_88, s31_89, s31_92, s31_93, s31_94, s31_97, s31_101, s31_102, s31_105, s31_108, s31_109, s31_110, s31_113, s31_116, s31_117, s31_120, s31_121, s31_124, s31_125, s31_128, s31_129, s31_132, s31_133, s31_135, s31_138, s31_139, s31_140, s31_141, s31_144, s31_147, s31_150, s31_151, s31_154, s31_157, s31_158, s31_159, s31_162, s31_163, s31_164, s31_168, s31_171, s31_172, s31_175, s31_178, s31_179, s31_182, s31_183, s31_186, s31_187, s31_190, s31_193, s31_194, s31_195, s31_198, s31_201, s31_204, s31_205, s31_208, s31_211, s31_213, s31_214, s31_217, s31_218, s31_219, s31_222, s31_223, s31_226, s31_227, s31_228, s31_230, s31_231, s31_234, s31_235, s31_236, s31_239, s31_240, s31_241, s31_244, s31_247, s31_248, s31_250, s31_253, s31_254, s31_256, s31_259, s31_260, s31_262, s31_265, s31_266, s31_268, s31_271, s31_272, s31_274, s31_277, s31_278, s31_279, s31_282, s31_283, s31_284, s31_287, s31_288, s31_289, s31_292, s31_293, s31_294, s31_297, s31_300, s31_301, s31_302, s31_303, s31_306, s31_309, f_47_0, f_47_1, u_47_1, f_47_2, u_47_2, f_47_3, f_47_4, u_47_4, f_47_5, f_47_6, u_47_6, f_47_7, u_47_7, f_47_8, u_47_8, f_47_9, u_47_9, f_47_10, u_47_10, f_47_11, f_47_12, f_47_13, f_47_14, f_47_15, f_47_16, f_47_17, f_47_18, f_47_19, f_47_20, f_47_21, f_47_22, f_47_23, u_47_23, f_47_24, f_47_25, f_47_26, f_47_27, f_47_28, f_47_29, u_47_29, f_47_30, u_47_30, f_47_31, f_47_32, f_47_33, f_47_34, f_47_35, u_47_35, f_47_36, u_47_36, f_47_37, u_47_37, f_47_38, u_47_38, o_47, a_51, l_51, up1, updF_ap, up_up, Nat.reduceEqDiff, hL, c1, nI_clamp (show p < 2 ^ 31 by omega), c2, c3, md_isSm, md_isDg, bI_0, nI_1, ih', tnm, cod_le, Option.toList_some, Option.toList_none, List.cons_append, List.nil_append, List.append_nil, ip_on_some, true_and, and_true, if_true, if_false, not_true_eq_false, not_false_eq_true, decide_true, true_or, or_true, or_self, Bool.false_eq_true]
    by_cases q1 : isSm (I 51 p)
    · simp only [q1, false_and, Option.toList_some, Option.toList_none, List.cons_append, List.nil_append, List.append_nil, ip_on_some, true_and, and_true, if_true, if_false, not_true_eq_false, not_false_eq_true, decide_true, true_or, or_true, or_self, Bool.false_eq_true]
    · by_cases q2 : isDg (I 51 p)
      · simp only [q1, q2, and_false, Option.toList_some, Option.toList_none, List.cons_append, List.nil_append, List.append_nil, ip_on_some, true_and, and_true, if_true, if_false, not_true_eq_false, not_false_eq_true, decide_true, true_or, or_true, or_self, Bool.false_eq_true]
      · simp only [q1, q2, and_self, Option.toList_some, Option.toList_none, List.cons_append, List.nil_append, List.append_nil, ip_on_some, true_and, and_true, if_true, if_false, not_true_eq_false, not_false_eq_true, decide_true, true_or, or_true, or_self, Bool.false_eq_true]
theorem up_mc {f : Nat → Nat → Int32} {v w : Int32} : ip_up (ip_up f 47 38 v) 47 37 w = ip_up (ip_up f 47 37 w) 47 38 v := by
  funext a c
  simp only [ip_up]
  by_cases h1 : a = 47 ∧ c = 37
  · rw [if_pos h1, if_neg (by omega), if_pos h1]
  · by_cases h2 : a = 47 ∧ c = 38
    · rw [if_neg h1, if_pos h2, if_pos h2]
    · rw [if_neg h1, if_neg h2, if_neg h2, if_neg h1]
theorem ma_nb {N : Nat} (hN : N ≤ 4160) (hL : X 47 8 = nI N) {c : Int32} : ∀ m p v, p + m = N → (ip_WP 31 167 [some (.ref 47), some (.int c)] [] (g0, fld (ip_up (ip_up X 47 37 (nI p)) 47 38 v) y, I, J) b post px ↔ post none (g0, fld (ip_up (ip_up X 47 37 (nI (tnb (I 51) m p v).1)) 47 38 (tnb (I 51) m p v).2) y, I, J)) := by
  intro m
  induction m with
  | zero =>
    intro p v hp
    have c1 : nI N ≤ nI p := nI_le (by omega) (by omega)
    rw [s31_167]
    simp only [s31_0, s31_1, s31_4, s31_5, s31_6, s31_9, s31_12, s31_13, s31_14, s31_17, s31_18, s31_21, s31_22, s31_25, s31_28, s31_29, s31_30, s31_33, s31_34, s31_37, s31_38, s31_39, s31_40, s31_43, s31_47, s31_50, s31_51, s31_54, s31_57, s31_58, s31_61, s31_62, s31_65, s31_66, s31_69, s31_72, s31_73, s31_76, s31_77, s31_80, s31_81, s31_84, s31_87, s31_88, s31_89, s31_92, s31_93, s31_94, s31_97, s31_101, s31_102, s31_105, s31_108, s31_109, s31_110, s31_113, s31_116, s31_117, s31_120, s31_121, s31_124, s31_125, s31_128, s31_129, s31_132, s31_133, s31_135, s31_138, s31_139, s31_140, s31_141, s31_144, s31_147, s31_150, s31_151, s31_154, s31_157, s31_158, s31_159, s31_162, s31_163, s31_164, s31_168, s31_171, s31_172, s31_175, s31_178, s31_179, s31_182, s31_183, s31_186, s31_187, s31_190, s31_193, s31_194, s31_195, s31_198, s31_201, s31_204, s31_205, s31_208, s31_211, s31_213, s31_214, s31_217, s31_218, s31_219, s31_222, s31_223, s31_226, s31_227, s31_228, s31_230, s31_231, s31_234, s31_235, s31_236, s31_239, s31_240, s31_241, s31_244, s31_247, s31_248, s31_250, s31_253, s31_254, s31_256, s31_259, s31_260, s31_262, s31_265, s31_266, s31_268, s31_271, s31_272, s31_274, s31_277, s31_278, s31_279, s31_282, s31_283, s31_284, s31_287, s31_288, s31_289, s31_292, s31_293, s31_294, s31_297, s31_300, s31_301, s31_302, s31_303, s31_306, s31_309, f_47_0, f_47_1, u_47_1, f_47_2, u_47_2, f_47_3, f_47_4, u_47_4, f_47_5, f_47_6, u_47_6, f_47_7, u_47_7, f_47_8, u_47_8, f_47_9, u_47_9, f_47_10, u_47_10, f_47_11, f_47_12, f_47_13, f_47_14, f_47_15, f_47_16, f_47_17, f_47_18, f_47_19, f_47_20, f_47_21, f_47_22, f_47_23, u_47_23, f_47_24, f_47_25, f_47_26, f_47_27, f_47_28, f_47_29, u_47_29, f_47_30, u_47_30, f_47_31, f_47_32, f_47_33, f_47_34, f_47_35, u_47_35, f_47_36, u_47_36, f_47_37, u_47_37, f_47_38, u_47_38, o_47, a_51, l_51, up1, updF_ap, Nat.reduceEqDiff, hL, c1, tnb, Option.toList_some, Option.toList_none, List.cons_append, List.nil_append, List.append_nil, ip_on_some, true_and, and_true, if_true, if_false, not_true_eq_false, not_false_eq_true, decide_true, true_or, or_true, or_self, Bool.false_eq_true]
  | succ m ih =>
    intro p v hp
    have c1 : ¬ nI N ≤ nI p := nI_ge (by omega) (by omega)
    have c2 : ¬ nI p < 0 := nI_pos (by omega)
    have c3 : ¬ 4400 ≤ p := by omega
    rw [s31_167]
    simp only [s31_0, s31_1, s31_4, s31_5, s31_6, s31_9, s31_12, s31_13, s31_14, s31_17, s31_18, s31_21, s31_22, s31_25, s31_28, s31_29, s31_30, s31_33, s31_34, s31_37, s31_38, s31_39, s31_40, s31_43, s31_47, s31_50, s31_51, s31_54, s31_57, s31_58, s31_61, s31_62, s31_65, s31_66, s31_69, s31_72, s31_73, s31_76, s31_77, s31_80, s31_81, s31_84, s31_87, s31_88, s31_89, s31_92, s31_93, s31_94, s31_97, s31_101, s31_102, s31_105, s31_108, s31_109, s31_110, s31_113, s31_116, s31_117, s31_120, s31_121, s31_124, s31_125, s31_128, s31_129, s31_132, s31_133, s31_135, s31_138, s31_139, s31_140, s31_141, s31_144, s31_147, s31_150, s31_151, s31_154, s31_157, s31_158, s31_159, s31_162, s31_163, s31_164, s31_168, s31_171, s31_172, s31_175, s31_178, s31_179, s31_182, s31_183, s31_186, s31_187, s31_190, s31_193, s31_194, s31_195, s31_198, s31_201, s31_204, s31_205, s31_208, s31_211, s31_213, s31_214, s31_217, s31_218, s31_219, s31_222, s31_223, s31_226, s31_227, s31_228, s31_230, s31_231, s31_234, s31_235, s31_236, s31_239, s31_240, s31_241, s31_244, s31_247, s31_248, s31_250, s31_253, s31_254, s31_256, s31_259, s31_260, s31_262, s31_265, s31_266, s31_268, s31_271, s31_272, s31_274, s31_277, s31_278, s31_279, s31_282, s31_283, s31_284, s31_287, s31_288, s31_289, s31_292, s31_293, s31_294, s31_297, s31_300, s31_301, s31_302, s31_303, s31_306, s31_309, f_47_0, f_47_1, u_47_1, f_47_2, u_47_2, f_47_3, f_47_4, u_47_4, f_47_5, f_47_6, u_47_6, f_47_7, u_47_7, f_47_8, u_47_8, f_47_9, u_47_9, f_47_10, u_47_10, f_47_11, f_47_12, f_47_13, f_47_14, f_47_15, f_47_16, f_47_17, f_47_18, f_47_19, f_47_20, f_47_21, f_47_22, f_47_23, u_47_23, f_47_24, f_47_25, f_47_26, f_47_27, f_47_28, f_47_29, u_47_29, f_47_30, u_47_30, f_47_31, f_47_32, f_47_33, f_47_34, f_47_35, u_47_35, f_47_36, u_47_36, f_47_37, u_47_37, f_47_38, u_47_38, o_47, a_51, l_51, up1, updF_ap, up_up, up_mc, Nat.reduceEqDiff, hL, c1, nI_clamp (show p < 2 ^ 31 by omega), c2, c3, md_isDg, bI_0, nI_1, i32_999, tnb, Option.toList_some, Option.toList_none, List.cons_append, List.nil_append, List.append_nil, ip_on_some, true_and, and_true, if_true, if_false, not_true_eq_false, not_false_eq_true, decide_true, true_or, or_true, or_self, Bool.false_eq_true]
    by_cases q : isDg (I 51 p)
    · by_cases q2 : 1000 ≤ v
      · simp only [q, q2, Option.toList_some, Option.toList_none, List.cons_append, List.nil_append, List.append_nil, ip_on_some, true_and, and_true, if_true, if_false, not_true_eq_false, not_false_eq_true, decide_true, true_or, or_true, or_self, Bool.false_eq_true]
        rw [ih (p + 1) _ (by omega)]
      · simp only [q, q2, Option.toList_some, Option.toList_none, List.cons_append, List.nil_append, List.append_nil, ip_on_some, true_and, and_true, if_true, if_false, not_true_eq_false, not_false_eq_true, decide_true, true_or, or_true, or_self, Bool.false_eq_true]
        rw [Int32.mul_comm, ih (p + 1) _ (by omega)]
    · simp only [q, Option.toList_some, Option.toList_none, List.cons_append, List.nil_append, List.append_nil, ip_on_some, true_and, and_true, if_true, if_false, not_true_eq_false, not_false_eq_true, decide_true, true_or, or_true, or_self, Bool.false_eq_true]
end
theorem up47 {X : Nat → Nat → Int32} {j i : Nat} {v : Int32} : ip_up X 47 j v 47 i = if i = j then v else X 47 i := by
  rw [up1, if_pos rfl, updF_ap]
theorem sub_le12 {q p : Nat} (h : p ≤ q) (hq : q < 2 ^ 31) : (nI q - nI p ≤ 12) = (q - p ≤ 12) := by
  have e : nI q - nI p = nI (q - p) := by
    apply Int32.toInt_inj.mp
    rw [Kit.i32_sub (by rw [nI_toInt hq, nI_toInt (by omega)]; omega) (by rw [nI_toInt hq, nI_toInt (by omega)]; omega), nI_toInt hq, nI_toInt (by omega), nI_toInt (by omega)]
    omega
  rw [e]
  exact propext (nI_leI (b := 12) (by omega) (by decide))
theorem md_adv {X : Nat → Nat → Int32} {y : Int64} {I : Nat → Nat → Int32} {J : Nat → Nat → Int64} {b : ip_B} {post : Option Value → ip_H → Prop} {px : String → ip_H → Prop} {N p : Nat} {W : Nat → Int64} {k0 : Int64} {v0 : Int32} (hN : N ≤ 4160) (hL : X 47 8 = nI N) (hp : X 47 37 = nI p) (hpN : p ≤ N) (h6 : X 47 6 = 0) (hW : WC I) (hK : WK W)
    (hk : ∀ X', MF X X' → ((lexT (I 51) W N p k0 v0).kind = 0 → X' 47 6 = 1 ∧ X' 47 7 = nI (lexT (I 51) W N p k0 v0).place) → (¬ (lexT (I 51) W N p k0 v0).kind = 0 → X' 47 6 = 0 ∧ ML X' (lexT (I 51) W N p k0 v0)) → post none (g0, fld X' y, I, J)) : ip_WP 31 0 [some (.ref 47), none] [] (g0, fld X y, I, J) b post px := by
  have hs := sw_ge (I 51) (N - p) p false
  unfold lexT at hk
  rw [s31_0, s31_1]
  simp only [o_47, true_and]
  rw [md_pass hN hL hp hpN]
  generalize swT (I 51) (N - p) p false = p0 at hs hk ⊢
  have hp0 : p0 ≤ N := by omega
  simp only [] at hk
  have mf : MF X (ip_up (ip_up (ip_up X 47 37 (nI p0)) 47 36 (nI p0)) 47 35 0) := ((MF.refl.up (by omega)).up (by omega)).up (by omega)
  have x8 : (ip_up (ip_up (ip_up X 47 37 (nI p0)) 47 36 (nI p0)) 47 35 0) 47 8 = nI N := by simp [up47, hL]
  have x36 : (ip_up (ip_up (ip_up X 47 37 (nI p0)) 47 36 (nI p0)) 47 35 0) 47 36 = nI p0 := by simp [up47]
  have x37 : (ip_up (ip_up (ip_up X 47 37 (nI p0)) 47 36 (nI p0)) 47 35 0) 47 37 = nI p0 := by simp [up47]
  have x6 : (ip_up (ip_up (ip_up X 47 37 (nI p0)) 47 36 (nI p0)) 47 35 0) 47 6 = 0 := by simp [up47, h6]
  have x35 : (ip_up (ip_up (ip_up X 47 37 (nI p0)) 47 36 (nI p0)) 47 35 0) 47 35 = 0 := by simp [up47]
  simp only [s31_4, s31_5, s31_6, s31_9, s31_12, s31_13, s31_14, s31_17, s31_18, s31_21, s31_22, s31_25, f_47_0, f_47_1, u_47_1, f_47_2, u_47_2, f_47_3, f_47_4, u_47_4, f_47_5, f_47_6, u_47_6, f_47_7, u_47_7, f_47_8, u_47_8, f_47_9, u_47_9, f_47_10, u_47_10, f_47_11, f_47_12, f_47_13, f_47_14, f_47_15, f_47_16, f_47_17, f_47_18, f_47_19, f_47_20, f_47_21, f_47_22, f_47_23, u_47_23, f_47_24, f_47_25, f_47_26, f_47_27, f_47_28, f_47_29, u_47_29, f_47_30, u_47_30, f_47_31, f_47_32, f_47_33, f_47_34, f_47_35, u_47_35, f_47_36, u_47_36, f_47_37, u_47_37, f_47_38, u_47_38, o_47, up47, Nat.reduceEqDiff, hL, Option.toList_some, Option.toList_none, List.cons_append, List.nil_append, List.append_nil, ip_on_some, true_and, and_true, if_true, if_false, not_true_eq_false, not_false_eq_true, decide_true, true_or, or_true, or_self, Bool.false_eq_true]
  generalize hX1 : ip_up (ip_up (ip_up X 47 37 (nI p0)) 47 36 (nI p0)) 47 35 0 = X1 at mf x8 x36 x37 x6 x35 ⊢
  by_cases c0 : N ≤ p0
  · have e : p0 = N := by omega
    subst e
    simp only [s31_28, Option.toList_some, Option.toList_none, List.cons_append, List.nil_append, List.append_nil, ip_on_some, true_and, and_true, if_true, if_false, not_true_eq_false, not_false_eq_true, decide_true, true_or, or_true, or_self, Bool.false_eq_true]
    rw [if_pos (Nat.le_refl _)] at hk
    refine hk X1 mf (fun z => by simp [Lx.kind] at z) (fun _ => ⟨x6, ⟨x36, x37, x35, fun z => by simp [Lx.kind] at z, fun z => by simp [Lx.kind] at z, fun z => by rcases z with z | z | z | z | z <;> simp [Lx.kind] at z⟩⟩)
  · have c1 : ¬ nI p0 = nI N := fun z => c0 (Nat.le_of_eq ((nI_eq (by omega) (by omega)).mp z).symm)
    have i1 : ¬ nI p0 < 0 := nI_pos (by omega)
    have i2 : ¬ 4400 ≤ p0 := by omega
    rw [if_neg c0] at hk
    simp only [c1, s31_29, s31_30, s31_33, s31_34, s31_37, s31_38, s31_39, s31_40, s31_43, f_47_0, f_47_1, u_47_1, f_47_2, u_47_2, f_47_3, f_47_4, u_47_4, f_47_5, f_47_6, u_47_6, f_47_7, u_47_7, f_47_8, u_47_8, f_47_9, u_47_9, f_47_10, u_47_10, f_47_11, f_47_12, f_47_13, f_47_14, f_47_15, f_47_16, f_47_17, f_47_18, f_47_19, f_47_20, f_47_21, f_47_22, f_47_23, u_47_23, f_47_24, f_47_25, f_47_26, f_47_27, f_47_28, f_47_29, u_47_29, f_47_30, u_47_30, f_47_31, f_47_32, f_47_33, f_47_34, f_47_35, u_47_35, f_47_36, u_47_36, f_47_37, u_47_37, f_47_38, u_47_38, o_47, a_51, l_51, x36, nI_clamp (show p0 < 2 ^ 31 by omega), i1, i2, md_isSm, bI_0, Option.toList_some, Option.toList_none, List.cons_append, List.nil_append, List.append_nil, ip_on_some, true_and, and_true, if_true, if_false, not_true_eq_false, not_false_eq_true, decide_true, true_or, or_true, or_self, Bool.false_eq_true]
    by_cases q1 : isSm (I 51 p0)
    · rw [if_pos q1] at hk
      simp only [q1, Option.toList_some, Option.toList_none, List.cons_append, List.nil_append, List.append_nil, ip_on_some, true_and, and_true, if_true, if_false, not_true_eq_false, not_false_eq_true, decide_true, true_or, or_true, or_self, Bool.false_eq_true]
      have hn := ma_nm (X := X1) (y := y) (I := I) (J := J) (b := b) (post := post) (px := px) hN x8 (c := I 51 p0) (N - p0) p0 0 (by omega)
      rw [up_self x37] at hn
      rw [hn]
      have hg := tnm_ge (I 51) (N - p0) p0 0
      have hnm := fun hl => tnm_name (I 51) (m := N - p0) (p := p0) (by
        by_cases z : cod (I 51 p0) ≤ 0
        · exact absurd q1 (cod_le.mp z).1
        · exact Int32.not_le.mp z) (by omega) hl
      generalize tnm (I 51) (N - p0) p0 0 = q at hg hk hnm ⊢
      have sb := sub_le12 (p := p0) (q := q.1) (by omega) (by omega)
      simp only [sb] at hk
      rw [s31_100]
      simp only [s31_101, s31_102, f_47_0, f_47_1, u_47_1, f_47_2, u_47_2, f_47_3, f_47_4, u_47_4, f_47_5, f_47_6, u_47_6, f_47_7, u_47_7, f_47_8, u_47_8, f_47_9, u_47_9, f_47_10, u_47_10, f_47_11, f_47_12, f_47_13, f_47_14, f_47_15, f_47_16, f_47_17, f_47_18, f_47_19, f_47_20, f_47_21, f_47_22, f_47_23, u_47_23, f_47_24, f_47_25, f_47_26, f_47_27, f_47_28, f_47_29, u_47_29, f_47_30, u_47_30, f_47_31, f_47_32, f_47_33, f_47_34, f_47_35, u_47_35, f_47_36, u_47_36, f_47_37, u_47_37, f_47_38, u_47_38, o_47, Option.toList_some, Option.toList_none, List.cons_append, List.nil_append, List.append_nil, ip_on_some, true_and, and_true, if_true, if_false, not_true_eq_false, not_false_eq_true, decide_true, true_or, or_true, or_self, Bool.false_eq_true]
      refine md_word (p := p0) (q := q.1) hW (by simp [up47, x36]) (by simp [up47]) (by omega) (by omega) ?_
      simp only [s31_105, s31_108, s31_109, s31_110, s31_113, s31_116, s31_117, s31_120, s31_121, s31_124, s31_125, s31_128, s31_129, s31_132, s31_133, s31_135, s31_138, s31_139, s31_140, s31_141, s31_144, s31_147, s31_309, f_47_0, f_47_1, u_47_1, f_47_2, u_47_2, f_47_3, f_47_4, u_47_4, f_47_5, f_47_6, u_47_6, f_47_7, u_47_7, f_47_8, u_47_8, f_47_9, u_47_9, f_47_10, u_47_10, f_47_11, f_47_12, f_47_13, f_47_14, f_47_15, f_47_16, f_47_17, f_47_18, f_47_19, f_47_20, f_47_21, f_47_22, f_47_23, u_47_23, f_47_24, f_47_25, f_47_26, f_47_27, f_47_28, f_47_29, u_47_29, f_47_30, u_47_30, f_47_31, f_47_32, f_47_33, f_47_34, f_47_35, u_47_35, f_47_36, u_47_36, f_47_37, u_47_37, f_47_38, u_47_38, o_47, up47, Nat.reduceEqDiff, x36, sb, md_tell, Option.toList_some, Option.toList_none, List.cons_append, List.nil_append, List.append_nil, ip_on_some, true_and, and_true, if_true, if_false, not_true_eq_false, not_false_eq_true, decide_true, true_or, or_true, or_self, Bool.false_eq_true]
      by_cases ql : q.1 - p0 ≤ 12
      · rw [if_pos ql] at hk
        rcases wfi_wix hK (hnm ql) 17 0 rfl with ⟨w1, w2⟩ | ⟨w, hw, w1, w2⟩
        · rw [if_pos w2] at hk
          rw [w1]
          simp only [ql, Int32.reduceLE, Option.toList_some, Option.toList_none, List.cons_append, List.nil_append, List.append_nil, ip_on_some, true_and, and_true, if_true, if_false, not_true_eq_false, not_false_eq_true, decide_true, true_or, or_true, or_self, Bool.false_eq_true]
          refine hk _ (((mf.up (by omega)).up (by omega)).up (by omega)) (fun z => by simp [Lx.kind] at z) (fun _ => ⟨by simp [up47, x6], ⟨by simp [up47, x36], by simp [up47], by simp [up47, mKind, Lx.kind], fun z => by simp [Lx.kind] at z, fun z => by simp [Lx.kind] at z, fun z => by rcases z with z | z | z | z | z <;> simp [Lx.kind] at z⟩⟩)
        · have t1 : ∀ w, w < 17 → ¬ (256 + nI w) = -1 ∧ ¬ (256 + nI w) = 0 ∧ mKind (256 + nI w) = 4 ∧ ¬ (256 + nI w) = 3 ∧ (256 + nI w) - 256 = nI w ∧ ¬ ((256 + nI w) = 44 ∨ (256 + nI w) = 58 ∨ (256 + nI w) = 59 ∨ (256 + nI w) = 61 ∨ (256 + nI w) = 62) ∧ (0 : Int32) ≤ nI w := by decide +kernel
          obtain ⟨t1, t2, t3, t4, t5, t6, t7⟩ := t1 w hw
          rw [w2, if_neg t1] at hk
          rw [w1]
          simp only [ql, t7, Option.toList_some, Option.toList_none, List.cons_append, List.nil_append, List.append_nil, ip_on_some, true_and, and_true, if_true, if_false, not_true_eq_false, not_false_eq_true, decide_true, true_or, or_true, or_self, Bool.false_eq_true]
          refine hk _ (((mf.up (by omega)).up (by omega)).up (by omega)) (fun z => absurd z t2) (fun _ => ⟨by simp [up47, x6], ⟨by simp [up47, x36], by simp [up47], by rw [up47, if_pos rfl]; exact t3.symm, fun z => absurd z t4, fun _ => by rw [up47, if_neg (by decide), up47, if_pos rfl]; exact t5.symm, fun z => absurd z t6⟩⟩)
      · rw [if_neg ql] at hk
        simp only [ql, Option.toList_some, Option.toList_none, List.cons_append, List.nil_append, List.append_nil, ip_on_some, true_and, and_true, if_true, if_false, not_true_eq_false, not_false_eq_true, decide_true, true_or, or_true, or_self, Bool.false_eq_true]
        by_cases qw : 0 ≤ wix (slc (I 51) p0 q.1) 17 0
        · simp only [qw, Option.toList_some, Option.toList_none, List.cons_append, List.nil_append, List.append_nil, ip_on_some, true_and, and_true, if_true, if_false, not_true_eq_false, not_false_eq_true, decide_true, true_or, or_true, or_self, Bool.false_eq_true]
          refine hk _ ((((mf.up (by omega)).up (by omega)).up (by omega)).tell) (fun _ => ?_) (fun z => absurd rfl z)
          unfold tellX
          simp [up47, x6]
        · simp only [qw, Option.toList_some, Option.toList_none, List.cons_append, List.nil_append, List.append_nil, ip_on_some, true_and, and_true, if_true, if_false, not_true_eq_false, not_false_eq_true, decide_true, true_or, or_true, or_self, Bool.false_eq_true]
          refine hk _ ((((mf.up (by omega)).up (by omega)).up (by omega)).tell) (fun _ => ?_) (fun z => absurd rfl z)
          unfold tellX
          simp [up47, x6]
    · rw [if_neg q1] at hk
      simp only [q1, s31_150, s31_151, s31_154, md_isDg, bI_0, Option.toList_some, Option.toList_none, List.cons_append, List.nil_append, List.append_nil, ip_on_some, true_and, and_true, if_true, if_false, not_true_eq_false, not_false_eq_true, decide_true, true_or, or_true, or_self, Bool.false_eq_true]
      by_cases q2 : isDg (I 51 p0)
      · rw [if_pos q2] at hk
        simp only [q2, s31_157, s31_158, s31_159, s31_162, s31_163, s31_164, f_47_0, f_47_1, u_47_1, f_47_2, u_47_2, f_47_3, f_47_4, u_47_4, f_47_5, f_47_6, u_47_6, f_47_7, u_47_7, f_47_8, u_47_8, f_47_9, u_47_9, f_47_10, u_47_10, f_47_11, f_47_12, f_47_13, f_47_14, f_47_15, f_47_16, f_47_17, f_47_18, f_47_19, f_47_20, f_47_21, f_47_22, f_47_23, u_47_23, f_47_24, f_47_25, f_47_26, f_47_27, f_47_28, f_47_29, u_47_29, f_47_30, u_47_30, f_47_31, f_47_32, f_47_33, f_47_34, f_47_35, u_47_35, f_47_36, u_47_36, f_47_37, u_47_37, f_47_38, u_47_38, o_47, Option.toList_some, Option.toList_none, List.cons_append, List.nil_append, List.append_nil, ip_on_some, true_and, and_true, if_true, if_false, not_true_eq_false, not_false_eq_true, decide_true, true_or, or_true, or_self, Bool.false_eq_true]
        have hn := ma_nb (X := ip_up X1 47 35 2) (y := y) (I := I) (J := J) (b := b) (post := post) (px := px) hN (by rw [up47, if_neg (by decide)]; exact x8) (c := I 51 p0) (N - p0) p0 0 (by omega)
        rw [up_self (f := ip_up X1 47 35 2) (k := 47) (j := 37) (v := nI p0) (by rw [up47, if_neg (by decide)]; exact x37)] at hn
        rw [hn]
        generalize tnb (I 51) (N - p0) p0 0 = q at hk ⊢
        refine hk _ (((mf.up (by omega)).up (by omega)).up (by omega)) (fun z => by simp [Lx.kind] at z) (fun _ => ⟨by simp [up47, x6], ⟨by simp [up47, x36], by simp [up47], by simp [up47, mKind, Lx.kind], fun _ => by simp [up47, Lx.num], fun z => by simp [Lx.kind] at z, fun z => by rcases z with z | z | z | z | z <;> simp [Lx.kind] at z⟩⟩)
      · rw [if_neg q2] at hk
        by_cases q3 : I 51 p0 = 44 ∨ I 51 p0 = 58 ∨ I 51 p0 = 59 ∨ I 51 p0 = 61 ∨ I 51 p0 = 62
        · rw [if_pos q3] at hk
          have hgo : ip_WP 31 277 [some (.ref 47), some (.int (I 51 p0))] [] (g0, fld X1 y, I, J) b post px := by
            simp only [s31_277, s31_278, s31_279, s31_282, s31_283, s31_284, s31_287, s31_288, s31_289, s31_292, s31_293, s31_294, s31_297, s31_309, f_47_0, f_47_1, u_47_1, f_47_2, u_47_2, f_47_3, f_47_4, u_47_4, f_47_5, f_47_6, u_47_6, f_47_7, u_47_7, f_47_8, u_47_8, f_47_9, u_47_9, f_47_10, u_47_10, f_47_11, f_47_12, f_47_13, f_47_14, f_47_15, f_47_16, f_47_17, f_47_18, f_47_19, f_47_20, f_47_21, f_47_22, f_47_23, u_47_23, f_47_24, f_47_25, f_47_26, f_47_27, f_47_28, f_47_29, u_47_29, f_47_30, u_47_30, f_47_31, f_47_32, f_47_33, f_47_34, f_47_35, u_47_35, f_47_36, u_47_36, f_47_37, u_47_37, f_47_38, u_47_38, o_47, up47, Nat.reduceEqDiff, x37, nI_1, Option.toList_some, Option.toList_none, List.cons_append, List.nil_append, List.append_nil, ip_on_some, true_and, and_true, if_true, if_false, not_true_eq_false, not_false_eq_true, decide_true, true_or, or_true, or_self, Bool.false_eq_true]
            have tk : mKind (I 51 p0) = 3 ∧ ¬ I 51 p0 = 0 ∧ ¬ I 51 p0 = 3 ∧ ¬ (256 : Int32) ≤ I 51 p0 := by
              rcases q3 with z | z | z | z | z <;> rw [z] <;> decide
            refine hk _ (((mf.up (by omega)).up (by omega)).up (by omega)) (fun z => absurd z tk.2.1) (fun _ => ⟨by simp [up47, x6], ⟨by simp [up47, x36], by simp [up47], by simp [up47, tk.1], fun z => absurd z tk.2.2.1, fun z => absurd z tk.2.2.2, fun _ => by simp [up47, Lx.kind]⟩⟩)
          simp only [q2, s31_247, s31_248, s31_250, s31_253, s31_254, s31_256, s31_259, s31_260, s31_262, s31_265, s31_266, s31_268, s31_271, s31_272, s31_274, Option.toList_some, Option.toList_none, List.cons_append, List.nil_append, List.append_nil, ip_on_some, true_and, and_true, if_true, if_false, not_true_eq_false, not_false_eq_true, decide_true, true_or, or_true, or_self, Bool.false_eq_true]
          (repeat' split) <;> first | exact hgo | (exfalso; rcases q3 with z | z | z | z | z <;> contradiction)
        · rw [if_neg q3] at hk
          simp only [not_or] at q3
          obtain ⟨z1, z2, z3, z4, z5⟩ := q3
          simp only [q2, z1, z2, z3, z4, z5, s31_247, s31_248, s31_250, s31_253, s31_254, s31_256, s31_259, s31_260, s31_262, s31_265, s31_266, s31_268, s31_271, s31_272, s31_274, s31_300, s31_301, s31_302, s31_303, s31_306, s31_309, f_47_0, f_47_1, u_47_1, f_47_2, u_47_2, f_47_3, f_47_4, u_47_4, f_47_5, f_47_6, u_47_6, f_47_7, u_47_7, f_47_8, u_47_8, f_47_9, u_47_9, f_47_10, u_47_10, f_47_11, f_47_12, f_47_13, f_47_14, f_47_15, f_47_16, f_47_17, f_47_18, f_47_19, f_47_20, f_47_21, f_47_22, f_47_23, u_47_23, f_47_24, f_47_25, f_47_26, f_47_27, f_47_28, f_47_29, u_47_29, f_47_30, u_47_30, f_47_31, f_47_32, f_47_33, f_47_34, f_47_35, u_47_35, f_47_36, u_47_36, f_47_37, u_47_37, f_47_38, u_47_38, o_47, x36, md_tell, Option.toList_some, Option.toList_none, List.cons_append, List.nil_append, List.append_nil, ip_on_some, true_and, and_true, if_true, if_false, not_true_eq_false, not_false_eq_true, decide_true, true_or, or_true, or_self, Bool.false_eq_true]
          refine hk _ mf.tell (fun _ => ?_) (fun z => absurd rfl z)
          unfold tellX
          simp [up47, x6]
