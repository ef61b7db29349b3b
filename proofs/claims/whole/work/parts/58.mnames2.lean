/-! the model's oldName and newName -/
/-- behind the part's number -/
def X1S (s : SS) : Nat → Nat → Int32 := ip_up s.1 32 6 (s.1 32 6 + 1)
def moI (t : Nat) : Int32 := if t < 2 then 12 else 8
def moN (t : Nat) : Nat := if t < 2 then 12 else 8
theorem moI_eq (t : Nat) : moI t = nI (moN t) := by
  unfold moI moN
  split <;> rfl
theorem moN_le (t : Nat) : moN t ≤ 12 := by
  unfold moN
  split <;> omega
section
variable {N : Nat} {s : SS} {X X' : Nat → Nat → Int32} {y : Int64} {I I' : Nat → Nat → Int32} {J : Nat → Nat → Int64} {b : ip_B} {post : Option Value → ip_H → Prop} {px : String → ip_H → Prop}
theorem x1_ne {k : Nat} (h : k ≠ 32) : X1S s k = s.1 k := by unfold X1S; rw [up1, if_neg h]
theorem told_x1 : told (X1S s) s.2.2.2 s.2.1 = told s.1 s.2.2.2 s.2.1 := by
  unfold told
  rw [x1_ne (by decide), x1_ne (by decide), x1_ne (by decide), x1_ne (by decide)]
theorem old_1 {t : Nat} (ht : t < 4) : (rOld (X1S s) s.2.1 s.2.2.1 s.2.2.2 (6 + 2 * t)).1 = if s.1 33 3 = 2 then (if nfi (s.2.2.2 (7 + 2 * t)) s.2.1 (cnt s.1 t) 0 = -1 then (if told s.1 s.2.2.2 s.2.1 then 6 else 5) else 0) else 2 := by
  have e : 6 + 2 * t + 1 = 7 + 2 * t := by omega
  unfold rOld
  rw [told_x1, x1_ne (show 33 ≠ 32 by decide), x1_ne (show 6 + 2 * t ≠ 32 by omega), e]
  unfold cnt
  (repeat' split) <;> rfl
theorem md_oldF (hf : 0 < X 47 6) {t : Int32} : ip_WP 41 0 [some (.ref 47), some (.int t), none] [] (g0, fld X y, I, J) b post px ↔ post (some (.int 0)) (g0, fld X y, I, J) := by
  have hf' : ¬ X 47 6 ≤ 0 := Int32.not_le.mpr hf
  simp only [s41_0, s41_1, s41_4, s41_7, s41_8, s41_9, s41_10, s41_13, s41_14, s41_17, s41_18, s41_21, s41_24, s41_25, s41_26, s41_27, s41_30, s41_31, s41_34, s41_35, s41_36, s41_37, s41_40, s41_43, s41_46, s41_47, s41_50, s41_51, s41_52, s41_53, s41_56, s41_59, s41_62, s41_63, s41_66, s41_67, s41_68, s41_69, s41_72, s41_73, s41_75, s41_76, s41_79, s41_82, s41_83, s41_86, s41_89, s41_90, s41_93, s41_94, s41_97, s41_98, s41_99, f_47_0, f_47_1, u_47_1, f_47_2, u_47_2, f_47_3, f_47_4, u_47_4, f_47_5, f_47_6, u_47_6, f_47_7, u_47_7, f_47_8, u_47_8, f_47_9, u_47_9, f_47_10, u_47_10, f_47_11, f_47_12, f_47_13, f_47_14, f_47_15, f_47_16, f_47_17, f_47_18, f_47_19, f_47_20, f_47_21, f_47_22, f_47_23, u_47_23, f_47_24, f_47_25, f_47_26, f_47_27, f_47_28, f_47_29, u_47_29, f_47_30, u_47_30, f_47_31, f_47_32, f_47_33, f_47_34, f_47_35, u_47_35, f_47_36, u_47_36, f_47_37, u_47_37, f_47_38, u_47_38, o_47, hf', Option.toList_some, Option.toList_none, List.cons_append, List.nil_append, List.append_nil, ip_on_some, true_and, and_true, if_true, if_false, not_true_eq_false, not_false_eq_true, decide_true, true_or, or_true, or_self, Bool.false_eq_true]
theorem nI_nm1 {i : Nat} (h : i < 2 ^ 31) : ¬ nI i = -1 := fun e => by
  have := congrArg Int32.toInt e
  rw [nI_toInt h, show ((-1 : Int32)).toInt = -1 from by decide] at this
  omega
theorem md_old (h : LR N s X I) (hm : MN s.1 s.2.2.2 X I) (h5 : ¬ s.1 32 5 = -1) {t : Nat} (ht : t < 4) (hst : ¬ (rOld (X1S s) s.2.1 s.2.2.1 s.2.2.2 (6 + 2 * t)).1 = 0 → (takeS s).1 = (rOld (X1S s) s.2.1 s.2.2.1 s.2.2.2 (6 + 2 * t)).1)
    (hft : ∀ X', MF X X' → FT (out1 N s) X' → post (some (.int 0)) (g0, fld X' y, I, J))
    (hgo : ∀ i, i < cnt s.1 t → s.1 33 3 = 2 → s.2.2.2 (7 + 2 * t) i = s.2.1 → nfi (s.2.2.2 (7 + 2 * t)) s.2.1 (cnt s.1 t) 0 = nI i → post (some (.int (nI i))) (g0, fld X y, I, J)) : ip_WP 41 0 [some (.ref 47), some (.int (nI t)), none] [] (g0, fld X y, I, J) b post px := by
  have ho := old_1 (s := s) ht
  have hN := h.b.rv.l
  have hq := h.b.rv.q
  have fin : ∀ r : Int32, 0 < r → (takeS s).1 = r → post (some (.int 0)) (g0, fld (tellX X r (X 47 36)) y, I, J) := fun r hr e => hft _ (MF.refl.tell (ne0 hr)) (h.tell (fun z => h5 z.2) e hr)
  have tpos : ∀ r : Int32, 0 < r → ¬ (tellX X r (X 47 36)) 47 6 ≤ 0 := fun r hr => by
    unfold tellX
    rw [if_neg (by rw [h.b.f]; decide), up47, if_neg (by decide), up47, if_pos rfl]
    exact Int32.not_le.mpr hr
  by_cases k : s.1 33 3 = 2
  · have k1 : X 47 35 = 1 := by rw [h.kn]; exact k
    rw [if_pos k] at ho
    simp only [s41_0, s41_1, s41_4, s41_7, s41_8, s41_9, s41_10, s41_13, s41_14, s41_17, s41_18, s41_21, s41_24, s41_25, s41_26, s41_27, s41_30, s41_31, s41_34, s41_35, s41_36, s41_37, s41_40, s41_43, s41_46, s41_47, s41_50, s41_51, s41_52, s41_53, s41_56, s41_59, s41_62, s41_63, s41_66, s41_67, s41_68, s41_69, s41_72, s41_73, s41_75, s41_76, s41_79, s41_82, s41_83, s41_86, s41_89, s41_90, s41_93, s41_94, s41_97, s41_98, s41_99, f_47_0, f_47_1, u_47_1, f_47_2, u_47_2, f_47_3, f_47_4, u_47_4, f_47_5, f_47_6, u_47_6, f_47_7, u_47_7, f_47_8, u_47_8, f_47_9, u_47_9, f_47_10, u_47_10, f_47_11, f_47_12, f_47_13, f_47_14, f_47_15, f_47_16, f_47_17, f_47_18, f_47_19, f_47_20, f_47_21, f_47_22, f_47_23, u_47_23, f_47_24, f_47_25, f_47_26, f_47_27, f_47_28, f_47_29, u_47_29, f_47_30, u_47_30, f_47_31, f_47_32, f_47_33, f_47_34, f_47_35, u_47_35, f_47_36, u_47_36, f_47_37, u_47_37, f_47_38, u_47_38, o_47, h.b.f, k1, Int32.reduceLE, Option.toList_some, Option.toList_none, List.cons_append, List.nil_append, List.append_nil, ip_on_some, true_and, and_true, if_true, if_false, not_true_eq_false, not_false_eq_true, decide_true, true_or, or_true, or_self, Bool.false_eq_true]
    refine md_find hm h.ml.fr h.ml.to h.ple (by show (s.1 33 2).toNatClampNeg ≤ 4160; omega) (h.nm k) (fun r hr => ?_)
    rcases hr with ⟨hr, hno⟩ | ⟨n, s', i, p, q, hr, hn, hA, hkey⟩
    · have hno' := MN.no hno
      rw [if_pos (hno'.1 t ht), if_neg hno'.2] at ho
      have hst' := hst (by rw [ho]; decide)
      rw [ho] at hst'
      have tp := tpos 5 (by decide)
      subst hr
      simp only [s41_0, s41_1, s41_4, s41_7, s41_8, s41_9, s41_10, s41_13, s41_14, s41_17, s41_18, s41_21, s41_24, s41_25, s41_26, s41_27, s41_30, s41_31, s41_34, s41_35, s41_36, s41_37, s41_40, s41_43, s41_46, s41_47, s41_50, s41_51, s41_52, s41_53, s41_56, s41_59, s41_62, s41_63, s41_66, s41_67, s41_68, s41_69, s41_72, s41_73, s41_75, s41_76, s41_79, s41_82, s41_83, s41_86, s41_89, s41_90, s41_93, s41_94, s41_97, s41_98, s41_99, f_47_0, f_47_1, u_47_1, f_47_2, u_47_2, f_47_3, f_47_4, u_47_4, f_47_5, f_47_6, u_47_6, f_47_7, u_47_7, f_47_8, u_47_8, f_47_9, u_47_9, f_47_10, u_47_10, f_47_11, f_47_12, f_47_13, f_47_14, f_47_15, f_47_16, f_47_17, f_47_18, f_47_19, f_47_20, f_47_21, f_47_22, f_47_23, u_47_23, f_47_24, f_47_25, f_47_26, f_47_27, f_47_28, f_47_29, u_47_29, f_47_30, u_47_30, f_47_31, f_47_32, f_47_33, f_47_34, f_47_35, u_47_35, f_47_36, u_47_36, f_47_37, u_47_37, f_47_38, u_47_38, o_47, k1, Int32.reduceLE, md_tell, tp, Option.toList_some, Option.toList_none, List.cons_append, List.nil_append, List.append_nil, ip_on_some, true_and, and_true, if_true, if_false, not_true_eq_false, not_false_eq_true, decide_true, true_or, or_true, or_self, Bool.false_eq_true]
      exact fin 5 (by decide) hst'
    · have htot := tot_le hm.bd
      have hat := hm.at hA.s4 hA.ic
      rw [hkey] at hat
      have n0 : (0 : Int32) ≤ nI n := nI_pos' (by omega)
      have i1 : ¬ nI n < 0 := nI_pos (by omega)
      have i2 : ¬ 40 ≤ n := by omega
      subst hr
      by_cases e : s' = t
      · subst e
        simp only [s41_0, s41_1, s41_4, s41_7, s41_8, s41_9, s41_10, s41_13, s41_14, s41_17, s41_18, s41_21, s41_24, s41_25, s41_26, s41_27, s41_30, s41_31, s41_34, s41_35, s41_36, s41_37, s41_40, s41_43, s41_46, s41_47, s41_50, s41_51, s41_52, s41_53, s41_56, s41_59, s41_62, s41_63, s41_66, s41_67, s41_68, s41_69, s41_72, s41_73, s41_75, s41_76, s41_79, s41_82, s41_83, s41_86, s41_89, s41_90, s41_93, s41_94, s41_97, s41_98, s41_99, f_47_0, f_47_1, u_47_1, f_47_2, u_47_2, f_47_3, f_47_4, u_47_4, f_47_5, f_47_6, u_47_6, f_47_7, u_47_7, f_47_8, u_47_8, f_47_9, u_47_9, f_47_10, u_47_10, f_47_11, f_47_12, f_47_13, f_47_14, f_47_15, f_47_16, f_47_17, f_47_18, f_47_19, f_47_20, f_47_21, f_47_22, f_47_23, u_47_23, f_47_24, f_47_25, f_47_26, f_47_27, f_47_28, f_47_29, u_47_29, f_47_30, u_47_30, f_47_31, f_47_32, f_47_33, f_47_34, f_47_35, u_47_35, f_47_36, u_47_36, f_47_37, u_47_37, f_47_38, u_47_38, o_47, a_54, l_54, a_55, l_55, k1, n0, nI_clamp (show n < 2 ^ 31 by omega), i1, i2, hA.so, hA.nu, h.b.f, Int32.reduceLE, Option.toList_some, Option.toList_none, List.cons_append, List.nil_append, List.append_nil, ip_on_some, true_and, and_true, if_true, if_false, not_true_eq_false, not_false_eq_true, decide_true, true_or, or_true, or_self, Bool.false_eq_true]
        exact hgo i hA.ic k hkey hat.1
      · have e' : ¬ nI s' = nI t := fun z => e ((nI_eq (by have := hA.s4; omega) (by omega)).mp z)
        rw [if_pos (hat.2.2 t ht (fun z => e z.symm)), if_pos hat.2.1] at ho
        have hst' := hst (by rw [ho]; decide)
        rw [ho] at hst'
        have tp := tpos 6 (by decide)
        simp only [s41_0, s41_1, s41_4, s41_7, s41_8, s41_9, s41_10, s41_13, s41_14, s41_17, s41_18, s41_21, s41_24, s41_25, s41_26, s41_27, s41_30, s41_31, s41_34, s41_35, s41_36, s41_37, s41_40, s41_43, s41_46, s41_47, s41_50, s41_51, s41_52, s41_53, s41_56, s41_59, s41_62, s41_63, s41_66, s41_67, s41_68, s41_69, s41_72, s41_73, s41_75, s41_76, s41_79, s41_82, s41_83, s41_86, s41_89, s41_90, s41_93, s41_94, s41_97, s41_98, s41_99, f_47_0, f_47_1, u_47_1, f_47_2, u_47_2, f_47_3, f_47_4, u_47_4, f_47_5, f_47_6, u_47_6, f_47_7, u_47_7, f_47_8, u_47_8, f_47_9, u_47_9, f_47_10, u_47_10, f_47_11, f_47_12, f_47_13, f_47_14, f_47_15, f_47_16, f_47_17, f_47_18, f_47_19, f_47_20, f_47_21, f_47_22, f_47_23, u_47_23, f_47_24, f_47_25, f_47_26, f_47_27, f_47_28, f_47_29, u_47_29, f_47_30, u_47_30, f_47_31, f_47_32, f_47_33, f_47_34, f_47_35, u_47_35, f_47_36, u_47_36, f_47_37, u_47_37, f_47_38, u_47_38, o_47, a_54, l_54, a_55, l_55, k1, n0, nI_clamp (show n < 2 ^ 31 by omega), i1, i2, hA.so, e', md_tell, tp, Option.toList_some, Option.toList_none, List.cons_append, List.nil_append, List.append_nil, ip_on_some, true_and, and_true, if_true, if_false, not_true_eq_false, not_false_eq_true, decide_true, true_or, or_true, or_self, Bool.false_eq_true]
        exact fin 6 (by decide) hst'
  · have k1 : ¬ X 47 35 = 1 := by rw [h.kn]; exact k
    rw [if_neg k] at ho
    have hst' := hst (by rw [ho]; decide)
    rw [ho] at hst'
    have tp := tpos 2 (by decide)
    simp only [s41_0, s41_1, s41_4, s41_7, s41_8, s41_9, s41_10, s41_13, s41_14, s41_17, s41_18, s41_21, s41_24, s41_25, s41_26, s41_27, s41_30, s41_31, s41_34, s41_35, s41_36, s41_37, s41_40, s41_43, s41_46, s41_47, s41_50, s41_51, s41_52, s41_53, s41_56, s41_59, s41_62, s41_63, s41_66, s41_67, s41_68, s41_69, s41_72, s41_73, s41_75, s41_76, s41_79, s41_82, s41_83, s41_86, s41_89, s41_90, s41_93, s41_94, s41_97, s41_98, s41_99, f_47_0, f_47_1, u_47_1, f_47_2, u_47_2, f_47_3, f_47_4, u_47_4, f_47_5, f_47_6, u_47_6, f_47_7, u_47_7, f_47_8, u_47_8, f_47_9, u_47_9, f_47_10, u_47_10, f_47_11, f_47_12, f_47_13, f_47_14, f_47_15, f_47_16, f_47_17, f_47_18, f_47_19, f_47_20, f_47_21, f_47_22, f_47_23, u_47_23, f_47_24, f_47_25, f_47_26, f_47_27, f_47_28, f_47_29, u_47_29, f_47_30, u_47_30, f_47_31, f_47_32, f_47_33, f_47_34, f_47_35, u_47_35, f_47_36, u_47_36, f_47_37, u_47_37, f_47_38, u_47_38, o_47, h.b.f, k1, Int32.reduceLE, md_tell, tp, Option.toList_some, Option.toList_none, List.cons_append, List.nil_append, List.append_nil, ip_on_some, true_and, and_true, if_true, if_false, not_true_eq_false, not_false_eq_true, decide_true, true_or, or_true, or_self, Bool.false_eq_true]
    exact fin 2 (by decide) hst'
theorem md_newF (hf : 0 < X 47 6) {t : Int32} : ip_WP 40 0 [some (.ref 47), some (.int t)] [] (g0, fld X y, I, J) b post px ↔ post (some (.int 0)) (g0, fld X y, I, J) := by
  have hf' : ¬ X 47 6 ≤ 0 := Int32.not_le.mpr hf
  simp only [s40_0, s40_1, s40_4, s40_7, s40_8, s40_9, s40_10, s40_13, s40_14, s40_17, s40_18, s40_19, s40_20, s40_23, s40_26, s40_29, s40_30, s40_33, s40_34, s40_35, s40_36, s40_39, s40_42, s40_43, s40_44, s40_45, s40_48, s40_51, s40_54, s40_55, s40_58, s40_61, s40_62, s40_63, s40_64, s40_67, s40_70, s40_71, s40_74, s40_77, s40_78, s40_79, s40_80, s40_83, s40_84, s40_87, s40_88, s40_91, s40_92, s40_93, s40_96, s40_97, s40_100, s40_101, s40_104, s40_105, s40_106, s40_109, s40_110, s40_113, s40_114, s40_115, s40_116, s40_119, s40_120, s40_123, s40_124, s40_127, s40_128, s40_129, s40_130, s40_131, s40_134, s40_136, s40_137, s40_138, s40_139, s40_142, s40_143, s40_144, s40_145, s40_146, s40_149, s40_150, s40_151, s40_152, s40_155, s40_156, s40_157, s40_160, s40_161, s40_164, s40_165, s40_166, s40_167, s40_168, s40_169, s40_170, s40_171, s40_174, s40_175, s40_178, s40_179, s40_180, s40_181, s40_182, f_47_0, f_47_1, u_47_1, f_47_2, u_47_2, f_47_3, f_47_4, u_47_4, f_47_5, f_47_6, u_47_6, f_47_7, u_47_7, f_47_8, u_47_8, f_47_9, u_47_9, f_47_10, u_47_10, f_47_11, f_47_12, f_47_13, f_47_14, f_47_15, f_47_16, f_47_17, f_47_18, f_47_19, f_47_20, f_47_21, f_47_22, f_47_23, u_47_23, f_47_24, f_47_25, f_47_26, f_47_27, f_47_28, f_47_29, u_47_29, f_47_30, u_47_30, f_47_31, f_47_32, f_47_33, f_47_34, f_47_35, u_47_35, f_47_36, u_47_36, f_47_37, u_47_37, f_47_38, u_47_38, o_47, hf', Option.toList_some, Option.toList_none, List.cons_append, List.nil_append, List.append_nil, ip_on_some, true_and, and_true, if_true, if_false, not_true_eq_false, not_false_eq_true, decide_true, true_or, or_true, or_self, Bool.false_eq_true]
end
theorem nfi_m1 {f : Nat → Int64} {key : Int64} : ∀ m i, i + m < 2 ^ 31 → nfi f key m i = -1 → ∀ j, i ≤ j → j < i + m → ¬ f j = key := by
  intro m
  induction m with
  | zero => intro i _ _ j h1 h2; omega
  | succ m ih =>
    intro i hb h j h1 h2
    rw [nfi] at h
    by_cases q : f i = key
    · rw [if_pos q] at h
      exact absurd h (nI_nm1 (by omega))
    · rw [if_neg q] at h
      by_cases z : j = i
      · rw [z]; exact q
      · exact ih (i + 1) (by omega) h j (by omega) (by omega)
theorem told_not {Xc : Nat → Nat → Int32} {Jc : Nat → Nat → Int64} {key : Int64} (hb : Bd Xc) (h : ¬ told Xc Jc key = true) : ∀ s i, s < 4 → i < cnt Xc s → ¬ Jc (7 + 2 * s) i = key := by
  intro s i hs hi
  rw [told_iff] at h
  simp only [not_or, Decidable.not_not] at h
  have hc : s = 0 ∨ s = 1 ∨ s = 2 ∨ s = 3 := by omega
  have b0 := (hb.c s hs).2.1
  have b1 : cnt Xc s < 2 ^ 31 := by split at b0 <;> omega
  rcases hc with rfl | rfl | rfl | rfl
  · exact nfi_m1 _ 0 (by rw [Nat.zero_add]; exact b1) h.1 i (Nat.zero_le i) (by rw [Nat.zero_add]; exact hi)
  · exact nfi_m1 _ 0 (by rw [Nat.zero_add]; exact b1) h.2.1 i (Nat.zero_le i) (by rw [Nat.zero_add]; exact hi)
  · exact nfi_m1 _ 0 (by rw [Nat.zero_add]; exact b1) h.2.2.1 i (Nat.zero_le i) (by rw [Nat.zero_add]; exact hi)
  · exact nfi_m1 _ 0 (by rw [Nat.zero_add]; exact b1) h.2.2.2 i (Nat.zero_le i) (by rw [Nat.zero_add]; exact hi)
/-- the arrays behind a new name -/
def addN (I : Nat → Nat → Int32) (n0 t c0 : Nat) (a c : Int32) : Nat → Nat → Int32 := ip_up (ip_up (ip_up (ip_up (ip_up (ip_up I 52 n0 a) 53 n0 c) 54 n0 (nI t)) 55 n0 (nI c0)) 57 (12 * t + c0) (nI n0)) 56 t (nI (c0 + 1))
theorem addN_ne {I : Nat → Nat → Int32} {n0 t c0 : Nat} {a c : Int32} {k : Nat} (h : k < 52 ∨ 57 < k) : addN I n0 t c0 a c k = I k := by
  unfold addN
  rw [up1, if_neg (by omega), up1, if_neg (by omega), up1, if_neg (by omega), up1, if_neg (by omega), up1, if_neg (by omega), up1, if_neg (by omega)]
theorem MN.add {Xc Xc' : Nat → Nat → Int32} {Jc : Nat → Nat → Int64} {X X' : Nat → Nat → Int32} {I : Nat → Nat → Int32} (hm : MN Xc Jc X I) {t : Nat} (ht : t < 4) {key : Int64} {a c : Nat} (hlt : cnt Xc t < moN t) (hnew : ∀ s i, s < 4 → i < cnt Xc s → ¬ Jc (7 + 2 * s) i = key) (hnm : NmR key (slc (I 51) a c)) (hac : a ≤ c) (hcl : c ≤ 4160) (hb' : Bd Xc') (hx : ∀ s, s < 4 → cnt Xc' s = if s = t then cnt Xc t + 1 else cnt Xc s) (hX : X' 47 10 = nI (totN Xc + 1)) :
    MN Xc' (ip_up Jc (7 + 2 * t) (cnt Xc t) key) X' (addN I (totN Xc) t (cnt Xc t) (nI a) (nI c)) := by
  have hto := tot_le hm.bd
  have hmo := moN_le t
  have h12 : ∀ s i, s < 4 → i < cnt Xc s → i < 12 := fun s i hs hi => by
    have := (hm.bd.c s hs).2.1
    split at this <;> omega
  have hle : ∀ s, s < 4 → cnt Xc s ≤ cnt Xc' s := fun s hs => by
    rw [hx s hs]
    split
    · rename_i e; rw [e]; omega
    · exact Nat.le_refl _
  have htot : totN Xc' = totN Xc + 1 := by
    have h0 := hx 0 (by decide)
    have h1 := hx 1 (by decide)
    have h2 := hx 2 (by decide)
    have h3 := hx 3 (by decide)
    unfold totN
    rw [h0, h1, h2, h3]
    have hc : t = 0 ∨ t = 1 ∨ t = 2 ∨ t = 3 := by omega
    rcases hc with rfl | rfl | rfl | rfl <;> simp <;> omega
  have eJ : ∀ s i, s < 4 → i < cnt Xc s → ip_up Jc (7 + 2 * t) (cnt Xc t) key (7 + 2 * s) i = Jc (7 + 2 * s) i := fun s i hs hi => by
    rw [up1]
    by_cases e : s = t
    · subst e
      rw [if_pos rfl, updF_ap, if_neg (by omega)]
    · rw [if_neg (by omega)]
  have old : ∀ n s i p q, n < totN Xc → NmAt Xc Jc I n s i p q → NmAt Xc' (ip_up Jc (7 + 2 * t) (cnt Xc t) key) (addN I (totN Xc) t (cnt Xc t) (nI a) (nI c)) n s i p q := fun n s i p q hn hA => by
    have hi12 := h12 s i hA.s4 hA.ic
    have hne : ¬ n = totN Xc := by omega
    have hns : ¬ (12 * s + i = 12 * t + cnt Xc t) := fun e => by
      by_cases z : s = t
      · subst z; have := hA.ic; omega
      · omega
    refine ⟨hA.s4, Nat.lt_of_lt_of_le hA.ic (hle s hA.s4), ?_, ?_, ?_, ?_, hA.pq, hA.ql, ?_, ?_⟩
    · simp only [addN, up1, updF_ap, Nat.reduceEqDiff, if_false, if_true, hne]; exact hA.so
    · simp only [addN, up1, updF_ap, Nat.reduceEqDiff, if_false, if_true, hne]; exact hA.nu
    · simp only [addN, up1, updF_ap, Nat.reduceEqDiff, if_false, if_true, hne]; exact hA.fr
    · simp only [addN, up1, updF_ap, Nat.reduceEqDiff, if_false, if_true, hne]; exact hA.to
    · rw [eJ s i hA.s4 hA.ic, addN_ne (by omega)]; exact hA.nm
    · simp only [addN, up1, updF_ap, Nat.reduceEqDiff, if_false, if_true, hns]; exact hA.no
  have new : NmAt Xc' (ip_up Jc (7 + 2 * t) (cnt Xc t) key) (addN I (totN Xc) t (cnt Xc t) (nI a) (nI c)) (totN Xc) t (cnt Xc t) a c := by
    refine ⟨ht, by rw [hx t ht, if_pos rfl]; omega, ?_, ?_, ?_, ?_, hac, hcl, ?_, ?_⟩
    · simp only [addN, up1, updF_ap, Nat.reduceEqDiff, if_false, if_true]
    · simp only [addN, up1, updF_ap, Nat.reduceEqDiff, if_false, if_true]
    · simp only [addN, up1, updF_ap, Nat.reduceEqDiff, if_false, if_true]
    · simp only [addN, up1, updF_ap, Nat.reduceEqDiff, if_false, if_true]
    · rw [up1, if_pos rfl, updF_ap, if_pos rfl, addN_ne (by omega)]; exact hnm
    · simp only [addN, up1, updF_ap, Nat.reduceEqDiff, if_false, if_true]
  refine ⟨hb', ?_, by rw [hX, htot], ?_, ?_, ?_⟩
  · intro s hs
    rw [(hb'.c s hs).2.2, hx s hs]
    simp only [addN, up1, updF_ap, Nat.reduceEqDiff, if_false, if_true]
    by_cases e : s = t
    · rw [if_pos e, if_pos e]
    · rw [if_neg e, if_neg e, hm.many s hs, (hm.bd.c s hs).2.2]
  · intro n hn
    rw [htot] at hn
    by_cases e : n = totN Xc
    · exact ⟨t, cnt Xc t, a, c, by rw [e]; exact new⟩
    · obtain ⟨s, i, p, q, hA⟩ := hm.fwd n (by omega)
      exact ⟨s, i, p, q, old n s i p q (by omega) hA⟩
  · intro s i hs hi
    rw [hx s hs] at hi
    by_cases e : s = t ∧ i = cnt Xc t
    · exact ⟨totN Xc, a, c, by omega, by rw [e.1, e.2]; exact new⟩
    · have hi' : i < cnt Xc s := by
        by_cases z : s = t
        · rw [if_pos z] at hi; subst z; omega
        · rw [if_neg z] at hi; exact hi
      obtain ⟨n, p, q, hn, hA⟩ := hm.bwd s i hs hi'
      exact ⟨n, p, q, by omega, old n s i p q hn hA⟩
  · intro s i u j hs hu hi hj e
    rw [hx s hs] at hi
    rw [hx u hu] at hj
    by_cases e1 : s = t ∧ i = cnt Xc t
    · by_cases e2 : u = t ∧ j = cnt Xc t
      · exact ⟨e1.1.trans e2.1.symm, e1.2.trans e2.2.symm⟩
      · have hj' : j < cnt Xc u := by
          by_cases z : u = t
          · rw [if_pos z] at hj; subst z; omega
          · rw [if_neg z] at hj; exact hj
        rw [e1.1, e1.2, eJ u j hu hj', up1, if_pos rfl, updF_ap, if_pos rfl] at e
        exact absurd e.symm (hnew u j hu hj')
    · have hi' : i < cnt Xc s := by
        by_cases z : s = t
        · rw [if_pos z] at hi; subst z; omega
        · rw [if_neg z] at hi; exact hi
      by_cases e2 : u = t ∧ j = cnt Xc t
      · rw [e2.1, e2.2, eJ s i hs hi', up1, if_pos rfl, updF_ap, if_pos rfl] at e
        exact absurd e (hnew s i hs hi')
      · have hj' : j < cnt Xc u := by
          by_cases z : u = t
          · rw [if_pos z] at hj; subst z; omega
          · rw [if_neg z] at hj; exact hj
        rw [eJ s i hs hi', eJ u j hu hj'] at e
        exact hm.uni s i u j hs hu hi' hj' e
