/-! the model's newName -/
/-- what newName leaves alone -/
abbrev MFN (X X' : Nat → Nat → Int32) (I I' : Nat → Nat → Int32) : Prop := (∀ k, k ≠ 47 → X' k = X k) ∧ (∀ j, j ≠ 6 → j ≠ 7 → j ≠ 10 → j ≠ 35 → j ≠ 36 → j ≠ 37 → j ≠ 38 → X' 47 j = X 47 j) ∧ (∀ a, a < 52 ∨ 57 < a → I' a = I a) ∧ (X' 47 6 = 0 → X 47 6 = 0 ∧ X' 47 7 = X 47 7)
theorem MFN.c {X X' : Nat → Nat → Int32} {I I' : Nat → Nat → Int32} (h : MFN X X' I I') : ∀ k, k ≠ 47 → X' k = X k := h.1
theorem MFN.j {X X' : Nat → Nat → Int32} {I I' : Nat → Nat → Int32} (h : MFN X X' I I') : ∀ j, j ≠ 6 → j ≠ 7 → j ≠ 10 → j ≠ 35 → j ≠ 36 → j ≠ 37 → j ≠ 38 → X' 47 j = X 47 j := h.2.1
theorem MFN.a {X X' : Nat → Nat → Int32} {I I' : Nat → Nat → Int32} (h : MFN X X' I I') : ∀ a, a < 52 ∨ 57 < a → I' a = I a := h.2.2.1
theorem MFN.p {X X' : Nat → Nat → Int32} {I I' : Nat → Nat → Int32} (h : MFN X X' I I') : X' 47 6 = 0 → X 47 6 = 0 ∧ X' 47 7 = X 47 7 := h.2.2.2
theorem MF.toN {X X' : Nat → Nat → Int32} {I : Nat → Nat → Int32} (h : MF X X') : MFN X X' I I := ⟨h.c, fun j h1 h2 _ h3 h4 h5 h6 => h.j j h1 h2 h3 h4 h5 h6, fun _ _ => rfl, h.p⟩
theorem cn_nI1 {x : Int32} (h : 0 ≤ x) (hb : x.toNatClampNeg + 1 < 2 ^ 31) : (x + 1).toNatClampNeg = x.toNatClampNeg + 1 := by
  have e := cn_eq h
  generalize hc : x.toNatClampNeg = c at e hb
  rw [show x = nI c from by rw [← hc]; exact cn_eq h, nI_1]
  exact nI_clamp hb
section
variable {N : Nat} {s : SS} {X : Nat → Nat → Int32} {y : Int64} {I : Nat → Nat → Int32} {J : Nat → Nat → Int64} {b : ip_B} {post : Option Value → ip_H → Prop} {px : String → ip_H → Prop}
theorem md_new (h : LR N s X I) (hm : MN s.1 s.2.2.2 X I) (h5 : ¬ s.1 32 5 = -1) {t : Nat} (ht : t < 4) (hst : takeS s = rNew (X1S s) s.2.1 s.2.2.1 s.2.2.2 (6 + 2 * t) (moI t))
    (hft : ∀ X' I' r, MFN X X' I I' → (r = 0 ∨ (r = nI (cnt s.1 t) ∧ cnt s.1 t < moN t)) → FT (out1 N s) X' → post (some (.int r)) (g0, fld X' y, I', J))
    (hgo : ∀ X' I', MFN X X' I I' → (takeS s).1 = 0 → LR N (advS (nexS s)) X' I' → MN (nexS s).1 (nexS s).2.2.2 X' I' → cnt s.1 t < moN t → (∀ u, u < 4 → cnt (nexS s).1 u = if u = t then cnt s.1 t + 1 else cnt s.1 u) → s.1 33 3 = 2 → post (some (.int (nI (cnt s.1 t)))) (g0, fld X' y, I', J)) : ip_WP 40 0 [some (.ref 47), some (.int (nI t))] [] (g0, fld X y, I, J) b post px := by
  have hN := h.b.rv.l
  have hq := h.b.rv.q
  have hbt := hm.bd.c t ht
  have hmo := moN_le t
  have hto := tot_le hm.bd
  have hc0 : cnt s.1 t ≤ moN t := hbt.2.1
  have i1 : ¬ nI t < 0 := nI_pos (by omega)
  have i2 : ¬ 4 ≤ t := by omega
  have hmany : I 56 t = nI (cnt s.1 t) := by rw [hm.many t ht]; exact hbt.2.2
  have hmost : (if nI t < 2 then 12 else 8) = moI t := by
    have hc : t = 0 ∨ t = 1 ∨ t = 2 ∨ t = 3 := by omega
    rcases hc with rfl | rfl | rfl | rfl <;> decide
  have fin : ∀ r : Int32, 0 < r → (takeS s).1 = r → post (some (.int 0)) (g0, fld (tellX X r (X 47 36)) y, I, J) := fun r hr e => hft _ _ _ (MF.refl.tell (ne0 hr)).toN (Or.inl rfl) (h.tell (fun z => h5 z.2) e hr)
  have tpos : ∀ r : Int32, 0 < r → ¬ (tellX X r (X 47 36)) 47 6 ≤ 0 := fun r hr => by
    unfold tellX
    rw [if_neg (by rw [h.b.f]; decide), up47, if_neg (by decide), up47, if_pos rfl]
    exact Int32.not_le.mpr hr
  have e33 : X1S s 33 3 = s.1 33 3 := by rw [x1_ne (by decide)]
  have ec : X1S s (6 + 2 * t) 1 = nI (cnt s.1 t) := by rw [x1_ne (by omega)]; exact hbt.2.2
  unfold rNew at hst
  rw [e33, ec, told_x1, moI_eq] at hst
  by_cases k : s.1 33 3 = 2
  · have k1 : X 47 35 = 1 := by rw [h.kn]; exact k
    rw [if_pos k] at hst
    by_cases full : cnt s.1 t = moN t
    · rw [if_pos (by rw [full]; exact Int32.le_refl _)] at hst
      have tp := tpos 3 (by decide)
      have hf : nI (cnt s.1 t) = nI (moN t) := by rw [full]
      simp only [s40_0, s40_1, s40_4, s40_7, s40_8, s40_9, s40_10, s40_13, s40_14, s40_17, s40_18, s40_19, s40_20, s40_23, s40_26, s40_29, s40_30, s40_33, s40_34, s40_35, s40_36, s40_39, s40_42, s40_43, s40_44, s40_45, s40_48, s40_51, s40_54, s40_55, s40_58, s40_61, s40_62, s40_63, s40_64, s40_67, s40_70, s40_71, s40_74, s40_77, s40_78, s40_79, s40_80, s40_83, s40_84, s40_87, s40_88, s40_91, s40_92, s40_93, s40_96, s40_97, s40_100, s40_101, s40_104, s40_105, s40_106, s40_109, s40_110, s40_113, s40_114, s40_115, s40_116, s40_119, s40_120, s40_123, s40_124, s40_127, s40_128, s40_129, s40_130, s40_131, s40_134, s40_136, s40_137, s40_138, s40_139, s40_142, s40_143, s40_144, s40_145, s40_146, s40_149, s40_150, s40_151, s40_152, s40_155, s40_156, s40_157, s40_160, s40_161, s40_164, s40_165, s40_166, s40_167, s40_168, s40_169, s40_170, s40_171, s40_174, s40_175, s40_178, s40_179, s40_180, s40_181, s40_182, f_47_0, f_47_1, u_47_1, f_47_2, u_47_2, f_47_3, f_47_4, u_47_4, f_47_5, f_47_6, u_47_6, f_47_7, u_47_7, f_47_8, u_47_8, f_47_9, u_47_9, f_47_10, u_47_10, f_47_11, f_47_12, f_47_13, f_47_14, f_47_15, f_47_16, f_47_17, f_47_18, f_47_19, f_47_20, f_47_21, f_47_22, f_47_23, u_47_23, f_47_24, f_47_25, f_47_26, f_47_27, f_47_28, f_47_29, u_47_29, f_47_30, u_47_30, f_47_31, f_47_32, f_47_33, f_47_34, f_47_35, u_47_35, f_47_36, u_47_36, f_47_37, u_47_37, f_47_38, u_47_38, o_47, a_56, l_56, h.b.f, k1, nI_clamp (show t < 2 ^ 31 by omega), i1, i2, hmany, md_most, hmost, moI_eq, hf, Int32.reduceLE, md_tell, tp, Option.toList_some, Option.toList_none, List.cons_append, List.nil_append, List.append_nil, ip_on_some, true_and, and_true, if_true, if_false, not_true_eq_false, not_false_eq_true, decide_true, true_or, or_true, or_self, Bool.false_eq_true]
      exact fin 3 (by decide) (by rw [hst])
    · have hnf : ¬ nI (moN t) ≤ nI (cnt s.1 t) := nI_ge (by omega) (by omega)
      have hnf2 : ¬ nI (cnt s.1 t) = nI (moN t) := fun z => full ((nI_eq (by omega) (by omega)).mp z)
      rw [if_neg hnf] at hst
      simp only [s40_0, s40_1, s40_4, s40_7, s40_8, s40_9, s40_10, s40_13, s40_14, s40_17, s40_18, s40_19, s40_20, s40_23, s40_26, s40_29, s40_30, s40_33, s40_34, s40_35, s40_36, s40_39, s40_42, s40_43, s40_44, s40_45, s40_48, s40_51, s40_54, s40_55, s40_58, s40_61, s40_62, s40_63, s40_64, s40_67, s40_70, s40_71, s40_74, s40_77, s40_78, s40_79, s40_80, s40_83, s40_84, s40_87, s40_88, s40_91, s40_92, s40_93, s40_96, s40_97, s40_100, s40_101, s40_104, s40_105, s40_106, s40_109, s40_110, s40_113, s40_114, s40_115, s40_116, s40_119, s40_120, s40_123, s40_124, s40_127, s40_128, s40_129, s40_130, s40_131, s40_134, s40_136, s40_137, s40_138, s40_139, s40_142, s40_143, s40_144, s40_145, s40_146, s40_149, s40_150, s40_151, s40_152, s40_155, s40_156, s40_157, s40_160, s40_161, s40_164, s40_165, s40_166, s40_167, s40_168, s40_169, s40_170, s40_171, s40_174, s40_175, s40_178, s40_179, s40_180, s40_181, s40_182, f_47_0, f_47_1, u_47_1, f_47_2, u_47_2, f_47_3, f_47_4, u_47_4, f_47_5, f_47_6, u_47_6, f_47_7, u_47_7, f_47_8, u_47_8, f_47_9, u_47_9, f_47_10, u_47_10, f_47_11, f_47_12, f_47_13, f_47_14, f_47_15, f_47_16, f_47_17, f_47_18, f_47_19, f_47_20, f_47_21, f_47_22, f_47_23, u_47_23, f_47_24, f_47_25, f_47_26, f_47_27, f_47_28, f_47_29, u_47_29, f_47_30, u_47_30, f_47_31, f_47_32, f_47_33, f_47_34, f_47_35, u_47_35, f_47_36, u_47_36, f_47_37, u_47_37, f_47_38, u_47_38, o_47, a_56, l_56, h.b.f, k1, nI_clamp (show t < 2 ^ 31 by omega), i1, i2, hmany, md_most, hmost, moI_eq, hnf2, Int32.reduceLE, Option.toList_some, Option.toList_none, List.cons_append, List.nil_append, List.append_nil, ip_on_some, true_and, and_true, if_true, if_false, not_true_eq_false, not_false_eq_true, decide_true, true_or, or_true, or_self, Bool.false_eq_true]
      refine md_find hm h.ml.fr h.ml.to h.ple (by show (s.1 33 2).toNatClampNeg ≤ 4160; omega) (h.nm k) (fun r hr => ?_)
      rcases hr with ⟨hr, hno⟩ | ⟨n, s', i, p, q, hr, hn, hA, hkey⟩
      · have hno' := MN.no hno
        rw [if_neg hno'.2] at hst
        have ht0 : (takeS s).1 = 0 := by rw [hst]
        subst hr
        have n1 : ¬ nI (totN s.1) < 0 := nI_pos (by omega)
        have n2 : ¬ 40 ≤ totN s.1 := by
          have h0 := (hm.bd.c 0 (by decide)).2.1
          have h1 := (hm.bd.c 1 (by decide)).2.1
          have h2 := (hm.bd.c 2 (by decide)).2.1
          have h3 := (hm.bd.c 3 (by decide)).2.1
          simp only [Nat.reduceLT, if_true, if_false] at h0 h1 h2 h3
          unfold totN
          have hc : t = 0 ∨ t = 1 ∨ t = 2 ∨ t = 3 := by omega
          unfold moN at full hc0
          rcases hc with rfl | rfl | rfl | rfl <;> simp at full hc0 <;> omega
        have n3 : ¬ nI (12 * t + cnt s.1 t) < 0 := nI_pos (by omega)
        have n4 : ¬ 48 ≤ 12 * t + cnt s.1 t := by
          unfold moN at full hc0
          have hc : t = 0 ∨ t = 1 ∨ t = 2 ∨ t = 3 := by omega
          rcases hc with rfl | rfl | rfl | rfl <;> simp at full hc0 <;> omega
        have e12 : (12 : Int32) * nI t + nI (cnt s.1 t) = nI (12 * t + cnt s.1 t) := by
          have hc : t = 0 ∨ t = 1 ∨ t = 2 ∨ t = 3 := by omega
          have : (12 : Int32) * nI t = nI (12 * t) := by rcases hc with rfl | rfl | rfl | rfl <;> decide
          rw [this, nI_add]
        have e47 : X 47 36 = nI ((s.1 33 4).toNatClampNeg) := h.ml.fr
        have e48 : X 47 37 = nI ((s.1 33 2).toNatClampNeg) := h.ml.to
        -- the state behind the stores
        have hLR : LR N s (ip_up X 47 10 (nI (totN s.1 + 1))) (addN I (totN s.1) t (cnt s.1 t) (nI ((s.1 33 4).toNatClampNeg)) (nI ((s.1 33 2).toNatClampNeg))) := h.of (fun j hj => by rw [up47, if_neg (by omega)]) (addN_ne (by omega)) (addN_ne (by omega))
        have hnex : nexS s = (ip_up (ip_up (X1S s) (6 + 2 * t) 1 (nI (cnt s.1 t) + 1)) 32 7 (nI (cnt s.1 t)), s.2.1, s.2.2.1, ip_up s.2.2.2 (6 + 2 * t + 1) ((nI (cnt s.1 t)).toNatClampNeg) s.2.1) := by
          unfold nexS
          rw [hst]
        have ecn : (nI (cnt s.1 t)).toNatClampNeg = cnt s.1 t := nI_clamp (by omega)
        have hx : ∀ u, u < 4 → cnt (nexS s).1 u = if u = t then cnt s.1 t + 1 else cnt s.1 u := fun u hu => by
          rw [hnex]
          show (ip_up (ip_up (X1S s) (6 + 2 * t) 1 (nI (cnt s.1 t) + 1)) 32 7 (nI (cnt s.1 t)) (6 + 2 * u) 1).toNatClampNeg = _
          rw [up1, if_neg (by omega), up1]
          by_cases e : u = t
          · rw [if_pos (by omega), if_pos e, updF_ap, if_pos rfl, nI_1]
            exact nI_clamp (by omega)
          · rw [if_neg (by omega), if_neg e, x1_ne (by omega)]
            rfl
        have hbd' : Bd (nexS s).1 := (h.b.rv.nex).b
        have hadd := hm.add (Xc' := (nexS s).1) (X' := ip_up X 47 10 (nI (totN s.1 + 1))) ht (key := s.2.1) (a := (s.1 33 4).toNatClampNeg) (c := (s.1 33 2).toNatClampNeg) (by omega) hno (h.nm k) h.ple (by omega) hbd' hx (by rw [up47, if_pos rfl])
        have hJ : (nexS s).2.2.2 = ip_up s.2.2.2 (7 + 2 * t) (cnt s.1 t) s.2.1 := by
          rw [hnex]
          show ip_up s.2.2.2 (6 + 2 * t + 1) ((nI (cnt s.1 t)).toNatClampNeg) s.2.1 = _
          rw [ecn, show 6 + 2 * t + 1 = 7 + 2 * t from by omega]
        simp only [s40_0, s40_1, s40_4, s40_7, s40_8, s40_9, s40_10, s40_13, s40_14, s40_17, s40_18, s40_19, s40_20, s40_23, s40_26, s40_29, s40_30, s40_33, s40_34, s40_35, s40_36, s40_39, s40_42, s40_43, s40_44, s40_45, s40_48, s40_51, s40_54, s40_55, s40_58, s40_61, s40_62, s40_63, s40_64, s40_67, s40_70, s40_71, s40_74, s40_77, s40_78, s40_79, s40_80, s40_83, s40_84, s40_87, s40_88, s40_91, s40_92, s40_93, s40_96, s40_97, s40_100, s40_101, s40_104, s40_105, s40_106, s40_109, s40_110, s40_113, s40_114, s40_115, s40_116, s40_119, s40_120, s40_123, s40_124, s40_127, s40_128, s40_129, s40_130, s40_131, s40_134, s40_136, s40_137, s40_138, s40_139, s40_142, s40_143, s40_144, s40_145, s40_146, s40_149, s40_150, s40_151, s40_152, s40_155, s40_156, s40_157, s40_160, s40_161, s40_164, s40_165, s40_166, s40_167, s40_168, s40_169, s40_170, s40_171, s40_174, s40_175, s40_178, s40_179, s40_180, s40_181, s40_182, f_47_0, f_47_1, u_47_1, f_47_2, u_47_2, f_47_3, f_47_4, u_47_4, f_47_5, f_47_6, u_47_6, f_47_7, u_47_7, f_47_8, u_47_8, f_47_9, u_47_9, f_47_10, u_47_10, f_47_11, f_47_12, f_47_13, f_47_14, f_47_15, f_47_16, f_47_17, f_47_18, f_47_19, f_47_20, f_47_21, f_47_22, f_47_23, u_47_23, f_47_24, f_47_25, f_47_26, f_47_27, f_47_28, f_47_29, u_47_29, f_47_30, u_47_30, f_47_31, f_47_32, f_47_33, f_47_34, f_47_35, u_47_35, f_47_36, u_47_36, f_47_37, u_47_37, f_47_38, u_47_38, o_47, a_52, l_52, a_53, l_53, a_54, l_54, a_55, l_55, a_56, l_56, a_57, l_57, h.b.f, hm.tot, e47, e48, nI_clamp (show t < 2 ^ 31 by omega), nI_clamp (show totN s.1 < 2 ^ 31 by omega), nI_clamp (show 12 * t + cnt s.1 t < 2 ^ 31 by omega), i1, i2, n1, n2, n3, n4, up1, updF_ap, up47, Nat.reduceEqDiff, hmany, e12, nI_1, Int32.reduceLE, Int32.reduceLT, Option.toList_some, Option.toList_none, List.cons_append, List.nil_append, List.append_nil, ip_on_some, true_and, and_true, if_true, if_false, not_true_eq_false, not_false_eq_true, decide_true, true_or, or_true, or_self, Bool.false_eq_true]
        show ip_WP _ _ _ _ (g0, fld (ip_up X 47 10 (nI (totN s.1 + 1))) y, addN I (totN s.1) t (cnt s.1 t) (nI ((s.1 33 4).toNatClampNeg)) (nI ((s.1 33 2).toNatClampNeg)), J) _ _ _
        refine md_goR hLR ht0 (fun X' mf hr => ?_)
        have e56 : addN I (totN s.1) t (cnt s.1 t) (nI ((s.1 33 4).toNatClampNeg)) (nI ((s.1 33 2).toNatClampNeg)) 56 t = nI (cnt s.1 t + 1) := by
          unfold addN
          rw [up1, if_pos rfl, updF_ap, if_pos rfl]
        simp only [s40_0, s40_1, s40_4, s40_7, s40_8, s40_9, s40_10, s40_13, s40_14, s40_17, s40_18, s40_19, s40_20, s40_23, s40_26, s40_29, s40_30, s40_33, s40_34, s40_35, s40_36, s40_39, s40_42, s40_43, s40_44, s40_45, s40_48, s40_51, s40_54, s40_55, s40_58, s40_61, s40_62, s40_63, s40_64, s40_67, s40_70, s40_71, s40_74, s40_77, s40_78, s40_79, s40_80, s40_83, s40_84, s40_87, s40_88, s40_91, s40_92, s40_93, s40_96, s40_97, s40_100, s40_101, s40_104, s40_105, s40_106, s40_109, s40_110, s40_113, s40_114, s40_115, s40_116, s40_119, s40_120, s40_123, s40_124, s40_127, s40_128, s40_129, s40_130, s40_131, s40_134, s40_136, s40_137, s40_138, s40_139, s40_142, s40_143, s40_144, s40_145, s40_146, s40_149, s40_150, s40_151, s40_152, s40_155, s40_156, s40_157, s40_160, s40_161, s40_164, s40_165, s40_166, s40_167, s40_168, s40_169, s40_170, s40_171, s40_174, s40_175, s40_178, s40_179, s40_180, s40_181, s40_182, f_47_0, f_47_1, u_47_1, f_47_2, u_47_2, f_47_3, f_47_4, u_47_4, f_47_5, f_47_6, u_47_6, f_47_7, u_47_7, f_47_8, u_47_8, f_47_9, u_47_9, f_47_10, u_47_10, f_47_11, f_47_12, f_47_13, f_47_14, f_47_15, f_47_16, f_47_17, f_47_18, f_47_19, f_47_20, f_47_21, f_47_22, f_47_23, u_47_23, f_47_24, f_47_25, f_47_26, f_47_27, f_47_28, f_47_29, u_47_29, f_47_30, u_47_30, f_47_31, f_47_32, f_47_33, f_47_34, f_47_35, u_47_35, f_47_36, u_47_36, f_47_37, u_47_37, f_47_38, u_47_38, o_47, a_56, l_56, nI_clamp (show t < 2 ^ 31 by omega), i1, i2, e56, nI_pred, Option.toList_some, Option.toList_none, List.cons_append, List.nil_append, List.append_nil, ip_on_some, true_and, and_true, if_true, if_false, not_true_eq_false, not_false_eq_true, decide_true, true_or, or_true, or_self, Bool.false_eq_true]
        have mfn : MFN X X' I (addN I (totN s.1) t (cnt s.1 t) (nI ((s.1 33 4).toNatClampNeg)) (nI ((s.1 33 2).toNatClampNeg))) := ⟨fun k hk => by rw [mf.c k hk, up1, if_neg hk], fun j h1 h2 h10 h3 h4 h5 h6 => by rw [mf.j j h1 h2 h3 h4 h5 h6, up47, if_neg h10], fun a ha => addN_ne ha, fun z => by
          obtain ⟨z1, z2⟩ := mf.p z
          rw [up47, if_neg (by decide)] at z1 z2
          exact ⟨z1, z2⟩⟩
        rcases hr with hr | ⟨_, hr⟩
        · exact hft _ _ _ mfn (Or.inr ⟨rfl, by omega⟩) hr
        · refine hgo _ _ mfn ht0 hr ?_ (by omega) hx k
          rw [hJ]
          exact ⟨hadd.bd, hadd.many, by rw [mf.j 10 (by decide) (by decide) (by decide) (by decide) (by decide) (by decide)]; exact hadd.tot, hadd.fwd, hadd.bwd, hadd.uni⟩
      · have hat := hm.at hA.s4 hA.ic
        rw [hkey] at hat
        rw [if_pos hat.2.1] at hst
        have n0 : ¬ nI n < 0 := nI_pos (by omega)
        have tp := tpos 4 (by decide)
        subst hr
        simp only [s40_0, s40_1, s40_4, s40_7, s40_8, s40_9, s40_10, s40_13, s40_14, s40_17, s40_18, s40_19, s40_20, s40_23, s40_26, s40_29, s40_30, s40_33, s40_34, s40_35, s40_36, s40_39, s40_42, s40_43, s40_44, s40_45, s40_48, s40_51, s40_54, s40_55, s40_58, s40_61, s40_62, s40_63, s40_64, s40_67, s40_70, s40_71, s40_74, s40_77, s40_78, s40_79, s40_80, s40_83, s40_84, s40_87, s40_88, s40_91, s40_92, s40_93, s40_96, s40_97, s40_100, s40_101, s40_104, s40_105, s40_106, s40_109, s40_110, s40_113, s40_114, s40_115, s40_116, s40_119, s40_120, s40_123, s40_124, s40_127, s40_128, s40_129, s40_130, s40_131, s40_134, s40_136, s40_137, s40_138, s40_139, s40_142, s40_143, s40_144, s40_145, s40_146, s40_149, s40_150, s40_151, s40_152, s40_155, s40_156, s40_157, s40_160, s40_161, s40_164, s40_165, s40_166, s40_167, s40_168, s40_169, s40_170, s40_171, s40_174, s40_175, s40_178, s40_179, s40_180, s40_181, s40_182, f_47_0, f_47_1, u_47_1, f_47_2, u_47_2, f_47_3, f_47_4, u_47_4, f_47_5, f_47_6, u_47_6, f_47_7, u_47_7, f_47_8, u_47_8, f_47_9, u_47_9, f_47_10, u_47_10, f_47_11, f_47_12, f_47_13, f_47_14, f_47_15, f_47_16, f_47_17, f_47_18, f_47_19, f_47_20, f_47_21, f_47_22, f_47_23, u_47_23, f_47_24, f_47_25, f_47_26, f_47_27, f_47_28, f_47_29, u_47_29, f_47_30, u_47_30, f_47_31, f_47_32, f_47_33, f_47_34, f_47_35, u_47_35, f_47_36, u_47_36, f_47_37, u_47_37, f_47_38, u_47_38, o_47, n0, md_tell, tp, Option.toList_some, Option.toList_none, List.cons_append, List.nil_append, List.append_nil, ip_on_some, true_and, and_true, if_true, if_false, not_true_eq_false, not_false_eq_true, decide_true, true_or, or_true, or_self, Bool.false_eq_true]
        exact fin 4 (by decide) (by rw [hst])
  · have k1 : ¬ X 47 35 = 1 := by rw [h.kn]; exact k
    rw [if_neg k] at hst
    have tp := tpos 2 (by decide)
    simp only [s40_0, s40_1, s40_4, s40_7, s40_8, s40_9, s40_10, s40_13, s40_14, s40_17, s40_18, s40_19, s40_20, s40_23, s40_26, s40_29, s40_30, s40_33, s40_34, s40_35, s40_36, s40_39, s40_42, s40_43, s40_44, s40_45, s40_48, s40_51, s40_54, s40_55, s40_58, s40_61, s40_62, s40_63, s40_64, s40_67, s40_70, s40_71, s40_74, s40_77, s40_78, s40_79, s40_80, s40_83, s40_84, s40_87, s40_88, s40_91, s40_92, s40_93, s40_96, s40_97, s40_100, s40_101, s40_104, s40_105, s40_106, s40_109, s40_110, s40_113, s40_114, s40_115, s40_116, s40_119, s40_120, s40_123, s40_124, s40_127, s40_128, s40_129, s40_130, s40_131, s40_134, s40_136, s40_137, s40_138, s40_139, s40_142, s40_143, s40_144, s40_145, s40_146, s40_149, s40_150, s40_151, s40_152, s40_155, s40_156, s40_157, s40_160, s40_161, s40_164, s40_165, s40_166, s40_167, s40_168, s40_169, s40_170, s40_171, s40_174, s40_175, s40_178, s40_179, s40_180, s40_181, s40_182, f_47_0, f_47_1, u_47_1, f_47_2, u_47_2, f_47_3, f_47_4, u_47_4, f_47_5, f_47_6, u_47_6, f_47_7, u_47_7, f_47_8, u_47_8, f_47_9, u_47_9, f_47_10, u_47_10, f_47_11, f_47_12, f_47_13, f_47_14, f_47_15, f_47_16, f_47_17, f_47_18, f_47_19, f_47_20, f_47_21, f_47_22, f_47_23, u_47_23, f_47_24, f_47_25, f_47_26, f_47_27, f_47_28, f_47_29, u_47_29, f_47_30, u_47_30, f_47_31, f_47_32, f_47_33, f_47_34, f_47_35, u_47_35, f_47_36, u_47_36, f_47_37, u_47_37, f_47_38, u_47_38, o_47, h.b.f, k1, Int32.reduceLE, md_tell, tp, Option.toList_some, Option.toList_none, List.cons_append, List.nil_append, List.append_nil, ip_on_some, true_and, and_true, if_true, if_false, not_true_eq_false, not_false_eq_true, decide_true, true_or, or_true, or_self, Bool.false_eq_true]
    exact fin 2 (by decide) (by rw [hst])
end
