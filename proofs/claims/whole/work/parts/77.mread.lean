/-! the model reads -/
theorem mk_end {k : Int32} (h : KD k) : (mKind k = 0) = (k = 1) := by
  refine propext ⟨fun e => ?_, fun e => by rw [e]; decide⟩
  rcases h with h | h | h | h | ⟨w, hw, h⟩
  · exact h
  · rw [h] at e; exact absurd e (by decide)
  · rw [h] at e; exact absurd e (by decide)
  · rcases h with h | h | h | h | h <;> rw [h] at e <;> exact absurd e (by decide)
  · rw [h, (w_tab w hw).1] at e
    exact absurd e (by decide)
theorem rn_bd {N : Nat} : ∀ (m : Nat) (s : SS), Rv N s → Bd (rn m s).1 := by
  intro m
  induction m with
  | zero => intro s h; exact h.b
  | succ m ih =>
    intro s h
    show Bd (rn1 (rn m) (advS s)).1
    unfold rn1
    split
    · exact h.adv.b
    · split
      · exact ih _ h.adv.nex
      · show Bd (coX (ip_up (ip_up (nexS (advS s)).1 32 3 _) 32 4 _))
        exact ((h.adv.nex.b.u32 _ _).u32 _ _).co
theorem MV.arr {Xc Ic X X' I I' : Nat → Nat → Int32} {ld qd pd : Nat} (h : MV Xc Ic X I ld qd pd) (h23 : X' 47 23 = X 47 23) (hI : ∀ a, 57 < a → a < 68 → I' a = I a) : MV Xc Ic X' I' ld qd pd := by
  refine ⟨by rw [h23]; exact h.pt, ?_, ?_, ?_, ?_, ?_, ?_, ?_, h.qn, ?_, h.prx, h.ln⟩
  · rw [hI 60 (by decide) (by decide)]; exact h.res
  · rw [hI 58 (by decide) (by decide)]; exact h.lat
  · rw [hI 59 (by decide) (by decide)]; exact h.hla
  · rw [hI 61 (by decide) (by decide)]; exact h.stl
  · rw [hI 62 (by decide) (by decide)]; exact h.doe
  · rw [hI 63 (by decide) (by decide), hI 64 (by decide) (by decide)]; exact h.pth
  · rw [hI 65 (by decide) (by decide), hI 66 (by decide) (by decide)]; exact h.que
  · rw [hI 67 (by decide) (by decide)]; exact h.prt
/-- what the model's reading leaves: Out is the class's end -/
abbrev RR (Out : SS) (X I X' I' : Nat → Nat → Int32) (r : Int32) : Prop := (∀ k, k ≠ 47 → X' k = X k) ∧ (X' 47 4 = X 47 4) ∧ (X' 47 2 = 0) ∧ (∀ a, a < 51 ∨ 71 < a → I' a = I a) ∧ (MN Out.1 Out.2.2.2 X' I') ∧ (MVf Out.1 Out.2.2.1 X' I') ∧ (X' 47 9 = Out.1 5 14) ∧ (FL X' I' 47 29 68 69 (errs Out.1 Out.2.2.1)) ∧ (FL X' I' 47 30 70 71 (rems Out.1 Out.2.2.1)) ∧ (X' 47 6 = Out.1 32 3) ∧ (X' 47 7 = Out.1 32 4) ∧ ((Out.1 32 3 = 0 ∧ X' 47 1 = 0 ∧ r = Out.1 5 14) ∨ (0 < Out.1 32 3 ∧ X' 47 1 = 1 ∧ r = 0))
theorem RR.c {Out : SS} {X I X' I' : Nat → Nat → Int32} {r : Int32} (h : RR Out X I X' I' r) : ∀ k, k ≠ 47 → X' k = X k := h.1
theorem RR.x4 {Out : SS} {X I X' I' : Nat → Nat → Int32} {r : Int32} (h : RR Out X I X' I' r) : X' 47 4 = X 47 4 := h.2.1
theorem RR.x2 {Out : SS} {X I X' I' : Nat → Nat → Int32} {r : Int32} (h : RR Out X I X' I' r) : X' 47 2 = 0 := h.2.2.1
theorem RR.a {Out : SS} {X I X' I' : Nat → Nat → Int32} {r : Int32} (h : RR Out X I X' I' r) : ∀ a, a < 51 ∨ 71 < a → I' a = I a := h.2.2.2.1
theorem RR.mn {Out : SS} {X I X' I' : Nat → Nat → Int32} {r : Int32} (h : RR Out X I X' I' r) : MN Out.1 Out.2.2.2 X' I' := h.2.2.2.2.1
theorem RR.mv {Out : SS} {X I X' I' : Nat → Nat → Int32} {r : Int32} (h : RR Out X I X' I' r) : MVf Out.1 Out.2.2.1 X' I' := h.2.2.2.2.2.1
theorem RR.n9 {Out : SS} {X I X' I' : Nat → Nat → Int32} {r : Int32} (h : RR Out X I X' I' r) : X' 47 9 = Out.1 5 14 := h.2.2.2.2.2.2.1
theorem RR.er {Out : SS} {X I X' I' : Nat → Nat → Int32} {r : Int32} (h : RR Out X I X' I' r) : FL X' I' 47 29 68 69 (errs Out.1 Out.2.2.1) := h.2.2.2.2.2.2.2.1
theorem RR.re {Out : SS} {X I X' I' : Nat → Nat → Int32} {r : Int32} (h : RR Out X I X' I' r) : FL X' I' 47 30 70 71 (rems Out.1 Out.2.2.1) := h.2.2.2.2.2.2.2.2.1
theorem RR.f6 {Out : SS} {X I X' I' : Nat → Nat → Int32} {r : Int32} (h : RR Out X I X' I' r) : X' 47 6 = Out.1 32 3 := h.2.2.2.2.2.2.2.2.2.1
theorem RR.f7 {Out : SS} {X I X' I' : Nat → Nat → Int32} {r : Int32} (h : RR Out X I X' I' r) : X' 47 7 = Out.1 32 4 := h.2.2.2.2.2.2.2.2.2.2.1
theorem RR.o {Out : SS} {X I X' I' : Nat → Nat → Int32} {r : Int32} (h : RR Out X I X' I' r) : (Out.1 32 3 = 0 ∧ X' 47 1 = 0 ∧ r = Out.1 5 14) ∨ (0 < Out.1 32 3 ∧ X' 47 1 = 1 ∧ r = 0) := h.2.2.2.2.2.2.2.2.2.2.2
section
variable {N : Nat} {y : Int64} {J : Nat → Nat → Int64} {b : ip_B} {post : Option Value → ip_H → Prop} {px : String → ip_H → Prop}
theorem md_loop {x1 : Int32} : ∀ (k : Nat) (s : SS) (X I : Nat → Nat → Int32), N + 1 - (s.1 33 2).toNatClampNeg ≤ k → LR N s X I → MN s.1 s.2.2.2 X I → MVf s.1 s.2.2.1 X I → s.1 32 5 = -1 → X 47 9 = s.1 5 14 →
    (∀ X' I', FS X X' I I' → FT (out1 N s) X' → ip_WP 54 90 [some (.ref 47), some (.int x1)] [] (g0, fld X' y, I', J) b post px) →
    (∀ X' I' t, FS X X' I I' → LR N t X' I' → MN t.1 t.2.2.2 X' I' → MVf t.1 t.2.2.1 X' I' → out1 N s = t → X' 47 9 = t.1 5 14 → ip_WP 54 90 [some (.ref 47), some (.int x1)] [] (g0, fld X' y, I', J) b post px) →
    ip_WP 54 69 [some (.ref 47), some (.int x1)] [] (g0, fld X y, I, J) b post px := by
  intro k
  have fin : ∀ (s : SS) (X I : Nat → Nat → Int32), LR N s X I → s.1 33 3 = 1 → ip_WP 54 90 [some (.ref 47), some (.int x1)] [] (g0, fld X y, I, J) b post px → ip_WP 54 69 [some (.ref 47), some (.int x1)] [] (g0, fld X y, I, J) b post px := by
    intro s X I h e hg
    have hkd : X 47 35 = mKind (s.1 33 3) := h.ml.kd
    have k0 : X 47 35 = 0 := by rw [hkd, e]; decide
    rw [s54_69]
    simp only [s54_0, s54_1, s54_2, s54_5, s54_6, s54_9, s54_10, s54_11, s54_14, s54_15, s54_16, s54_19, s54_20, s54_21, s54_24, s54_27, s54_28, s54_30, s54_31, s54_34, s54_37, s54_38, s54_41, s54_42, s54_43, s54_46, s54_47, s54_48, s54_49, s54_52, s54_55, s54_56, s54_57, s54_60, s54_61, s54_62, s54_65, s54_66, s54_70, s54_73, s54_76, s54_77, s54_80, s54_83, s54_84, s54_87, s54_91, s54_94, s54_97, s54_98, s54_101, s54_102, s54_103, s54_106, s54_107, s54_108, s54_111, s54_112, s54_115, s54_116, s54_119, f_47_0, f_47_1, u_47_1, f_47_2, u_47_2, f_47_3, f_47_4, u_47_4, f_47_5, f_47_6, u_47_6, f_47_7, u_47_7, f_47_8, u_47_8, f_47_9, u_47_9, f_47_10, u_47_10, f_47_11, f_47_12, f_47_13, f_47_14, f_47_15, f_47_16, f_47_17, f_47_18, f_47_19, f_47_20, f_47_21, f_47_22, f_47_23, u_47_23, f_47_24, f_47_25, f_47_26, f_47_27, f_47_28, f_47_29, u_47_29, f_47_30, u_47_30, f_47_31, f_47_32, f_47_33, f_47_34, f_47_35, u_47_35, f_47_36, u_47_36, f_47_37, u_47_37, f_47_38, u_47_38, o_47, h.b.f, k0, Option.toList_some, Option.toList_none, List.cons_append, List.nil_append, List.append_nil, ip_on_some, true_and, and_true, if_true, if_false, not_true_eq_false, not_false_eq_true, decide_true, true_or, or_true, or_self, Bool.false_eq_true]
    exact hg
  induction k with
  | zero =>
    intro s X I hm h
    have := h.b.rv.q
    omega
  | succ k ih =>
    intro s X I hme h hm hv h5 h9 hft hfi
    by_cases e : s.1 33 3 = 1
    · exact fin s X I h e (hfi X I s FS.refl h hm hv (out1_end e h5) h9)
    · have hkd : X 47 35 = mKind (s.1 33 3) := h.ml.kd
      have k0 : ¬ X 47 35 = 0 := by rw [hkd, mk_end h.kd]; exact e
      rw [s54_69]
      simp only [s54_0, s54_1, s54_2, s54_5, s54_6, s54_9, s54_10, s54_11, s54_14, s54_15, s54_16, s54_19, s54_20, s54_21, s54_24, s54_27, s54_28, s54_30, s54_31, s54_34, s54_37, s54_38, s54_41, s54_42, s54_43, s54_46, s54_47, s54_48, s54_49, s54_52, s54_55, s54_56, s54_57, s54_60, s54_61, s54_62, s54_65, s54_66, s54_70, s54_73, s54_76, s54_77, s54_80, s54_83, s54_84, s54_87, s54_91, s54_94, s54_97, s54_98, s54_101, s54_102, s54_103, s54_106, s54_107, s54_108, s54_111, s54_112, s54_115, s54_116, s54_119, f_47_0, f_47_1, u_47_1, f_47_2, u_47_2, f_47_3, f_47_4, u_47_4, f_47_5, f_47_6, u_47_6, f_47_7, u_47_7, f_47_8, u_47_8, f_47_9, u_47_9, f_47_10, u_47_10, f_47_11, f_47_12, f_47_13, f_47_14, f_47_15, f_47_16, f_47_17, f_47_18, f_47_19, f_47_20, f_47_21, f_47_22, f_47_23, u_47_23, f_47_24, f_47_25, f_47_26, f_47_27, f_47_28, f_47_29, u_47_29, f_47_30, u_47_30, f_47_31, f_47_32, f_47_33, f_47_34, f_47_35, u_47_35, f_47_36, u_47_36, f_47_37, u_47_37, f_47_38, u_47_38, o_47, h.b.f, k0, Option.toList_some, Option.toList_none, List.cons_append, List.nil_append, List.append_nil, ip_on_some, true_and, and_true, if_true, if_false, not_true_eq_false, not_false_eq_true, decide_true, true_or, or_true, or_self, Bool.false_eq_true]
      refine md_stm h hm hv h5 e h9 (fun X' I' fs hF => ?_) (fun X' I' s2 fs hL hMN hMV ho e5 e9 hg => ?_)
      · simp only [s54_0, s54_1, s54_2, s54_5, s54_6, s54_9, s54_10, s54_11, s54_14, s54_15, s54_16, s54_19, s54_20, s54_21, s54_24, s54_27, s54_28, s54_30, s54_31, s54_34, s54_37, s54_38, s54_41, s54_42, s54_43, s54_46, s54_47, s54_48, s54_49, s54_52, s54_55, s54_56, s54_57, s54_60, s54_61, s54_62, s54_65, s54_66, s54_70, s54_73, s54_76, s54_77, s54_80, s54_83, s54_84, s54_87, s54_91, s54_94, s54_97, s54_98, s54_101, s54_102, s54_103, s54_106, s54_107, s54_108, s54_111, s54_112, s54_115, s54_116, s54_119, f_47_0, f_47_1, u_47_1, f_47_2, u_47_2, f_47_3, f_47_4, u_47_4, f_47_5, f_47_6, u_47_6, f_47_7, u_47_7, f_47_8, u_47_8, f_47_9, u_47_9, f_47_10, u_47_10, f_47_11, f_47_12, f_47_13, f_47_14, f_47_15, f_47_16, f_47_17, f_47_18, f_47_19, f_47_20, f_47_21, f_47_22, f_47_23, u_47_23, f_47_24, f_47_25, f_47_26, f_47_27, f_47_28, f_47_29, u_47_29, f_47_30, u_47_30, f_47_31, f_47_32, f_47_33, f_47_34, f_47_35, u_47_35, f_47_36, u_47_36, f_47_37, u_47_37, f_47_38, u_47_38, o_47, Option.toList_some, Option.toList_none, List.cons_append, List.nil_append, List.append_nil, ip_on_some, true_and, and_true, if_true, if_false, not_true_eq_false, not_false_eq_true, decide_true, true_or, or_true, or_self, Bool.false_eq_true]
        rw [s54_69]
        simp only [s54_0, s54_1, s54_2, s54_5, s54_6, s54_9, s54_10, s54_11, s54_14, s54_15, s54_16, s54_19, s54_20, s54_21, s54_24, s54_27, s54_28, s54_30, s54_31, s54_34, s54_37, s54_38, s54_41, s54_42, s54_43, s54_46, s54_47, s54_48, s54_49, s54_52, s54_55, s54_56, s54_57, s54_60, s54_61, s54_62, s54_65, s54_66, s54_70, s54_73, s54_76, s54_77, s54_80, s54_83, s54_84, s54_87, s54_91, s54_94, s54_97, s54_98, s54_101, s54_102, s54_103, s54_106, s54_107, s54_108, s54_111, s54_112, s54_115, s54_116, s54_119, f_47_0, f_47_1, u_47_1, f_47_2, u_47_2, f_47_3, f_47_4, u_47_4, f_47_5, f_47_6, u_47_6, f_47_7, u_47_7, f_47_8, u_47_8, f_47_9, u_47_9, f_47_10, u_47_10, f_47_11, f_47_12, f_47_13, f_47_14, f_47_15, f_47_16, f_47_17, f_47_18, f_47_19, f_47_20, f_47_21, f_47_22, f_47_23, u_47_23, f_47_24, f_47_25, f_47_26, f_47_27, f_47_28, f_47_29, u_47_29, f_47_30, u_47_30, f_47_31, f_47_32, f_47_33, f_47_34, f_47_35, u_47_35, f_47_36, u_47_36, f_47_37, u_47_37, f_47_38, u_47_38, o_47, ne0 hF.pos, Option.toList_some, Option.toList_none, List.cons_append, List.nil_append, List.append_nil, ip_on_some, true_and, and_true, if_true, if_false, not_true_eq_false, not_false_eq_true, decide_true, true_or, or_true, or_self, Bool.false_eq_true]
        exact hft X' I' fs hF
      · simp only [s54_0, s54_1, s54_2, s54_5, s54_6, s54_9, s54_10, s54_11, s54_14, s54_15, s54_16, s54_19, s54_20, s54_21, s54_24, s54_27, s54_28, s54_30, s54_31, s54_34, s54_37, s54_38, s54_41, s54_42, s54_43, s54_46, s54_47, s54_48, s54_49, s54_52, s54_55, s54_56, s54_57, s54_60, s54_61, s54_62, s54_65, s54_66, s54_70, s54_73, s54_76, s54_77, s54_80, s54_83, s54_84, s54_87, s54_91, s54_94, s54_97, s54_98, s54_101, s54_102, s54_103, s54_106, s54_107, s54_108, s54_111, s54_112, s54_115, s54_116, s54_119, f_47_0, f_47_1, u_47_1, f_47_2, u_47_2, f_47_3, f_47_4, u_47_4, f_47_5, f_47_6, u_47_6, f_47_7, u_47_7, f_47_8, u_47_8, f_47_9, u_47_9, f_47_10, u_47_10, f_47_11, f_47_12, f_47_13, f_47_14, f_47_15, f_47_16, f_47_17, f_47_18, f_47_19, f_47_20, f_47_21, f_47_22, f_47_23, u_47_23, f_47_24, f_47_25, f_47_26, f_47_27, f_47_28, f_47_29, u_47_29, f_47_30, u_47_30, f_47_31, f_47_32, f_47_33, f_47_34, f_47_35, u_47_35, f_47_36, u_47_36, f_47_37, u_47_37, f_47_38, u_47_38, o_47, Option.toList_some, Option.toList_none, List.cons_append, List.nil_append, List.append_nil, ip_on_some, true_and, and_true, if_true, if_false, not_true_eq_false, not_false_eq_true, decide_true, true_or, or_true, or_self, Bool.false_eq_true]
        by_cases e2 : s2.1 33 3 = 1
        · exact fin s2 X' I' hL e2 (hfi X' I' s2 fs hL hMN hMV (by rw [← ho]; exact out1_end e2 e5) e9)
        · have := hg e2
          refine ih s2 X' I' (by omega) hL hMN hMV e5 e9 (fun X2 I2 fs2 hF => ?_) (fun X2 I2 t fs2 hL2 hMN2 hMV2 ho2 e92 => ?_)
          · rw [ho] at hF
            exact hft X2 I2 (fs.trans fs2) hF
          · exact hfi X2 I2 t (fs.trans fs2) hL2 hMN2 hMV2 (by rw [← ho]; exact ho2) e92
theorem md_read {X I X0 I0 : Nat → Nat → Int32} {J0 : Nat → Nat → Int64} (hb : Bd X0) (hN : N ≤ 4160) (hn : X0 1 1 = nI N) (h2 : X 47 2 = nI N) (htx : ∀ j, j < N → I 49 j = txt I0 j) (hwc : WC I) (hwk : WK (J0 35))
    (hk : ∀ X' I' r, RR (outS N (beg X0 I0 J0)) X I X' I' r → post (some (.int r)) (g0, fld X' y, I', J)) : ip_WP 54 0 [some (.ref 47), none] [] (g0, fld X y, I, J) b post px := by
  have hrv : Rv N (beg X0 I0 J0) := Rv.beg I0 J0 hb hN hn
  have hcl : Clr (beg X0 I0 J0).1 (beg X0 I0 J0).2.2.1 := Clr.of (Clr.co hb.co) (fun k hk => rbX_ne (by omega) (by omega))
  generalize hOut : outS N (beg X0 I0 J0) = Out at hk
  have hobd : Bd Out.1 := by rw [← hOut]; exact rn_bd _ _ hrv
  simp only [s54_0, s54_1, s54_2, s54_5, s54_6, s54_9, s54_10, s54_11, s54_14, s54_15, s54_16, s54_19, s54_20, s54_21, s54_24, s54_27, s54_28, s54_30, s54_31, s54_34, s54_37, s54_38, s54_41, s54_42, s54_43, s54_46, s54_47, s54_48, s54_49, s54_52, s54_55, s54_56, s54_57, s54_60, s54_61, s54_62, s54_65, s54_66, s54_70, s54_73, s54_76, s54_77, s54_80, s54_83, s54_84, s54_87, s54_91, s54_94, s54_97, s54_98, s54_101, s54_102, s54_103, s54_106, s54_107, s54_108, s54_111, s54_112, s54_115, s54_116, s54_119, f_47_0, f_47_1, u_47_1, f_47_2, u_47_2, f_47_3, f_47_4, u_47_4, f_47_5, f_47_6, u_47_6, f_47_7, u_47_7, f_47_8, u_47_8, f_47_9, u_47_9, f_47_10, u_47_10, f_47_11, f_47_12, f_47_13, f_47_14, f_47_15, f_47_16, f_47_17, f_47_18, f_47_19, f_47_20, f_47_21, f_47_22, f_47_23, u_47_23, f_47_24, f_47_25, f_47_26, f_47_27, f_47_28, f_47_29, u_47_29, f_47_30, u_47_30, f_47_31, f_47_32, f_47_33, f_47_34, f_47_35, u_47_35, f_47_36, u_47_36, f_47_37, u_47_37, f_47_38, u_47_38, o_47, Option.toList_some, Option.toList_none, List.cons_append, List.nil_append, List.append_nil, ip_on_some, true_and, and_true, if_true, if_false, not_true_eq_false, not_false_eq_true, decide_true, true_or, or_true, or_self, Bool.false_eq_true]
  refine md_forget (Jc := J0) hcl (fun X1 I1 fg hMN1 hMV1 e9 hF1 hF2 => ?_)
  have x2 : X1 47 2 = nI N := by rw [fg.j 2 (by decide) (by decide) (by decide) (by decide) (by decide), up47, if_neg (by decide)]; exact h2
  have x1 : X1 47 1 = 0 := by rw [fg.j 1 (by decide) (by decide) (by decide) (by decide) (by decide), up47, if_pos rfl]
  have x4 : X1 47 4 = X 47 4 := by rw [fg.j 4 (by decide) (by decide) (by decide) (by decide) (by decide), up47, if_neg (by decide)]
  have xc : ∀ k, k ≠ 47 → X1 k = X k := fun k hk => by rw [fg.c k hk, up1, if_neg hk]
  have i48 : I1 48 = I 48 := fg.a 48 (by decide) (by decide) (by decide) (by decide) (by decide) (by decide) (by decide) (by decide) (by decide) (by decide)
  have i49 : I1 49 = I 49 := fg.a 49 (by decide) (by decide) (by decide) (by decide) (by decide) (by decide) (by decide) (by decide) (by decide) (by decide)
  simp only [s54_0, s54_1, s54_2, s54_5, s54_6, s54_9, s54_10, s54_11, s54_14, s54_15, s54_16, s54_19, s54_20, s54_21, s54_24, s54_27, s54_28, s54_30, s54_31, s54_34, s54_37, s54_38, s54_41, s54_42, s54_43, s54_46, s54_47, s54_48, s54_49, s54_52, s54_55, s54_56, s54_57, s54_60, s54_61, s54_62, s54_65, s54_66, s54_70, s54_73, s54_76, s54_77, s54_80, s54_83, s54_84, s54_87, s54_91, s54_94, s54_97, s54_98, s54_101, s54_102, s54_103, s54_106, s54_107, s54_108, s54_111, s54_112, s54_115, s54_116, s54_119, f_47_0, f_47_1, u_47_1, f_47_2, u_47_2, f_47_3, f_47_4, u_47_4, f_47_5, f_47_6, u_47_6, f_47_7, u_47_7, f_47_8, u_47_8, f_47_9, u_47_9, f_47_10, u_47_10, f_47_11, f_47_12, f_47_13, f_47_14, f_47_15, f_47_16, f_47_17, f_47_18, f_47_19, f_47_20, f_47_21, f_47_22, f_47_23, u_47_23, f_47_24, f_47_25, f_47_26, f_47_27, f_47_28, f_47_29, u_47_29, f_47_30, u_47_30, f_47_31, f_47_32, f_47_33, f_47_34, f_47_35, u_47_35, f_47_36, u_47_36, f_47_37, u_47_37, f_47_38, u_47_38, o_47, x2, up47, Nat.reduceEqDiff, Option.toList_some, Option.toList_none, List.cons_append, List.nil_append, List.append_nil, ip_on_some, true_and, and_true, if_true, if_false, not_true_eq_false, not_false_eq_true, decide_true, true_or, or_true, or_self, Bool.false_eq_true]
  generalize hX3 : ip_up (ip_up (ip_up X1 47 6 0) 47 7 0) 47 8 (nI N) = X3
  have y2 : X3 47 2 = nI N := by rw [← hX3]; simp [up47, x2]
  have rest : ∀ A : Nat → Nat → Int32, (∀ j, j < N → A 51 j = I 49 j) → (∀ a, a ≠ 51 → A a = I1 a) → ip_WP 54 55 [some (.ref 47), some (.int (nI N))] [] (g0, fld X3 y, A, J) b post px := by
    intro A hA hAn
    simp only [s54_0, s54_1, s54_2, s54_5, s54_6, s54_9, s54_10, s54_11, s54_14, s54_15, s54_16, s54_19, s54_20, s54_21, s54_24, s54_27, s54_28, s54_30, s54_31, s54_34, s54_37, s54_38, s54_41, s54_42, s54_43, s54_46, s54_47, s54_48, s54_49, s54_52, s54_55, s54_56, s54_57, s54_60, s54_61, s54_62, s54_65, s54_66, s54_70, s54_73, s54_76, s54_77, s54_80, s54_83, s54_84, s54_87, s54_91, s54_94, s54_97, s54_98, s54_101, s54_102, s54_103, s54_106, s54_107, s54_108, s54_111, s54_112, s54_115, s54_116, s54_119, f_47_0, f_47_1, u_47_1, f_47_2, u_47_2, f_47_3, f_47_4, u_47_4, f_47_5, f_47_6, u_47_6, f_47_7, u_47_7, f_47_8, u_47_8, f_47_9, u_47_9, f_47_10, u_47_10, f_47_11, f_47_12, f_47_13, f_47_14, f_47_15, f_47_16, f_47_17, f_47_18, f_47_19, f_47_20, f_47_21, f_47_22, f_47_23, u_47_23, f_47_24, f_47_25, f_47_26, f_47_27, f_47_28, f_47_29, u_47_29, f_47_30, u_47_30, f_47_31, f_47_32, f_47_33, f_47_34, f_47_35, u_47_35, f_47_36, u_47_36, f_47_37, u_47_37, f_47_38, u_47_38, o_47, Option.toList_some, Option.toList_none, List.cons_append, List.nil_append, List.append_nil, ip_on_some, true_and, and_true, if_true, if_false, not_true_eq_false, not_false_eq_true, decide_true, true_or, or_true, or_self, Bool.false_eq_true]
    generalize hX4 : ip_up (ip_up X3 47 2 0) 47 37 0 = X4
    have z6 : X4 47 6 = 0 := by rw [← hX4, ← hX3]; simp [up47]
    have z7 : X4 47 7 = 0 := by rw [← hX4, ← hX3]; simp [up47]
    have z8 : X4 47 8 = nI N := by rw [← hX4, ← hX3]; simp [up47]
    have z37 : X4 47 37 = 0 := by rw [← hX4, ← hX3]; simp [up47]
    have z2 : X4 47 2 = 0 := by rw [← hX4, ← hX3]; simp [up47]
    have zj : ∀ j, j ≠ 6 → j ≠ 7 → j ≠ 8 → j ≠ 2 → j ≠ 37 → X4 47 j = X1 47 j := fun j h1 h2 h3 h4 h5 => by
      rw [← hX4, up47, if_neg h5, up47, if_neg h4, ← hX3, up47, if_neg h3, up47, if_neg h2, up47, if_neg h1]
    have zc : ∀ k, k ≠ 47 → X4 k = X k := fun k hk => by
      rw [← hX4, up1, if_neg hk, up1, if_neg hk, ← hX3, up1, if_neg hk, up1, if_neg hk, up1, if_neg hk, xc k hk]
    have hLB : LB N (beg X0 I0 J0) X4 A := by
      refine ⟨hrv, z8, ?_, z6, ?_, ?_, hwk⟩
      · intro j hj
        rw [hA j hj, htx j hj]
        show txt I0 j = txt (coI I0) j
        unfold txt
        simp [coI, rclr]
      · rw [z37]
        show (0 : Int32) = rbX (coX X0) 33 2
        simp [rbX, bgX, up1, updF_ap]
      · unfold WC
        rw [hAn 48 (by decide), i48]
        exact hwc
    have hMNA : MN (beg X0 I0 J0).1 (beg X0 I0 J0).2.2.2 X4 A := by
      refine hcl.mn (fun s hs => ?_) ?_
      · rw [hAn 56 (by decide)]
        exact (hMN1.many s hs).trans (hcl.c s hs)
      · rw [zj 10 (by decide) (by decide) (by decide) (by decide) (by decide), hMN1.tot]
        unfold totN cnt
        rw [hcl.c 0 (by decide), hcl.c 1 (by decide), hcl.c 2 (by decide), hcl.c 3 (by decide)]
        rfl
    have hMVA : MVf (beg X0 I0 J0).1 (beg X0 I0 J0).2.2.1 X4 A := MV.arr hMV1 (zj 23 (by decide) (by decide) (by decide) (by decide) (by decide)) (fun a h1 h2 => hAn a (by omega))
    -- behind the loop
    have fail : ∀ (X' I' : Nat → Nat → Int32), FS X4 X' A I' → FT Out X' → ip_WP 54 90 [some (.ref 47), some (.int (nI N))] [] (g0, fld X' y, I', J) b post px := by
      intro X' I' fs hF
      obtain ⟨t, r, hO, hr, f6, f7⟩ := id hF
      have o1 : Out.1 = coX (ip_up (ip_up t.1 32 3 r) 32 4 (t.1 33 4)) := by rw [hO]; rfl
      have oI : Out.2.2.1 = coI t.2.2.1 := by rw [hO]; rfl
      have hclo : Clr Out.1 Out.2.2.1 := by
        rw [o1] at hobd
        rw [o1, oI]
        exact Clr.co hobd
      have o3 : Out.1 32 3 = r := by rw [o1, coX_ne (by decide) (by decide) (by decide) (by decide) (by decide)]; simp [up1, updF_ap]
      have o4 : Out.1 32 4 = t.1 33 4 := by rw [o1, coX_ne (by decide) (by decide) (by decide) (by decide) (by decide)]; simp [up1, updF_ap]
      simp only [s54_0, s54_1, s54_2, s54_5, s54_6, s54_9, s54_10, s54_11, s54_14, s54_15, s54_16, s54_19, s54_20, s54_21, s54_24, s54_27, s54_28, s54_30, s54_31, s54_34, s54_37, s54_38, s54_41, s54_42, s54_43, s54_46, s54_47, s54_48, s54_49, s54_52, s54_55, s54_56, s54_57, s54_60, s54_61, s54_62, s54_65, s54_66, s54_70, s54_73, s54_76, s54_77, s54_80, s54_83, s54_84, s54_87, s54_90, s54_91, s54_94, s54_97, s54_98, s54_101, s54_102, s54_103, s54_106, s54_107, s54_108, s54_111, s54_112, s54_115, s54_116, s54_119, f_47_0, f_47_1, u_47_1, f_47_2, u_47_2, f_47_3, f_47_4, u_47_4, f_47_5, f_47_6, u_47_6, f_47_7, u_47_7, f_47_8, u_47_8, f_47_9, u_47_9, f_47_10, u_47_10, f_47_11, f_47_12, f_47_13, f_47_14, f_47_15, f_47_16, f_47_17, f_47_18, f_47_19, f_47_20, f_47_21, f_47_22, f_47_23, u_47_23, f_47_24, f_47_25, f_47_26, f_47_27, f_47_28, f_47_29, u_47_29, f_47_30, u_47_30, f_47_31, f_47_32, f_47_33, f_47_34, f_47_35, u_47_35, f_47_36, u_47_36, f_47_37, u_47_37, f_47_38, u_47_38, o_47, c0F hF.pos, Option.toList_some, Option.toList_none, List.cons_append, List.nil_append, List.append_nil, ip_on_some, true_and, and_true, if_true, if_false, not_true_eq_false, not_false_eq_true, decide_true, true_or, or_true, or_self, Bool.false_eq_true]
      refine md_forget (Jc := Out.2.2.2) hclo (fun X5 I5 fg5 hMN5 hMV5 e95 hF51 hF52 => ?_)
      simp only [s54_0, s54_1, s54_2, s54_5, s54_6, s54_9, s54_10, s54_11, s54_14, s54_15, s54_16, s54_19, s54_20, s54_21, s54_24, s54_27, s54_28, s54_30, s54_31, s54_34, s54_37, s54_38, s54_41, s54_42, s54_43, s54_46, s54_47, s54_48, s54_49, s54_52, s54_55, s54_56, s54_57, s54_60, s54_61, s54_62, s54_65, s54_66, s54_70, s54_73, s54_76, s54_77, s54_80, s54_83, s54_84, s54_87, s54_90, s54_91, s54_94, s54_97, s54_98, s54_101, s54_102, s54_103, s54_106, s54_107, s54_108, s54_111, s54_112, s54_115, s54_116, s54_119, f_47_0, f_47_1, u_47_1, f_47_2, u_47_2, f_47_3, f_47_4, u_47_4, f_47_5, f_47_6, u_47_6, f_47_7, u_47_7, f_47_8, u_47_8, f_47_9, u_47_9, f_47_10, u_47_10, f_47_11, f_47_12, f_47_13, f_47_14, f_47_15, f_47_16, f_47_17, f_47_18, f_47_19, f_47_20, f_47_21, f_47_22, f_47_23, u_47_23, f_47_24, f_47_25, f_47_26, f_47_27, f_47_28, f_47_29, u_47_29, f_47_30, u_47_30, f_47_31, f_47_32, f_47_33, f_47_34, f_47_35, u_47_35, f_47_36, u_47_36, f_47_37, u_47_37, f_47_38, u_47_38, o_47, md_fail, Option.toList_some, Option.toList_none, List.cons_append, List.nil_append, List.append_nil, ip_on_some, true_and, and_true, if_true, if_false, not_true_eq_false, not_false_eq_true, decide_true, true_or, or_true, or_self, Bool.false_eq_true]
      have j5 : ∀ j, j ≠ 9 → j ≠ 10 → j ≠ 23 → j ≠ 29 → j ≠ 30 → X5 47 j = X' 47 j := fun j => fg5.j j
      refine hk _ _ _ ⟨?_, ?_, ?_, ?_, ?_, ?_, ?_, ?_, ?_, ?_, ?_, ?_⟩
      · intro k hk
        rw [up1, if_neg hk, fg5.c k hk, fs.c k hk, zc k hk]
      · rw [up47, if_neg (by decide), j5 4 (by decide) (by decide) (by decide) (by decide) (by decide), fs.j 4 (by decide) (by decide) (by decide) (by decide) (by decide) (by decide) (by decide) (by decide) (by decide), zj 4 (by decide) (by decide) (by decide) (by decide) (by decide), x4]
      · rw [up47, if_neg (by decide), j5 2 (by decide) (by decide) (by decide) (by decide) (by decide), fs.j 2 (by decide) (by decide) (by decide) (by decide) (by decide) (by decide) (by decide) (by decide) (by decide), z2]
      · intro a ha
        rw [fg5.a a (by omega) (by omega) (by omega) (by omega) (by omega) (by omega) (by omega) (by omega) (by omega) (by omega), fs.a a (by omega), hAn a (by omega), fg.a a (by omega) (by omega) (by omega) (by omega) (by omega) (by omega) (by omega) (by omega) (by omega) (by omega)]
      · exact hMN5.fr (by rw [up47, if_neg (by decide)]) (fun _ _ _ => rfl)
      · exact MV.arr hMV5 (by rw [up47, if_neg (by decide)]) (fun _ _ _ => rfl)
      · rw [up47, if_neg (by decide), e95, hclo.n]
      · exact ⟨by rw [up47, if_neg (by decide)]; exact hF51.s, hF51.g⟩
      · exact ⟨by rw [up47, if_neg (by decide)]; exact hF52.s, hF52.g⟩
      · rw [up47, if_neg (by decide), j5 6 (by decide) (by decide) (by decide) (by decide) (by decide), f6, o3]
      · rw [up47, if_neg (by decide), j5 7 (by decide) (by decide) (by decide) (by decide) (by decide), f7, o4]
      · exact Or.inr ⟨by rw [o3]; exact hr, by rw [up47, if_pos rfl], rfl⟩
    have fine : ∀ (X' I' : Nat → Nat → Int32) (t : SS), FS X4 X' A I' → LR N t X' I' → MN t.1 t.2.2.2 X' I' → MVf t.1 t.2.2.1 X' I' → Out = t → X' 47 9 = t.1 5 14 → ip_WP 54 90 [some (.ref 47), some (.int (nI N))] [] (g0, fld X' y, I', J) b post px := by
      intro X' I' t fs hL hMN hMV ho h9
      subst ho
      have f0 : X' 47 6 = 0 := hL.b.f
      simp only [s54_0, s54_1, s54_2, s54_5, s54_6, s54_9, s54_10, s54_11, s54_14, s54_15, s54_16, s54_19, s54_20, s54_21, s54_24, s54_27, s54_28, s54_30, s54_31, s54_34, s54_37, s54_38, s54_41, s54_42, s54_43, s54_46, s54_47, s54_48, s54_49, s54_52, s54_55, s54_56, s54_57, s54_60, s54_61, s54_62, s54_65, s54_66, s54_70, s54_73, s54_76, s54_77, s54_80, s54_83, s54_84, s54_87, s54_90, s54_91, s54_94, s54_97, s54_98, s54_101, s54_102, s54_103, s54_106, s54_107, s54_108, s54_111, s54_112, s54_115, s54_116, s54_119, f_47_0, f_47_1, u_47_1, f_47_2, u_47_2, f_47_3, f_47_4, u_47_4, f_47_5, f_47_6, u_47_6, f_47_7, u_47_7, f_47_8, u_47_8, f_47_9, u_47_9, f_47_10, u_47_10, f_47_11, f_47_12, f_47_13, f_47_14, f_47_15, f_47_16, f_47_17, f_47_18, f_47_19, f_47_20, f_47_21, f_47_22, f_47_23, u_47_23, f_47_24, f_47_25, f_47_26, f_47_27, f_47_28, f_47_29, u_47_29, f_47_30, u_47_30, f_47_31, f_47_32, f_47_33, f_47_34, f_47_35, u_47_35, f_47_36, u_47_36, f_47_37, u_47_37, f_47_38, u_47_38, o_47, f0, Int32.reduceLE, Option.toList_some, Option.toList_none, List.cons_append, List.nil_append, List.append_nil, ip_on_some, true_and, and_true, if_true, if_false, not_true_eq_false, not_false_eq_true, decide_true, true_or, or_true, or_self, Bool.false_eq_true]
      refine md_errors hMN hMV (fun h hC => ?_)
      obtain ⟨X5, I5, rfl, hF5, hc5, hj5, hI5⟩ := hC
      have hMN5 : MN Out.1 Out.2.2.2 X5 I5 := hMN.fr (hj5 10 (by decide)) (fun a h1 h2 => hI5 a (by omega) (by omega))
      have hMV5 : MVf Out.1 Out.2.2.1 X5 I5 := MV.arr hMV (hj5 23 (by decide)) (fun a h1 h2 => hI5 a (by omega) (by omega))
      simp only [s54_0, s54_1, s54_2, s54_5, s54_6, s54_9, s54_10, s54_11, s54_14, s54_15, s54_16, s54_19, s54_20, s54_21, s54_24, s54_27, s54_28, s54_30, s54_31, s54_34, s54_37, s54_38, s54_41, s54_42, s54_43, s54_46, s54_47, s54_48, s54_49, s54_52, s54_55, s54_56, s54_57, s54_60, s54_61, s54_62, s54_65, s54_66, s54_70, s54_73, s54_76, s54_77, s54_80, s54_83, s54_84, s54_87, s54_90, s54_91, s54_94, s54_97, s54_98, s54_101, s54_102, s54_103, s54_106, s54_107, s54_108, s54_111, s54_112, s54_115, s54_116, s54_119, f_47_0, f_47_1, u_47_1, f_47_2, u_47_2, f_47_3, f_47_4, u_47_4, f_47_5, f_47_6, u_47_6, f_47_7, u_47_7, f_47_8, u_47_8, f_47_9, u_47_9, f_47_10, u_47_10, f_47_11, f_47_12, f_47_13, f_47_14, f_47_15, f_47_16, f_47_17, f_47_18, f_47_19, f_47_20, f_47_21, f_47_22, f_47_23, u_47_23, f_47_24, f_47_25, f_47_26, f_47_27, f_47_28, f_47_29, u_47_29, f_47_30, u_47_30, f_47_31, f_47_32, f_47_33, f_47_34, f_47_35, u_47_35, f_47_36, u_47_36, f_47_37, u_47_37, f_47_38, u_47_38, o_47, Option.toList_some, Option.toList_none, List.cons_append, List.nil_append, List.append_nil, ip_on_some, true_and, and_true, if_true, if_false, not_true_eq_false, not_false_eq_true, decide_true, true_or, or_true, or_self, Bool.false_eq_true]
      refine md_remarks hMN5 hMV5 (fun h hC => ?_)
      obtain ⟨X6, I6, rfl, hF6, hc6, hj6, hI6⟩ := hC
      have hj : ∀ j, j ≠ 29 → j ≠ 30 → X6 47 j = X' 47 j := fun j h1 h2 => by rw [hj6 j h2, hj5 j h1]
      have hI : ∀ a, a < 68 ∨ 71 < a → I6 a = I' a := fun a ha => by rw [hI6 a (by omega) (by omega), hI5 a (by omega) (by omega)]
      simp only [s54_0, s54_1, s54_2, s54_5, s54_6, s54_9, s54_10, s54_11, s54_14, s54_15, s54_16, s54_19, s54_20, s54_21, s54_24, s54_27, s54_28, s54_30, s54_31, s54_34, s54_37, s54_38, s54_41, s54_42, s54_43, s54_46, s54_47, s54_48, s54_49, s54_52, s54_55, s54_56, s54_57, s54_60, s54_61, s54_62, s54_65, s54_66, s54_70, s54_73, s54_76, s54_77, s54_80, s54_83, s54_84, s54_87, s54_90, s54_91, s54_94, s54_97, s54_98, s54_101, s54_102, s54_103, s54_106, s54_107, s54_108, s54_111, s54_112, s54_115, s54_116, s54_119, f_47_0, f_47_1, u_47_1, f_47_2, u_47_2, f_47_3, f_47_4, u_47_4, f_47_5, f_47_6, u_47_6, f_47_7, u_47_7, f_47_8, u_47_8, f_47_9, u_47_9, f_47_10, u_47_10, f_47_11, f_47_12, f_47_13, f_47_14, f_47_15, f_47_16, f_47_17, f_47_18, f_47_19, f_47_20, f_47_21, f_47_22, f_47_23, u_47_23, f_47_24, f_47_25, f_47_26, f_47_27, f_47_28, f_47_29, u_47_29, f_47_30, u_47_30, f_47_31, f_47_32, f_47_33, f_47_34, f_47_35, u_47_35, f_47_36, u_47_36, f_47_37, u_47_37, f_47_38, u_47_38, o_47, hj 9 (by decide) (by decide), h9, Option.toList_some, Option.toList_none, List.cons_append, List.nil_append, List.append_nil, ip_on_some, true_and, and_true, if_true, if_false, not_true_eq_false, not_false_eq_true, decide_true, true_or, or_true, or_self, Bool.false_eq_true]
      refine hk _ _ _ ⟨?_, ?_, ?_, ?_, ?_, ?_, ?_, ?_, hF6, ?_, ?_, ?_⟩
      · intro k hk
        rw [hc6 k hk, hc5 k hk, fs.c k hk, zc k hk]
      · rw [hj 4 (by decide) (by decide), fs.j 4 (by decide) (by decide) (by decide) (by decide) (by decide) (by decide) (by decide) (by decide) (by decide), zj 4 (by decide) (by decide) (by decide) (by decide) (by decide), x4]
      · rw [hj 2 (by decide) (by decide), fs.j 2 (by decide) (by decide) (by decide) (by decide) (by decide) (by decide) (by decide) (by decide) (by decide), z2]
      · intro a ha
        rw [hI a (by omega), fs.a a (by omega), hAn a (by omega), fg.a a (by omega) (by omega) (by omega) (by omega) (by omega) (by omega) (by omega) (by omega) (by omega) (by omega)]
      · exact hMN5.fr (hj6 10 (by decide)) (fun a h1 h2 => hI6 a (by omega) (by omega))
      · exact MV.arr hMV5 (hj6 23 (by decide)) (fun a h1 h2 => hI6 a (by omega) (by omega))
      · rw [hj 9 (by decide) (by decide), h9]
      · exact ⟨by rw [hj6 29 (by decide)]; exact hF5.s, by rw [hI6 68 (by decide) (by decide), hI6 69 (by decide) (by decide)]; exact hF5.g⟩
      · rw [hj 6 (by decide) (by decide), f0, hL.b.rv.f3]
      · rw [hj 7 (by decide) (by decide), (fs.p f0).2, z7, hL.b.rv.f4]
      · refine Or.inl ⟨hL.b.rv.f3, ?_, rfl⟩
        rw [hj 1 (by decide) (by decide), fs.j 1 (by decide) (by decide) (by decide) (by decide) (by decide) (by decide) (by decide) (by decide) (by decide), zj 1 (by decide) (by decide) (by decide) (by decide) (by decide), x1]
    refine md_go hLB (fun X' mf hr => ?_)
    simp only [s54_0, s54_1, s54_2, s54_5, s54_6, s54_9, s54_10, s54_11, s54_14, s54_15, s54_16, s54_19, s54_20, s54_21, s54_24, s54_27, s54_28, s54_30, s54_31, s54_34, s54_37, s54_38, s54_41, s54_42, s54_43, s54_46, s54_47, s54_48, s54_49, s54_52, s54_55, s54_56, s54_57, s54_60, s54_61, s54_62, s54_65, s54_66, s54_70, s54_73, s54_76, s54_77, s54_80, s54_83, s54_84, s54_87, s54_91, s54_94, s54_97, s54_98, s54_101, s54_102, s54_103, s54_106, s54_107, s54_108, s54_111, s54_112, s54_115, s54_116, s54_119, f_47_0, f_47_1, u_47_1, f_47_2, u_47_2, f_47_3, f_47_4, u_47_4, f_47_5, f_47_6, u_47_6, f_47_7, u_47_7, f_47_8, u_47_8, f_47_9, u_47_9, f_47_10, u_47_10, f_47_11, f_47_12, f_47_13, f_47_14, f_47_15, f_47_16, f_47_17, f_47_18, f_47_19, f_47_20, f_47_21, f_47_22, f_47_23, u_47_23, f_47_24, f_47_25, f_47_26, f_47_27, f_47_28, f_47_29, u_47_29, f_47_30, u_47_30, f_47_31, f_47_32, f_47_33, f_47_34, f_47_35, u_47_35, f_47_36, u_47_36, f_47_37, u_47_37, f_47_38, u_47_38, o_47, Option.toList_some, Option.toList_none, List.cons_append, List.nil_append, List.append_nil, ip_on_some, true_and, and_true, if_true, if_false, not_true_eq_false, not_false_eq_true, decide_true, true_or, or_true, or_self, Bool.false_eq_true]
    rcases hr with hF | hL
    · rw [hOut] at hF
      rw [s54_69]
      simp only [s54_0, s54_1, s54_2, s54_5, s54_6, s54_9, s54_10, s54_11, s54_14, s54_15, s54_16, s54_19, s54_20, s54_21, s54_24, s54_27, s54_28, s54_30, s54_31, s54_34, s54_37, s54_38, s54_41, s54_42, s54_43, s54_46, s54_47, s54_48, s54_49, s54_52, s54_55, s54_56, s54_57, s54_60, s54_61, s54_62, s54_65, s54_66, s54_70, s54_73, s54_76, s54_77, s54_80, s54_83, s54_84, s54_87, s54_91, s54_94, s54_97, s54_98, s54_101, s54_102, s54_103, s54_106, s54_107, s54_108, s54_111, s54_112, s54_115, s54_116, s54_119, f_47_0, f_47_1, u_47_1, f_47_2, u_47_2, f_47_3, f_47_4, u_47_4, f_47_5, f_47_6, u_47_6, f_47_7, u_47_7, f_47_8, u_47_8, f_47_9, u_47_9, f_47_10, u_47_10, f_47_11, f_47_12, f_47_13, f_47_14, f_47_15, f_47_16, f_47_17, f_47_18, f_47_19, f_47_20, f_47_21, f_47_22, f_47_23, u_47_23, f_47_24, f_47_25, f_47_26, f_47_27, f_47_28, f_47_29, u_47_29, f_47_30, u_47_30, f_47_31, f_47_32, f_47_33, f_47_34, f_47_35, u_47_35, f_47_36, u_47_36, f_47_37, u_47_37, f_47_38, u_47_38, o_47, ne0 hF.pos, Option.toList_some, Option.toList_none, List.cons_append, List.nil_append, List.append_nil, ip_on_some, true_and, and_true, if_true, if_false, not_true_eq_false, not_false_eq_true, decide_true, true_or, or_true, or_self, Bool.false_eq_true]
      exact fail X' A (FR.toS mf.toF) hF
    · have ho : out1 N (advS (beg X0 I0 J0)) = Out := by rw [← hOut, outS_eq hrv]
      refine md_loop _ (advS (beg X0 I0 J0)) X' A (Nat.le_refl _) hL ((hMNA.mf mf).xc (ce_adv _)) (MVf.xc (MV.mf hMVA mf) (ce_adv _)) ?_ ?_ (fun X5 I5 fs hF => ?_) (fun X5 I5 t fs hL5 hMN5 hMV5 ho5 e95 => ?_)
      · rw [adv_ne (by decide)]
        show rbX (coX X0) 32 5 = -1
        simp [rbX, up1, updF_ap]
      · rw [adv_ne (by decide), mf.j 9 (by decide) (by decide) (by decide) (by decide) (by decide) (by decide), zj 9 (by decide) (by decide) (by decide) (by decide) (by decide), e9, hcl.n]
      · rw [ho] at hF
        exact fail X5 I5 ((FR.toS mf.toF).trans fs) hF
      · exact fine X5 I5 t ((FR.toS mf.toF).trans fs) hL5 hMN5 hMV5 (ho.symm.trans ho5) e95
  have := lp (σ := Nat → Nat → Int32) (P := fun i A => (∀ j, j < i → A 51 j = I 49 j) ∧ ∀ a, a ≠ 51 → A a = I1 a) (W := fun i A => ip_WP 54 29 [some (.ref 47), some (.int (nI i))] [] (g0, fld X3 y, A, J) b post px) N (fun i A hi hP hk2 => by
    have c1 : ¬ nI N ≤ nI i := nI_ge hi (by omega)
    have c2 : ¬ nI i < 0 := nI_pos (by omega)
    have c3 : ¬ 4400 ≤ i := by omega
    have e49 : A 49 i = I 49 i := by rw [hP.2 49 (by decide), i49]
    show ip_WP _ _ _ _ _ _ _ _
    rw [s54_29]
    simp only [s54_0, s54_1, s54_2, s54_5, s54_6, s54_9, s54_10, s54_11, s54_14, s54_15, s54_16, s54_19, s54_20, s54_21, s54_24, s54_27, s54_28, s54_30, s54_31, s54_34, s54_37, s54_38, s54_41, s54_42, s54_43, s54_46, s54_47, s54_48, s54_49, s54_52, s54_56, s54_57, s54_60, s54_61, s54_62, s54_65, s54_66, s54_70, s54_73, s54_76, s54_77, s54_80, s54_83, s54_84, s54_87, s54_91, s54_94, s54_97, s54_98, s54_101, s54_102, s54_103, s54_106, s54_107, s54_108, s54_111, s54_112, s54_115, s54_116, s54_119, f_47_0, f_47_1, u_47_1, f_47_2, u_47_2, f_47_3, f_47_4, u_47_4, f_47_5, f_47_6, u_47_6, f_47_7, u_47_7, f_47_8, u_47_8, f_47_9, u_47_9, f_47_10, u_47_10, f_47_11, f_47_12, f_47_13, f_47_14, f_47_15, f_47_16, f_47_17, f_47_18, f_47_19, f_47_20, f_47_21, f_47_22, f_47_23, u_47_23, f_47_24, f_47_25, f_47_26, f_47_27, f_47_28, f_47_29, u_47_29, f_47_30, u_47_30, f_47_31, f_47_32, f_47_33, f_47_34, f_47_35, u_47_35, f_47_36, u_47_36, f_47_37, u_47_37, f_47_38, u_47_38, o_47, a_49, l_49, a_51, l_51, y2, c1, c2, c3, e49, nI_clamp (show i < 2 ^ 31 by omega), nI_1, Option.toList_some, Option.toList_none, List.cons_append, List.nil_append, List.append_nil, ip_on_some, true_and, and_true, if_true, if_false, not_true_eq_false, not_false_eq_true, decide_true, true_or, or_true, or_self, Bool.false_eq_true]
    refine hk2 _ ⟨fun k hk => ?_, fun a ha => by rw [up1, if_neg ha]; exact hP.2 a ha⟩
    rw [up1, if_pos rfl, updF_ap]
    split
    · rename_i z
      rw [z]
    · exact hP.1 k (by omega)) (fun A hP => by
    have c1 : nI N ≤ nI N := Int32.le_refl _
    show ip_WP _ _ _ _ _ _ _ _
    rw [s54_29]
    simp only [s54_0, s54_1, s54_2, s54_5, s54_6, s54_9, s54_10, s54_11, s54_14, s54_15, s54_16, s54_19, s54_20, s54_21, s54_24, s54_27, s54_28, s54_30, s54_31, s54_34, s54_37, s54_38, s54_41, s54_42, s54_43, s54_46, s54_47, s54_48, s54_49, s54_52, s54_56, s54_57, s54_60, s54_61, s54_62, s54_65, s54_66, s54_70, s54_73, s54_76, s54_77, s54_80, s54_83, s54_84, s54_87, s54_91, s54_94, s54_97, s54_98, s54_101, s54_102, s54_103, s54_106, s54_107, s54_108, s54_111, s54_112, s54_115, s54_116, s54_119, f_47_0, f_47_1, u_47_1, f_47_2, u_47_2, f_47_3, f_47_4, u_47_4, f_47_5, f_47_6, u_47_6, f_47_7, u_47_7, f_47_8, u_47_8, f_47_9, u_47_9, f_47_10, u_47_10, f_47_11, f_47_12, f_47_13, f_47_14, f_47_15, f_47_16, f_47_17, f_47_18, f_47_19, f_47_20, f_47_21, f_47_22, f_47_23, u_47_23, f_47_24, f_47_25, f_47_26, f_47_27, f_47_28, f_47_29, u_47_29, f_47_30, u_47_30, f_47_31, f_47_32, f_47_33, f_47_34, f_47_35, u_47_35, f_47_36, u_47_36, f_47_37, u_47_37, f_47_38, u_47_38, o_47, y2, c1, Option.toList_some, Option.toList_none, List.cons_append, List.nil_append, List.append_nil, ip_on_some, true_and, and_true, if_true, if_false, not_true_eq_false, not_false_eq_true, decide_true, true_or, or_true, or_self, Bool.false_eq_true]
    exact rest A hP.1 hP.2) 0 I1 (Nat.zero_le _) ⟨fun k hk => by omega, fun _ _ => rfl⟩
  rw [nI_0] at this
  exact this
end
