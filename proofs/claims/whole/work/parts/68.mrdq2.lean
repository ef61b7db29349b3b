/-! readQueue -/
section
variable {Xc : Nat → Nat → Int32} {Ic : Nat → Nat → Int32} {Xm : Nat → Nat → Int32} {Im : Nat → Nat → Int32} {ld qd pd : Nat}
theorem MV.que_up (h : MV Xc Ic Xm Im ld qd pd) (hq : qd < 8) {v : Int32} (h1 : 1 ≤ v) (h2 : v ≤ 999) : MV Xc (ip_up Ic 27 qd v) Xm (ip_up (ip_up Im 65 qd v) 66 qd (-1)) ld (qd + 1) pd := by
  refine ⟨h.pt, ?_, ?_, ?_, ?_, ?_, ?_, ?_, ?_, ?_, ?_, ?_⟩
  · simp only [up1, Nat.reduceEqDiff, if_false]; exact h.res
  · simp only [up1, Nat.reduceEqDiff, if_false]; exact h.lat
  · simp only [up1, Nat.reduceEqDiff, if_false]; exact h.hla
  · simp only [up1, Nat.reduceEqDiff, if_false]; exact h.stl
  · simp only [up1, Nat.reduceEqDiff, if_false]; exact h.doe
  · simp only [up1, Nat.reduceEqDiff, if_false]; exact h.pth
  · intro k hk
    simp only [up1, Nat.reduceEqDiff, if_false, if_true, updF_ap]
    by_cases e : k = qd
    · simp only [e, if_true]
      exact ⟨trivial, (h.qn qd hq (Nat.le_refl _)).symm, ⟨h1, h2⟩, Or.inl (h.qn qd hq (Nat.le_refl _))⟩
    · simp only [e, if_false]
      exact h.que k (by omega)
  · intro k hk hqk
    simp only [up1, Nat.reduceEqDiff, if_false]
    exact h.qn k hk (by omega)
  · simp only [up1, Nat.reduceEqDiff, if_false]; exact h.prt
  · simp only [up1, Nat.reduceEqDiff, if_false]; exact h.prx
  · simp only [up1, Nat.reduceEqDiff, if_false]; exact h.ln
theorem MV.qst_up (h : MV Xc Ic Xm Im ld (qd + 1) pd) {u : Nat} (hu : u < cnt Xc 1) : MV Xc (ip_up Ic 29 qd (nI u)) Xm (ip_up Im 66 qd (nI u)) ld (qd + 1) pd := by
  refine ⟨h.pt, ?_, ?_, ?_, ?_, ?_, ?_, ?_, ?_, ?_, ?_, ?_⟩
  · simp only [up1, Nat.reduceEqDiff, if_false]; exact h.res
  · simp only [up1, Nat.reduceEqDiff, if_false]; exact h.lat
  · simp only [up1, Nat.reduceEqDiff, if_false]; exact h.hla
  · simp only [up1, Nat.reduceEqDiff, if_false]; exact h.stl
  · simp only [up1, Nat.reduceEqDiff, if_false]; exact h.doe
  · simp only [up1, Nat.reduceEqDiff, if_false]; exact h.pth
  · intro k hk
    have hh := h.que k hk
    simp only [up1, Nat.reduceEqDiff, if_false, if_true, updF_ap]
    by_cases e : k = qd
    · simp only [e, if_true]
      rw [e] at hh
      exact ⟨hh.1, trivial, hh.2.2.1, Or.inr ⟨u, hu, rfl⟩⟩
    · simp only [e, if_false]
      exact hh
  · intro k hk hqk
    simp only [up1, if_true, updF_ap]
    rw [if_neg (by omega)]
    exact h.qn k hk hqk
  · simp only [up1, Nat.reduceEqDiff, if_false]; exact h.prt
  · simp only [up1, Nat.reduceEqDiff, if_false]; exact h.prx
  · simp only [up1, Nat.reduceEqDiff, if_false]; exact h.ln
end
section
variable {N : Nat} {s : SS} {X : Nat → Nat → Int32} {y : Int64} {I : Nat → Nat → Int32} {J : Nat → Nat → Int64} {b : ip_B} {post : Option Value → ip_H → Prop} {px : String → ip_H → Prop}
theorem md_rdQ (h : LR N s X I) (hm : MN s.1 s.2.2.2 X I) (hv : MVf s.1 s.2.2.1 X I) (h5 : s.1 32 5 = 263) (h6 : s.1 32 6 = 0)
    (hk : ∀ X' I', RDp N (out1 N s) X I (s.1 5 14) ((s.1 33 2).toNatClampNeg) X' I' → post none (g0, fld X' y, I', J)) : ip_WP 50 0 [some (.ref 47), none, none, none] [] (g0, fld X y, I, J) b post px := by
  have hp : takeS s = rNew (X1S s) s.2.1 s.2.2.1 s.2.2.2 10 8 := by rw [h.part, h5, h6, que_1]
  have h5' : ¬ s.1 32 5 = -1 := by rw [h5]; decide
  simp only [s50_0, s50_1, s50_2, s50_5, s50_6, s50_7, s50_9, s50_12, s50_13, s50_16, s50_19, s50_20, s50_21, s50_24, s50_27, s50_28, s50_29, s50_32, s50_33, s50_34, s50_35, s50_36, s50_39, s50_40, s50_41, s50_42, s50_43, s50_45, s50_48, s50_51, s50_52, s50_53, s50_56, s50_57, s50_58, s50_61, s50_62, s50_63, s50_64, s50_67, s50_70, s50_71, s50_74, s50_75, s50_76, s50_77, f_47_0, f_47_1, u_47_1, f_47_2, u_47_2, f_47_3, f_47_4, u_47_4, f_47_5, f_47_6, u_47_6, f_47_7, u_47_7, f_47_8, u_47_8, f_47_9, u_47_9, f_47_10, u_47_10, f_47_11, f_47_12, f_47_13, f_47_14, f_47_15, f_47_16, f_47_17, f_47_18, f_47_19, f_47_20, f_47_21, f_47_22, f_47_23, u_47_23, f_47_24, f_47_25, f_47_26, f_47_27, f_47_28, f_47_29, u_47_29, f_47_30, u_47_30, f_47_31, f_47_32, f_47_33, f_47_34, f_47_35, u_47_35, f_47_36, u_47_36, f_47_37, u_47_37, f_47_38, u_47_38, o_47, Option.toList_some, Option.toList_none, List.cons_append, List.nil_append, List.append_nil, ip_on_some, true_and, and_true, if_true, if_false, not_true_eq_false, not_false_eq_true, decide_true, true_or, or_true, or_self, Bool.false_eq_true]
  refine st_new (t := 2) h hm h5' (by decide) hp (fun X' I' c mfn hc hF => ?_) (fun X' I' s1 mfn hL hs hMN hlt hcnt eI e13 e14 a5 a6 a7 => ?_)
  · have hf' : ¬ X' 47 6 ≤ 0 := Int32.not_le.mpr hF.pos
    simp only [s50_0, s50_1, s50_2, s50_5, s50_6, s50_7, s50_9, s50_12, s50_13, s50_16, s50_19, s50_20, s50_21, s50_24, s50_27, s50_28, s50_29, s50_32, s50_33, s50_34, s50_35, s50_36, s50_39, s50_40, s50_41, s50_42, s50_43, s50_45, s50_48, s50_51, s50_52, s50_53, s50_56, s50_57, s50_58, s50_61, s50_62, s50_63, s50_64, s50_67, s50_70, s50_71, s50_74, s50_75, s50_76, s50_77, f_47_0, f_47_1, u_47_1, f_47_2, u_47_2, f_47_3, f_47_4, u_47_4, f_47_5, f_47_6, u_47_6, f_47_7, u_47_7, f_47_8, u_47_8, f_47_9, u_47_9, f_47_10, u_47_10, f_47_11, f_47_12, f_47_13, f_47_14, f_47_15, f_47_16, f_47_17, f_47_18, f_47_19, f_47_20, f_47_21, f_47_22, f_47_23, u_47_23, f_47_24, f_47_25, f_47_26, f_47_27, f_47_28, f_47_29, u_47_29, f_47_30, u_47_30, f_47_31, f_47_32, f_47_33, f_47_34, f_47_35, u_47_35, f_47_36, u_47_36, f_47_37, u_47_37, f_47_38, u_47_38, o_47, md_signF hF.pos, md_numF hF.pos, hf', Option.toList_some, Option.toList_none, List.cons_append, List.nil_append, List.append_nil, ip_on_some, true_and, and_true, if_true, if_false, not_true_eq_false, not_false_eq_true, decide_true, true_or, or_true, or_self, Bool.false_eq_true]
    exact hk X' I' (rdp_ft mfn.toF hF)
  · have hq8 : cnt s.1 2 < 8 := hlt
    generalize hq0 : cnt s.1 2 = q0 at *
    have c2 : ¬ nI q0 < 0 := nI_pos (by omega)
    have c3 : ¬ 8 ≤ q0 := by omega
    have hc0 := hcnt 0 (by decide)
    have hc1 := hcnt 1 (by decide)
    have hc2 := hcnt 2 (by decide)
    have hc3 := hcnt 3 (by decide)
    simp only [Nat.reduceEqDiff, if_true, if_false] at hc0 hc1 hc2 hc3
    rw [h5] at a5
    rw [h6] at a6
    have a6 : s1.1 32 6 = 1 := a6
    have b5 : ¬ s1.1 32 5 = -1 := by rw [a5]; decide
    have hv0 : MV s.1 s.2.2.1 X I (cnt s.1 0) q0 (cnt s.1 3) := by rw [← hq0]; exact hv
    have hx : MV s1.1 s.2.2.1 X' I' (cnt s.1 0) q0 (cnt s.1 3) := MV.of hv0 (mfn.j 23 (by decide) (by decide) (by decide) (by decide) (by decide) (by decide) (by decide)) (fun a ha => mfn.a a (by omega)) (by omega) (by omega) e13
    have hp1 : takeS s1 = rSign (X1S s1) s1.2.2.1 s1.2.2.2 61 := by rw [hL.part, a5, a6, que_2]
    simp only [s50_0, s50_1, s50_2, s50_5, s50_6, s50_7, s50_9, s50_12, s50_13, s50_16, s50_19, s50_20, s50_21, s50_24, s50_27, s50_28, s50_29, s50_32, s50_33, s50_34, s50_35, s50_36, s50_39, s50_40, s50_41, s50_42, s50_43, s50_45, s50_48, s50_51, s50_52, s50_53, s50_56, s50_57, s50_58, s50_61, s50_62, s50_63, s50_64, s50_67, s50_70, s50_71, s50_74, s50_75, s50_76, s50_77, f_47_0, f_47_1, u_47_1, f_47_2, u_47_2, f_47_3, f_47_4, u_47_4, f_47_5, f_47_6, u_47_6, f_47_7, u_47_7, f_47_8, u_47_8, f_47_9, u_47_9, f_47_10, u_47_10, f_47_11, f_47_12, f_47_13, f_47_14, f_47_15, f_47_16, f_47_17, f_47_18, f_47_19, f_47_20, f_47_21, f_47_22, f_47_23, u_47_23, f_47_24, f_47_25, f_47_26, f_47_27, f_47_28, f_47_29, u_47_29, f_47_30, u_47_30, f_47_31, f_47_32, f_47_33, f_47_34, f_47_35, u_47_35, f_47_36, u_47_36, f_47_37, u_47_37, f_47_38, u_47_38, o_47, Option.toList_some, Option.toList_none, List.cons_append, List.nil_append, List.append_nil, ip_on_some, true_and, and_true, if_true, if_false, not_true_eq_false, not_false_eq_true, decide_true, true_or, or_true, or_self, Bool.false_eq_true]
    refine st_sign hL (by decide) b5 hp1 (fun X2 mf2 hF => ?_) (fun X2 s2 mf2 hL2 hs2 ce2 e3 d5 d6 d7 => ?_)
    · rw [hs.out] at hF
      have hf' : ¬ X2 47 6 ≤ 0 := Int32.not_le.mpr hF.pos
      simp only [s50_0, s50_1, s50_2, s50_5, s50_6, s50_7, s50_9, s50_12, s50_13, s50_16, s50_19, s50_20, s50_21, s50_24, s50_27, s50_28, s50_29, s50_32, s50_33, s50_34, s50_35, s50_36, s50_39, s50_40, s50_41, s50_42, s50_43, s50_45, s50_48, s50_51, s50_52, s50_53, s50_56, s50_57, s50_58, s50_61, s50_62, s50_63, s50_64, s50_67, s50_70, s50_71, s50_74, s50_75, s50_76, s50_77, f_47_0, f_47_1, u_47_1, f_47_2, u_47_2, f_47_3, f_47_4, u_47_4, f_47_5, f_47_6, u_47_6, f_47_7, u_47_7, f_47_8, u_47_8, f_47_9, u_47_9, f_47_10, u_47_10, f_47_11, f_47_12, f_47_13, f_47_14, f_47_15, f_47_16, f_47_17, f_47_18, f_47_19, f_47_20, f_47_21, f_47_22, f_47_23, u_47_23, f_47_24, f_47_25, f_47_26, f_47_27, f_47_28, f_47_29, u_47_29, f_47_30, u_47_30, f_47_31, f_47_32, f_47_33, f_47_34, f_47_35, u_47_35, f_47_36, u_47_36, f_47_37, u_47_37, f_47_38, u_47_38, o_47, md_numF hF.pos, hf', Option.toList_some, Option.toList_none, List.cons_append, List.nil_append, List.append_nil, ip_on_some, true_and, and_true, if_true, if_false, not_true_eq_false, not_false_eq_true, decide_true, true_or, or_true, or_self, Bool.false_eq_true]
      exact hk X2 I' (rdp_ft (mfn.toF.trans mf2.toF) hF)
    · have f5 : ¬ s2.1 32 5 = -1 := by rw [d5]; exact b5
      have hp2 : takeS s2 = rNum (X1S s2) s2.2.2.1 s2.2.2.2 27 8 999 := by
        rw [hL2.part, d5, a5, d6, a6]
        exact que_3
      simp only [s50_0, s50_1, s50_2, s50_5, s50_6, s50_7, s50_9, s50_12, s50_13, s50_16, s50_19, s50_20, s50_21, s50_24, s50_27, s50_28, s50_29, s50_32, s50_33, s50_34, s50_35, s50_36, s50_39, s50_40, s50_41, s50_42, s50_43, s50_45, s50_48, s50_51, s50_52, s50_53, s50_56, s50_57, s50_58, s50_61, s50_62, s50_63, s50_64, s50_67, s50_70, s50_71, s50_74, s50_75, s50_76, s50_77, f_47_0, f_47_1, u_47_1, f_47_2, u_47_2, f_47_3, f_47_4, u_47_4, f_47_5, f_47_6, u_47_6, f_47_7, u_47_7, f_47_8, u_47_8, f_47_9, u_47_9, f_47_10, u_47_10, f_47_11, f_47_12, f_47_13, f_47_14, f_47_15, f_47_16, f_47_17, f_47_18, f_47_19, f_47_20, f_47_21, f_47_22, f_47_23, u_47_23, f_47_24, f_47_25, f_47_26, f_47_27, f_47_28, f_47_29, u_47_29, f_47_30, u_47_30, f_47_31, f_47_32, f_47_33, f_47_34, f_47_35, u_47_35, f_47_36, u_47_36, f_47_37, u_47_37, f_47_38, u_47_38, o_47, Option.toList_some, Option.toList_none, List.cons_append, List.nil_append, List.append_nil, ip_on_some, true_and, and_true, if_true, if_false, not_true_eq_false, not_false_eq_true, decide_true, true_or, or_true, or_self, Bool.false_eq_true]
      refine st_num hL2 f5 hp2 (fun X3 r mf3 hF => ?_) (fun X3 s3 mf3 hL3 hs3 ce3 e4 g5 g6 g7 l1 l2 => ?_)
      · rw [hs2.out, hs.out] at hF
        have hf' : ¬ X3 47 6 ≤ 0 := Int32.not_le.mpr hF.pos
        simp only [s50_0, s50_1, s50_2, s50_5, s50_6, s50_7, s50_9, s50_12, s50_13, s50_16, s50_19, s50_20, s50_21, s50_24, s50_27, s50_28, s50_29, s50_32, s50_33, s50_34, s50_35, s50_36, s50_39, s50_40, s50_41, s50_42, s50_43, s50_45, s50_48, s50_51, s50_52, s50_53, s50_56, s50_57, s50_58, s50_61, s50_62, s50_63, s50_64, s50_67, s50_70, s50_71, s50_74, s50_75, s50_76, s50_77, f_47_0, f_47_1, u_47_1, f_47_2, u_47_2, f_47_3, f_47_4, u_47_4, f_47_5, f_47_6, u_47_6, f_47_7, u_47_7, f_47_8, u_47_8, f_47_9, u_47_9, f_47_10, u_47_10, f_47_11, f_47_12, f_47_13, f_47_14, f_47_15, f_47_16, f_47_17, f_47_18, f_47_19, f_47_20, f_47_21, f_47_22, f_47_23, u_47_23, f_47_24, f_47_25, f_47_26, f_47_27, f_47_28, f_47_29, u_47_29, f_47_30, u_47_30, f_47_31, f_47_32, f_47_33, f_47_34, f_47_35, u_47_35, f_47_36, u_47_36, f_47_37, u_47_37, f_47_38, u_47_38, o_47, hf', Option.toList_some, Option.toList_none, List.cons_append, List.nil_append, List.append_nil, ip_on_some, true_and, and_true, if_true, if_false, not_true_eq_false, not_false_eq_true, decide_true, true_or, or_true, or_self, Bool.false_eq_true]
        exact hk X3 I' (rdp_ft ((mfn.toF.trans mf2.toF).trans mf3.toF) hF)
      · have hf' : X3 47 6 ≤ 0 := by rw [hL3.b.f]; decide
        have ceA : CE s1.1 s3.1 := ce2.trans ce3
        have eI3 : s3.2.2.1 = ip_up s.2.2.1 27 q0 (s2.1 33 6) := by
          rw [e4]
          show rset s2.2.2.1 27 8 (s2.1 32 7) (s2.1 33 6) = _
          rw [d7, a7, rset_nI hq8 (by decide), show s2.2.2.1 = s.2.2.1 from (congrArg Prod.fst e3).trans eI]
        have eJ3 : s3.2.2.2 = s1.2.2.2 := by
          rw [e4]
          show s2.2.2.2 = _
          exact congrArg Prod.snd e3
        have k5 : s3.1 32 5 = 263 := by rw [g5, d5, a5]
        have k6 : s3.1 32 6 = 3 := by rw [g6, d6, a6]; rfl
        have k7 : s3.1 32 7 = nI q0 := by rw [g7, d7, a7]
        have k5' : ¬ s3.1 32 5 = -1 := by rw [k5]; decide
        have k14 : s3.1 5 14 = s.1 5 14 := by rw [ceA 5 (by decide) (by decide), e14]
        have kout : out1 N s3 = out1 N s := by rw [hs3.out, hs2.out, hs.out]
        have kpos : (s.1 33 2).toNatClampNeg ≤ (s3.1 33 2).toNatClampNeg := Nat.le_trans hs.pos (Nat.le_trans hs2.pos hs3.pos)
        generalize hI1 : ip_up (ip_up I' 65 q0 (s2.1 33 6)) 66 q0 (-1) = I1
        have hfr : FR X X3 I I1 := by
          rw [← hI1]
          exact ((mfn.toF.trans mf2.toF).trans mf3.toF).trans ((FR.arr (by decide) (by decide)).trans (FR.arr (by decide) (by decide)))
        have hL3' : LR N s3 X3 I1 := by
          rw [← hI1]
          exact hL3.of (fun _ _ => rfl) (by rw [up1, if_neg (by decide), up1, if_neg (by decide)]) (by rw [up1, if_neg (by decide), up1, if_neg (by decide)])
        have hMN3 : MN s3.1 s3.2.2.2 X3 I1 := by
          rw [← hI1, eJ3]
          exact (((hMN.xc ceA).mf mf2).mf mf3).fr rfl (fun a h1 h2 => by rw [up1, if_neg (by omega), up1, if_neg (by omega)])
        have hMV3 : MVf s3.1 s3.2.2.1 X3 I1 := by
          have := MV.xc (MV.que_up (MV.mf (MV.mf hx mf2) mf3) hq8 l1 l2) ceA
          rw [hI1] at this
          show MV s3.1 s3.2.2.1 X3 I1 (cnt s3.1 0) (cnt s3.1 2) (cnt s3.1 3)
          rw [ceA.n (u := 0) (by decide), ceA.n (u := 2) (by decide), ceA.n (u := 3) (by decide), hc0, hc2, hc3, eI3]
          exact this
        have hp3 : takeS s3 = rWord (X1S s3) s3.2.2.1 s3.2.2.2 264 := by rw [hL3'.part, k5, k6, que_4]
        have e33 : X1S s3 33 3 = s3.1 33 3 := by rw [x1_ne (by decide)]
        have hw := hL3'.word (w := 8) (by decide)
        have hw : (X3 47 35 = 4 ∧ X3 47 38 = 8) = (s3.1 33 3 = 264) := hw
        simp only [s50_0, s50_1, s50_2, s50_5, s50_6, s50_7, s50_9, s50_12, s50_13, s50_16, s50_19, s50_20, s50_21, s50_24, s50_27, s50_28, s50_29, s50_32, s50_33, s50_34, s50_35, s50_36, s50_39, s50_40, s50_41, s50_42, s50_43, s50_45, s50_48, s50_51, s50_52, s50_53, s50_56, s50_57, s50_58, s50_61, s50_62, s50_63, s50_64, s50_67, s50_70, s50_71, s50_74, s50_75, s50_76, s50_77, f_47_0, f_47_1, u_47_1, f_47_2, u_47_2, f_47_3, f_47_4, u_47_4, f_47_5, f_47_6, u_47_6, f_47_7, u_47_7, f_47_8, u_47_8, f_47_9, u_47_9, f_47_10, u_47_10, f_47_11, f_47_12, f_47_13, f_47_14, f_47_15, f_47_16, f_47_17, f_47_18, f_47_19, f_47_20, f_47_21, f_47_22, f_47_23, u_47_23, f_47_24, f_47_25, f_47_26, f_47_27, f_47_28, f_47_29, u_47_29, f_47_30, u_47_30, f_47_31, f_47_32, f_47_33, f_47_34, f_47_35, u_47_35, f_47_36, u_47_36, f_47_37, u_47_37, f_47_38, u_47_38, o_47, a_65, l_65, a_66, l_66, hf', nI_clamp (show q0 < 2 ^ 31 by omega), c2, c3, md_isWord, hL3.b.f, hI1, hw, bI_0, Option.toList_some, Option.toList_none, List.cons_append, List.nil_append, List.append_nil, ip_on_some, true_and, and_true, if_true, if_false, not_true_eq_false, not_false_eq_true, decide_true, true_or, or_true, or_self, Bool.false_eq_true]
        by_cases q : s3.1 33 3 = 264
        · have hst3 : takeS s3 = (0, X1S s3, s3.2.2.1, s3.2.2.2) := by
            rw [hp3]
            unfold rWord
            rw [if_pos (e33.trans q)]
          simp only [q, Option.toList_some, Option.toList_none, List.cons_append, List.nil_append, List.append_nil, ip_on_some, true_and, and_true, if_true, if_false, not_true_eq_false, not_false_eq_true, decide_true, true_or, or_true, or_self, Bool.false_eq_true]
          refine st_adv hL3' hst3 (fun X4 mf4 hF => ?_) (fun X4 s4 mf4 hL4 hs4 e5 e6 => ?_)
          · rw [kout] at hF
            simp only [s50_0, s50_1, s50_2, s50_5, s50_6, s50_7, s50_9, s50_12, s50_13, s50_16, s50_19, s50_20, s50_21, s50_24, s50_27, s50_28, s50_29, s50_32, s50_33, s50_34, s50_35, s50_36, s50_39, s50_40, s50_41, s50_42, s50_43, s50_45, s50_48, s50_51, s50_52, s50_53, s50_56, s50_57, s50_58, s50_61, s50_62, s50_63, s50_64, s50_67, s50_70, s50_71, s50_74, s50_75, s50_76, s50_77, f_47_0, f_47_1, u_47_1, f_47_2, u_47_2, f_47_3, f_47_4, u_47_4, f_47_5, f_47_6, u_47_6, f_47_7, u_47_7, f_47_8, u_47_8, f_47_9, u_47_9, f_47_10, u_47_10, f_47_11, f_47_12, f_47_13, f_47_14, f_47_15, f_47_16, f_47_17, f_47_18, f_47_19, f_47_20, f_47_21, f_47_22, f_47_23, u_47_23, f_47_24, f_47_25, f_47_26, f_47_27, f_47_28, f_47_29, u_47_29, f_47_30, u_47_30, f_47_31, f_47_32, f_47_33, f_47_34, f_47_35, u_47_35, f_47_36, u_47_36, f_47_37, u_47_37, f_47_38, u_47_38, o_47, md_oldF hF.pos, md_takeF hF.pos, Option.toList_some, Option.toList_none, List.cons_append, List.nil_append, List.append_nil, ip_on_some, true_and, and_true, if_true, if_false, not_true_eq_false, not_false_eq_true, decide_true, true_or, or_true, or_self, Bool.false_eq_true]
            exact hk X4 I1 (rdp_ft (hfr.trans mf4.toF) hF)
          · have ce4 : CE s3.1 s4.1 := fun k h1 h2 => by rw [e5 k h2, x1_ne h1]
            have m5 : s4.1 32 5 = 263 := by rw [e5 32 (by decide), x1_5, k5]
            have m6 : s4.1 32 6 = 4 := by rw [e5 32 (by decide), x1_6, k6]; rfl
            have m7 : s4.1 32 7 = nI q0 := by rw [e5 32 (by decide), x1_7, k7]
            have m5' : ¬ s4.1 32 5 = -1 := by rw [m5]; decide
            have eI4 : s4.2.2.1 = s3.2.2.1 := by rw [e6]
            have eJ4 : s4.2.2.2 = s3.2.2.2 := by rw [e6]
            have hMN4 : MN s4.1 s4.2.2.2 X4 I1 := by rw [eJ4]; exact (hMN3.xc ce4).mf mf4
            have hp4 : takeS s4 = rStg (X1S s4) s4.2.1 s4.2.2.1 s4.2.2.2 29 8 := by rw [hL4.part, m5, m6, que_5]
            have hb1 := (hMN4.bd.c 1 (by decide)).2.1
            simp only [Nat.reduceLT, if_true] at hb1
            simp only [s50_0, s50_1, s50_2, s50_5, s50_6, s50_7, s50_9, s50_12, s50_13, s50_16, s50_19, s50_20, s50_21, s50_24, s50_27, s50_28, s50_29, s50_32, s50_33, s50_34, s50_35, s50_36, s50_39, s50_40, s50_41, s50_42, s50_43, s50_45, s50_48, s50_51, s50_52, s50_53, s50_56, s50_57, s50_58, s50_61, s50_62, s50_63, s50_64, s50_67, s50_70, s50_71, s50_74, s50_75, s50_76, s50_77, f_47_0, f_47_1, u_47_1, f_47_2, u_47_2, f_47_3, f_47_4, u_47_4, f_47_5, f_47_6, u_47_6, f_47_7, u_47_7, f_47_8, u_47_8, f_47_9, u_47_9, f_47_10, u_47_10, f_47_11, f_47_12, f_47_13, f_47_14, f_47_15, f_47_16, f_47_17, f_47_18, f_47_19, f_47_20, f_47_21, f_47_22, f_47_23, u_47_23, f_47_24, f_47_25, f_47_26, f_47_27, f_47_28, f_47_29, u_47_29, f_47_30, u_47_30, f_47_31, f_47_32, f_47_33, f_47_34, f_47_35, u_47_35, f_47_36, u_47_36, f_47_37, u_47_37, f_47_38, u_47_38, o_47, Option.toList_some, Option.toList_none, List.cons_append, List.nil_append, List.append_nil, ip_on_some, true_and, and_true, if_true, if_false, not_true_eq_false, not_false_eq_true, decide_true, true_or, or_true, or_self, Bool.false_eq_true]
            refine md_old (t := 1) hL4 hMN4 m5' (by decide) (fun z => by rw [hp4]; exact stg_f z) (fun X5 mf5 hF => ?_) (fun u hu hkd2 hkey2 hnf2 => ?_)
            · rw [hs4.out, kout] at hF
              simp only [s50_0, s50_1, s50_2, s50_5, s50_6, s50_7, s50_9, s50_12, s50_13, s50_16, s50_19, s50_20, s50_21, s50_24, s50_27, s50_28, s50_29, s50_32, s50_33, s50_34, s50_35, s50_36, s50_39, s50_40, s50_41, s50_42, s50_43, s50_45, s50_48, s50_51, s50_52, s50_53, s50_56, s50_57, s50_58, s50_61, s50_62, s50_63, s50_64, s50_67, s50_70, s50_71, s50_74, s50_75, s50_76, s50_77, f_47_0, f_47_1, u_47_1, f_47_2, u_47_2, f_47_3, f_47_4, u_47_4, f_47_5, f_47_6, u_47_6, f_47_7, u_47_7, f_47_8, u_47_8, f_47_9, u_47_9, f_47_10, u_47_10, f_47_11, f_47_12, f_47_13, f_47_14, f_47_15, f_47_16, f_47_17, f_47_18, f_47_19, f_47_20, f_47_21, f_47_22, f_47_23, u_47_23, f_47_24, f_47_25, f_47_26, f_47_27, f_47_28, f_47_29, u_47_29, f_47_30, u_47_30, f_47_31, f_47_32, f_47_33, f_47_34, f_47_35, u_47_35, f_47_36, u_47_36, f_47_37, u_47_37, f_47_38, u_47_38, o_47, md_takeF hF.pos, Option.toList_some, Option.toList_none, List.cons_append, List.nil_append, List.append_nil, ip_on_some, true_and, and_true, if_true, if_false, not_true_eq_false, not_false_eq_true, decide_true, true_or, or_true, or_self, Bool.false_eq_true]
              exact hk X5 I1 (rdp_ft ((hfr.trans mf4.toF).trans mf5.toF) hF)
            · have hst4 : takeS s4 = (0, ip_up (X1S s4) 32 8 (nI u), ip_up s4.2.2.1 29 q0 (nI u), s4.2.2.2) := by
                rw [hp4]
                exact stg_0 hq8 (by decide) (by omega) m7 hkd2 hnf2
              simp only [s50_0, s50_1, s50_2, s50_5, s50_6, s50_7, s50_9, s50_12, s50_13, s50_16, s50_19, s50_20, s50_21, s50_24, s50_27, s50_28, s50_29, s50_32, s50_33, s50_34, s50_35, s50_36, s50_39, s50_40, s50_41, s50_42, s50_43, s50_45, s50_48, s50_51, s50_52, s50_53, s50_56, s50_57, s50_58, s50_61, s50_62, s50_63, s50_64, s50_67, s50_70, s50_71, s50_74, s50_75, s50_76, s50_77, f_47_0, f_47_1, u_47_1, f_47_2, u_47_2, f_47_3, f_47_4, u_47_4, f_47_5, f_47_6, u_47_6, f_47_7, u_47_7, f_47_8, u_47_8, f_47_9, u_47_9, f_47_10, u_47_10, f_47_11, f_47_12, f_47_13, f_47_14, f_47_15, f_47_16, f_47_17, f_47_18, f_47_19, f_47_20, f_47_21, f_47_22, f_47_23, u_47_23, f_47_24, f_47_25, f_47_26, f_47_27, f_47_28, f_47_29, u_47_29, f_47_30, u_47_30, f_47_31, f_47_32, f_47_33, f_47_34, f_47_35, u_47_35, f_47_36, u_47_36, f_47_37, u_47_37, f_47_38, u_47_38, o_47, Option.toList_some, Option.toList_none, List.cons_append, List.nil_append, List.append_nil, ip_on_some, true_and, and_true, if_true, if_false, not_true_eq_false, not_false_eq_true, decide_true, true_or, or_true, or_self, Bool.false_eq_true]
              refine st_take (v := False) hL4 m5' (fun z => z.elim) (fun _ => hst4) (fun X5 r mf5 hF => ?_) (fun X5 s5 _ mf5 hL5 hs5 e7 e8 => ?_)
              · rw [hs4.out, kout] at hF
                cases r with
                | false =>
                  simp only [s50_0, s50_1, s50_2, s50_5, s50_6, s50_7, s50_9, s50_12, s50_13, s50_16, s50_19, s50_20, s50_21, s50_24, s50_27, s50_28, s50_29, s50_32, s50_33, s50_34, s50_35, s50_36, s50_39, s50_40, s50_41, s50_42, s50_43, s50_45, s50_48, s50_51, s50_52, s50_53, s50_56, s50_57, s50_58, s50_61, s50_62, s50_63, s50_64, s50_67, s50_70, s50_71, s50_74, s50_75, s50_76, s50_77, f_47_0, f_47_1, u_47_1, f_47_2, u_47_2, f_47_3, f_47_4, u_47_4, f_47_5, f_47_6, u_47_6, f_47_7, u_47_7, f_47_8, u_47_8, f_47_9, u_47_9, f_47_10, u_47_10, f_47_11, f_47_12, f_47_13, f_47_14, f_47_15, f_47_16, f_47_17, f_47_18, f_47_19, f_47_20, f_47_21, f_47_22, f_47_23, u_47_23, f_47_24, f_47_25, f_47_26, f_47_27, f_47_28, f_47_29, u_47_29, f_47_30, u_47_30, f_47_31, f_47_32, f_47_33, f_47_34, f_47_35, u_47_35, f_47_36, u_47_36, f_47_37, u_47_37, f_47_38, u_47_38, o_47, bI_ff, Option.toList_some, Option.toList_none, List.cons_append, List.nil_append, List.append_nil, ip_on_some, true_and, and_true, if_true, if_false, not_true_eq_false, not_false_eq_true, decide_true, true_or, or_true, or_self, Bool.false_eq_true]
                  exact hk X5 I1 (rdp_ft ((hfr.trans mf4.toF).trans mf5.toF) hF)
                | true =>
                  simp only [s50_0, s50_1, s50_2, s50_5, s50_6, s50_7, s50_9, s50_12, s50_13, s50_16, s50_19, s50_20, s50_21, s50_24, s50_27, s50_28, s50_29, s50_32, s50_33, s50_34, s50_35, s50_36, s50_39, s50_40, s50_41, s50_42, s50_43, s50_45, s50_48, s50_51, s50_52, s50_53, s50_56, s50_57, s50_58, s50_61, s50_62, s50_63, s50_64, s50_67, s50_70, s50_71, s50_74, s50_75, s50_76, s50_77, f_47_0, f_47_1, u_47_1, f_47_2, u_47_2, f_47_3, f_47_4, u_47_4, f_47_5, f_47_6, u_47_6, f_47_7, u_47_7, f_47_8, u_47_8, f_47_9, u_47_9, f_47_10, u_47_10, f_47_11, f_47_12, f_47_13, f_47_14, f_47_15, f_47_16, f_47_17, f_47_18, f_47_19, f_47_20, f_47_21, f_47_22, f_47_23, u_47_23, f_47_24, f_47_25, f_47_26, f_47_27, f_47_28, f_47_29, u_47_29, f_47_30, u_47_30, f_47_31, f_47_32, f_47_33, f_47_34, f_47_35, u_47_35, f_47_36, u_47_36, f_47_37, u_47_37, f_47_38, u_47_38, o_47, a_66, l_66, bI_tt, qe_m1_0, qe_m1_1, qe_m1_2, qe_m1_3, qe_m1_4, qe_m1_5, qe_m1_6, qe_m1_7, qe_m1_8, qe_0_m1, qe_0_1, qe_0_2, qe_0_3, qe_0_4, qe_0_5, qe_0_6, qe_0_7, qe_0_8, qe_1_m1, qe_1_0, qe_1_2, qe_1_3, qe_1_4, qe_1_5, qe_1_6, qe_1_7, qe_1_8, qe_2_m1, qe_2_0, qe_2_1, qe_2_3, qe_2_4, qe_2_5, qe_2_6, qe_2_7, qe_2_8, qe_3_m1, qe_3_0, qe_3_1, qe_3_2, qe_3_4, qe_3_5, qe_3_6, qe_3_7, qe_3_8, qe_4_m1, qe_4_0, qe_4_1, qe_4_2, qe_4_3, qe_4_5, qe_4_6, qe_4_7, qe_4_8, qe_5_m1, qe_5_0, qe_5_1, qe_5_2, qe_5_3, qe_5_4, qe_5_6, qe_5_7, qe_5_8, qe_6_m1, qe_6_0, qe_6_1, qe_6_2, qe_6_3, qe_6_4, qe_6_5, qe_6_7, qe_6_8, qe_7_m1, qe_7_0, qe_7_1, qe_7_2, qe_7_3, qe_7_4, qe_7_5, qe_7_6, qe_7_8, qe_8_m1, qe_8_0, qe_8_1, qe_8_2, qe_8_3, qe_8_4, qe_8_5, qe_8_6, qe_8_7, nI_clamp (show q0 < 2 ^ 31 by omega), c2, c3, Option.toList_some, Option.toList_none, List.cons_append, List.nil_append, List.append_nil, ip_on_some, true_and, and_true, if_true, if_false, not_true_eq_false, not_false_eq_true, decide_true, true_or, or_true, or_self, Bool.false_eq_true]
                  exact hk X5 _ (rdp_ft (((hfr.trans mf4.toF).trans mf5.toF).trans (FR.arr (by decide) (by decide))) hF)
              · simp only [s50_0, s50_1, s50_2, s50_5, s50_6, s50_7, s50_9, s50_12, s50_13, s50_16, s50_19, s50_20, s50_21, s50_24, s50_27, s50_28, s50_29, s50_32, s50_33, s50_34, s50_35, s50_36, s50_39, s50_40, s50_41, s50_42, s50_43, s50_45, s50_48, s50_51, s50_52, s50_53, s50_56, s50_57, s50_58, s50_61, s50_62, s50_63, s50_64, s50_67, s50_70, s50_71, s50_74, s50_75, s50_76, s50_77, f_47_0, f_47_1, u_47_1, f_47_2, u_47_2, f_47_3, f_47_4, u_47_4, f_47_5, f_47_6, u_47_6, f_47_7, u_47_7, f_47_8, u_47_8, f_47_9, u_47_9, f_47_10, u_47_10, f_47_11, f_47_12, f_47_13, f_47_14, f_47_15, f_47_16, f_47_17, f_47_18, f_47_19, f_47_20, f_47_21, f_47_22, f_47_23, u_47_23, f_47_24, f_47_25, f_47_26, f_47_27, f_47_28, f_47_29, u_47_29, f_47_30, u_47_30, f_47_31, f_47_32, f_47_33, f_47_34, f_47_35, u_47_35, f_47_36, u_47_36, f_47_37, u_47_37, f_47_38, u_47_38, o_47, a_66, l_66, qe_m1_0, qe_m1_1, qe_m1_2, qe_m1_3, qe_m1_4, qe_m1_5, qe_m1_6, qe_m1_7, qe_m1_8, qe_0_m1, qe_0_1, qe_0_2, qe_0_3, qe_0_4, qe_0_5, qe_0_6, qe_0_7, qe_0_8, qe_1_m1, qe_1_0, qe_1_2, qe_1_3, qe_1_4, qe_1_5, qe_1_6, qe_1_7, qe_1_8, qe_2_m1, qe_2_0, qe_2_1, qe_2_3, qe_2_4, qe_2_5, qe_2_6, qe_2_7, qe_2_8, qe_3_m1, qe_3_0, qe_3_1, qe_3_2, qe_3_4, qe_3_5, qe_3_6, qe_3_7, qe_3_8, qe_4_m1, qe_4_0, qe_4_1, qe_4_2, qe_4_3, qe_4_5, qe_4_6, qe_4_7, qe_4_8, qe_5_m1, qe_5_0, qe_5_1, qe_5_2, qe_5_3, qe_5_4, qe_5_6, qe_5_7, qe_5_8, qe_6_m1, qe_6_0, qe_6_1, qe_6_2, qe_6_3, qe_6_4, qe_6_5, qe_6_7, qe_6_8, qe_7_m1, qe_7_0, qe_7_1, qe_7_2, qe_7_3, qe_7_4, qe_7_5, qe_7_6, qe_7_8, qe_8_m1, qe_8_0, qe_8_1, qe_8_2, qe_8_3, qe_8_4, qe_8_5, qe_8_6, qe_8_7, nI_clamp (show q0 < 2 ^ 31 by omega), c2, c3, Option.toList_some, Option.toList_none, List.cons_append, List.nil_append, List.append_nil, ip_on_some, true_and, and_true, if_true, if_false, not_true_eq_false, not_false_eq_true, decide_true, true_or, or_true, or_self, Bool.false_eq_true]
                have ce5 : CE s3.1 s5.1 := ce4.trans (fun k h1 h2 => by rw [e7 k h2, x8_ne h1])
                refine hk _ _ ⟨((hfr.trans mf4.toF).trans mf5.toF).trans (FR.arr (by decide) (by decide)), Or.inr ⟨s5, ?_, ?_, ?_, ?_, ?_, ?_, ?_, Nat.le_trans kpos (Nat.le_trans hs4.pos hs5.pos)⟩⟩
                · exact hL5.of (fun _ _ => rfl) (by rw [up1, if_neg (by decide)]) (by rw [up1, if_neg (by decide)])
                · rw [show s5.2.2.2 = s3.2.2.2 from by rw [e8]; exact eJ4]
                  exact (((hMN3.xc ce5).mf mf4).mf mf5).fr rfl (fun a h1 h2 => by rw [up1, if_neg (by omega)])
                · have hu3 : u < cnt s3.1 1 := by rw [← ce4.n (by decide)]; exact hu
                  have hMV3' : MV s3.1 s3.2.2.1 X3 I1 (cnt s3.1 0) (q0 + 1) (cnt s3.1 3) := by
                    have hq3 : cnt s3.1 2 = q0 + 1 := by rw [ceA.n (by decide), hc2]
                    rw [← hq3]
                    exact hMV3
                  have := MV.xc (MV.qst_up (MV.mf (MV.mf hMV3' mf4) mf5) hu3) ce5
                  show MV s5.1 s5.2.2.1 X5 _ (cnt s5.1 0) (cnt s5.1 2) (cnt s5.1 3)
                  rw [ce5.n (u := 0) (by decide), ce5.n (u := 2) (by decide), ce5.n (u := 3) (by decide), ceA.n (u := 2) (by decide), hc2, show s5.2.2.1 = ip_up s3.2.2.1 29 q0 (nI u) from by rw [e8, ← eI4]]
                  exact this
                · rw [hs5.out, hs4.out, kout]
                · rw [e7 32 (by decide), x8_5]; exact m5'
                · rw [hL5.part, e7 32 (by decide), x8_5, x8_6, m5, m6]
                  exact que_6
                · rw [ce5 5 (by decide) (by decide), k14]
        · simp only [q, Option.toList_some, Option.toList_none, List.cons_append, List.nil_append, List.append_nil, ip_on_some, true_and, and_true, if_true, if_false, not_true_eq_false, not_false_eq_true, decide_true, true_or, or_true, or_self, Bool.false_eq_true]
          refine hk _ _ ⟨hfr, Or.inr ⟨s3, hL3', hMN3, hMV3, kout, k5', ?_, k14, kpos⟩⟩
          rw [hp3]
          unfold rWord
          rw [if_neg (fun z => q (e33.symm.trans z))]
end
