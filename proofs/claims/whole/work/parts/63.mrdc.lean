/-! readClass -/
theorem cls_1 {s : SS} : rPart (X1S s) s.2.1 s.2.2.1 s.2.2.2 256 0 = rNew (X1S s) s.2.1 s.2.2.1 s.2.2.2 6 12 := by
  unfold rPart pClass
  rw [if_pos rfl, if_pos rfl]
theorem cls_2 {s : SS} : rPart (X1S s) s.2.1 s.2.2.1 s.2.2.2 256 1 = rComma (X1S s) s.2.2.1 s.2.2.2 0 := by
  unfold rPart pClass
  rw [if_pos rfl, if_neg (by decide)]
section
variable {N : Nat} {y : Int64} {J : Nat → Nat → Int64} {b : ip_B} {post : Option Value → ip_H → Prop} {px : String → ip_H → Prop}
theorem rdp_ft {Out : SS} {X I X' I' : Nat → Nat → Int32} {n14 : Int32} {p0 : Nat} (h : FR X X' I I') (hF : FT Out X') : RDp N Out X I n14 p0 X' I' := ⟨h, Or.inl hF⟩
theorem rdp_tr {s s2 : SS} {X I X2 I2 X' I' : Nat → Nat → Int32} {n14 : Int32} (h : FR X X2 I I2) (hs : ST N s s2) (hr : RDp N (out1 N s2) X2 I2 n14 ((s2.1 33 2).toNatClampNeg) X' I') : RDp N (out1 N s) X I n14 ((s.1 33 2).toNatClampNeg) X' I' := by
  rw [hs.out] at hr
  have hp := hs.pos
  refine ⟨h.trans hr.1, hr.2.imp id ?_⟩
  rintro ⟨t, h1, h2, h3, h4, h5, h6, h7, h8⟩
  exact ⟨t, h1, h2, h3, h4, h5, h6, h7, Nat.le_trans hp h8⟩
theorem md_rdC : ∀ (k : Nat) (s : SS) (X I : Nat → Nat → Int32), N + 1 - (s.1 33 2).toNatClampNeg ≤ k → LR N s X I → MN s.1 s.2.2.2 X I → MVf s.1 s.2.2.1 X I → (∀ i, i < 12 → cnt s.1 0 ≤ i → s.2.2.1 15 i = -1) → s.1 32 5 = 256 → s.1 32 6 = 0 →
    (∀ X' I', RDp N (out1 N s) X I (s.1 5 14) ((s.1 33 2).toNatClampNeg) X' I' → post none (g0, fld X' y, I', J)) → ip_WP 43 2 [some (.ref 47), some (.int 1)] [] (g0, fld X y, I, J) b post px := by
  intro k
  induction k with
  | zero =>
    intro s X I hm h
    have := h.b.rv.q
    omega
  | succ k ih =>
    intro s X I hme h hm hv hl5 h5 h6 hk
    have hp : takeS s = rNew (X1S s) s.2.1 s.2.2.1 s.2.2.2 6 12 := by rw [h.part, h5, h6, cls_1]
    have h5' : ¬ s.1 32 5 = -1 := by rw [h5]; decide
    have stop : ∀ (X' I' : Nat → Nat → Int32), RDp N (out1 N s) X I (s.1 5 14) ((s.1 33 2).toNatClampNeg) X' I' → ip_WP 43 2 [some (.ref 47), some (.int 0)] [] (g0, fld X' y, I', J) b post px := by
      intro X' I' hr
      rw [s43_2]
      simp only [s43_0, s43_1, s43_3, s43_6, s43_7, s43_10, s43_11, s43_12, s43_15, s43_16, s43_17, s43_18, s43_21, s43_22, s43_25, Option.toList_some, Option.toList_none, List.cons_append, List.nil_append, List.append_nil, ip_on_some, true_and, and_true, if_true, if_false, not_true_eq_false, not_false_eq_true, decide_true, true_or, or_true, or_self, Bool.false_eq_true]
      exact hk X' I' hr
    rw [s43_2]
    simp only [s43_0, s43_1, s43_3, s43_6, s43_7, s43_10, s43_11, s43_12, s43_15, s43_16, s43_17, s43_18, s43_21, s43_22, s43_25, f_47_0, f_47_1, u_47_1, f_47_2, u_47_2, f_47_3, f_47_4, u_47_4, f_47_5, f_47_6, u_47_6, f_47_7, u_47_7, f_47_8, u_47_8, f_47_9, u_47_9, f_47_10, u_47_10, f_47_11, f_47_12, f_47_13, f_47_14, f_47_15, f_47_16, f_47_17, f_47_18, f_47_19, f_47_20, f_47_21, f_47_22, f_47_23, u_47_23, f_47_24, f_47_25, f_47_26, f_47_27, f_47_28, f_47_29, u_47_29, f_47_30, u_47_30, f_47_31, f_47_32, f_47_33, f_47_34, f_47_35, u_47_35, f_47_36, u_47_36, f_47_37, u_47_37, f_47_38, u_47_38, o_47, qe_m1_0, qe_m1_1, qe_m1_2, qe_m1_3, qe_m1_4, qe_m1_5, qe_m1_6, qe_m1_7, qe_m1_8, qe_0_m1, qe_0_1, qe_0_2, qe_0_3, qe_0_4, qe_0_5, qe_0_6, qe_0_7, qe_0_8, qe_1_m1, qe_1_0, qe_1_2, qe_1_3, qe_1_4, qe_1_5, qe_1_6, qe_1_7, qe_1_8, qe_2_m1, qe_2_0, qe_2_1, qe_2_3, qe_2_4, qe_2_5, qe_2_6, qe_2_7, qe_2_8, qe_3_m1, qe_3_0, qe_3_1, qe_3_2, qe_3_4, qe_3_5, qe_3_6, qe_3_7, qe_3_8, qe_4_m1, qe_4_0, qe_4_1, qe_4_2, qe_4_3, qe_4_5, qe_4_6, qe_4_7, qe_4_8, qe_5_m1, qe_5_0, qe_5_1, qe_5_2, qe_5_3, qe_5_4, qe_5_6, qe_5_7, qe_5_8, qe_6_m1, qe_6_0, qe_6_1, qe_6_2, qe_6_3, qe_6_4, qe_6_5, qe_6_7, qe_6_8, qe_7_m1, qe_7_0, qe_7_1, qe_7_2, qe_7_3, qe_7_4, qe_7_5, qe_7_6, qe_7_8, qe_8_m1, qe_8_0, qe_8_1, qe_8_2, qe_8_3, qe_8_4, qe_8_5, qe_8_6, qe_8_7, Option.toList_some, Option.toList_none, List.cons_append, List.nil_append, List.append_nil, ip_on_some, true_and, and_true, if_true, if_false, not_true_eq_false, not_false_eq_true, decide_true, true_or, or_true, or_self, Bool.false_eq_true]
    refine st_new (t := 0) h hm h5' (by decide) hp (fun X' I' c mfn hc hF => ?_) (fun X' I' s1 mfn hL hs hMN hlt hcnt eI e13 e14 a5 a6 a7 => ?_)
    · have c2 : ¬ nI c < 0 := nI_pos (by omega)
      have c3 : ¬ 12 ≤ c := by omega
      simp only [s43_0, s43_1, s43_3, s43_6, s43_7, s43_10, s43_11, s43_12, s43_15, s43_16, s43_17, s43_18, s43_21, s43_22, s43_25, f_47_0, f_47_1, u_47_1, f_47_2, u_47_2, f_47_3, f_47_4, u_47_4, f_47_5, f_47_6, u_47_6, f_47_7, u_47_7, f_47_8, u_47_8, f_47_9, u_47_9, f_47_10, u_47_10, f_47_11, f_47_12, f_47_13, f_47_14, f_47_15, f_47_16, f_47_17, f_47_18, f_47_19, f_47_20, f_47_21, f_47_22, f_47_23, u_47_23, f_47_24, f_47_25, f_47_26, f_47_27, f_47_28, f_47_29, u_47_29, f_47_30, u_47_30, f_47_31, f_47_32, f_47_33, f_47_34, f_47_35, u_47_35, f_47_36, u_47_36, f_47_37, u_47_37, f_47_38, u_47_38, o_47, a_58, l_58, nI_clamp (show c < 2 ^ 31 by omega), c2, c3, md_commaF hF.pos, Option.toList_some, Option.toList_none, List.cons_append, List.nil_append, List.append_nil, ip_on_some, true_and, and_true, if_true, if_false, not_true_eq_false, not_false_eq_true, decide_true, true_or, or_true, or_self, Bool.false_eq_true]
      exact stop _ _ (rdp_ft (mfn.toF.trans (FR.arr (by decide) (by decide))) hF)
    · have hlt12 : cnt s.1 0 < 12 := hlt
      have c2 : ¬ nI (cnt s.1 0) < 0 := nI_pos (by omega)
      have c3 : ¬ 12 ≤ cnt s.1 0 := by omega
      have hc0 := hcnt 0 (by decide)
      have hc1 := hcnt 1 (by decide)
      have hc2 := hcnt 2 (by decide)
      have hc3 := hcnt 3 (by decide)
      simp only [Nat.reduceEqDiff, if_true, if_false] at hc0 hc1 hc2 hc3
      rw [h5] at a5
      rw [h6] at a6
      have a6 : s1.1 32 6 = 1 := a6
      have hMN1 : MN s1.1 s1.2.2.2 X' (ip_up I' 58 (cnt s.1 0) 1) := hMN.fr rfl (fun a h1 h2 => by rw [up1, if_neg (by omega)])
      have hx : MV s1.1 s.2.2.1 X' I' (cnt s.1 0) (cnt s.1 2) (cnt s.1 3) := MV.of hv (mfn.j 23 (by decide) (by decide) (by decide) (by decide) (by decide) (by decide) (by decide)) (fun a ha => mfn.a a (by omega)) (by omega) (by omega) e13
      have hMV1 : MVf s1.1 s1.2.2.1 X' (ip_up I' 58 (cnt s.1 0) 1) := by
        show MV s1.1 s1.2.2.1 X' (ip_up I' 58 (cnt s.1 0) 1) (cnt s1.1 0) (cnt s1.1 2) (cnt s1.1 3)
        rw [eI, hc0, hc2, hc3]
        refine ⟨hx.pt, ?_, ?_, ?_, ?_, ?_, ?_, ?_, hx.qn, ?_, hx.prx, fun k h1 h2 => hl5 k h1 (by omega)⟩
        · rw [up1, if_neg (by decide)]; exact hx.res
        · intro i hi
          rw [up1, if_pos rfl, updF_ap]
          by_cases e : i = cnt s.1 0
          · rw [if_pos e, e, if_pos (hl5 _ (by omega) (Nat.le_refl _))]
          · rw [if_neg e]; exact hx.lat i (by omega)
        · rw [up1, if_neg (by decide)]; exact hx.hla
        · rw [up1, if_neg (by decide)]; exact hx.stl
        · rw [up1, if_neg (by decide)]; exact hx.doe
        · rw [up1, if_neg (by decide), up1, if_neg (by decide)]; exact hx.pth
        · rw [up1, if_neg (by decide), up1, if_neg (by decide)]; exact hx.que
        · rw [up1, if_neg (by decide)]; exact hx.prt
      have hL1 : LR N s1 X' (ip_up I' 58 (cnt s.1 0) 1) := hL.of (fun _ _ => rfl) (by rw [up1, if_neg (by decide)]) (by rw [up1, if_neg (by decide)])
      have hfr : FR X X' I (ip_up I' 58 (cnt s.1 0) 1) := mfn.toF.trans (FR.arr (by decide) (by decide))
      have hp1 : takeS s1 = rComma (X1S s1) s1.2.2.1 s1.2.2.2 0 := by rw [hL1.part, a5, a6, cls_2]
      simp only [s43_0, s43_1, s43_3, s43_6, s43_7, s43_10, s43_11, s43_12, s43_15, s43_16, s43_17, s43_18, s43_21, s43_22, s43_25, f_47_0, f_47_1, u_47_1, f_47_2, u_47_2, f_47_3, f_47_4, u_47_4, f_47_5, f_47_6, u_47_6, f_47_7, u_47_7, f_47_8, u_47_8, f_47_9, u_47_9, f_47_10, u_47_10, f_47_11, f_47_12, f_47_13, f_47_14, f_47_15, f_47_16, f_47_17, f_47_18, f_47_19, f_47_20, f_47_21, f_47_22, f_47_23, u_47_23, f_47_24, f_47_25, f_47_26, f_47_27, f_47_28, f_47_29, u_47_29, f_47_30, u_47_30, f_47_31, f_47_32, f_47_33, f_47_34, f_47_35, u_47_35, f_47_36, u_47_36, f_47_37, u_47_37, f_47_38, u_47_38, o_47, a_58, l_58, nI_clamp (show cnt s.1 0 < 2 ^ 31 by omega), c2, c3, Option.toList_some, Option.toList_none, List.cons_append, List.nil_append, List.append_nil, ip_on_some, true_and, and_true, if_true, if_false, not_true_eq_false, not_false_eq_true, decide_true, true_or, or_true, or_self, Bool.false_eq_true]
      refine st_comma hL1 hp1 (fun hcl => ?_) (fun X2 mf hF => ?_) (fun X2 s2 mf hL2 hs2 h44 ce e2 b5 b6 b7 => ?_)
      · simp only [s43_0, s43_1, s43_3, s43_6, s43_7, s43_10, s43_11, s43_12, s43_15, s43_16, s43_17, s43_18, s43_21, s43_22, s43_25, Option.toList_some, Option.toList_none, List.cons_append, List.nil_append, List.append_nil, ip_on_some, true_and, and_true, if_true, if_false, not_true_eq_false, not_false_eq_true, decide_true, true_or, or_true, or_self, Bool.false_eq_true]
        exact stop _ _ ⟨hfr, Or.inr ⟨s1, hL1, hMN1, hMV1, hs.out, by rw [a5]; decide, hcl, e14, hs.pos⟩⟩
      · simp only [s43_0, s43_1, s43_3, s43_6, s43_7, s43_10, s43_11, s43_12, s43_15, s43_16, s43_17, s43_18, s43_21, s43_22, s43_25, Option.toList_some, Option.toList_none, List.cons_append, List.nil_append, List.append_nil, ip_on_some, true_and, and_true, if_true, if_false, not_true_eq_false, not_false_eq_true, decide_true, true_or, or_true, or_self, Bool.false_eq_true]
        rw [hs.out] at hF
        exact stop _ _ (rdp_ft (hfr.trans mf.toF) hF)
      · simp only [s43_0, s43_1, s43_3, s43_6, s43_7, s43_10, s43_11, s43_12, s43_15, s43_16, s43_17, s43_18, s43_21, s43_22, s43_25, Option.toList_some, Option.toList_none, List.cons_append, List.nil_append, List.append_nil, ip_on_some, true_and, and_true, if_true, if_false, not_true_eq_false, not_false_eq_true, decide_true, true_or, or_true, or_self, Bool.false_eq_true]
        have eJ2 : s2.2.2.2 = s1.2.2.2 := congrArg Prod.snd e2
        have eI2 : s2.2.2.1 = s1.2.2.1 := congrArg Prod.fst e2
        have hk1 : ¬ s1.1 33 3 = 1 := by rw [h44]; decide
        have hg := hs.grow hk1
        have hg2 := hs2.pos
        refine ih s2 X2 _ (by omega) hL2 ?_ ?_ ?_ (b5.trans a5) b6 (fun X3 I3 hr => ?_)
        · rw [eJ2]
          exact (hMN1.xc ce).mf mf
        · rw [eI2]
          exact MVf.xc (MV.mf hMV1 mf) ce
        · intro i hi hci
          rw [eI2, eI]
          rw [ce.n (by decide), hc0] at hci
          exact hl5 i hi (by omega)
        · refine hk X3 I3 (rdp_tr (hfr.trans mf.toF) ⟨hs2.out.trans hs.out, by omega, fun z => by have := hs2.grow z; omega⟩ ?_)
          rw [ce 5 (by decide) (by decide), e14] at hr
          exact hr
end
